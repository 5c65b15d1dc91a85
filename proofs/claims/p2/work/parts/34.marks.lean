/-! Replay: conflict, findMarks -/
theorem z_iincWN {lay : z_Lay} {mi : z_MI} {pc : Nat} {L L' : z_Loc} {st : List Value} {σ : z_Sto} {Φ : z_Post} {i x : Nat} (m : Nat) {k : Int} (hd : decode mi.2.1 pc = .ok (.iinc i k, 6)) (hm : Int32.ofInt k = nI m) (hx : L[i]? = some (some (.int (nI x)))) (hn : i < mi.2.2.1) (h2 : z_ok1 L i = true) (hL' : L.set i (some (.int (nI (x + m)))) = L') (kk : z_R lay mi (pc + 6) L' st σ Φ) : z_R lay mi pc L st σ Φ := z_iincW hd hx hn h2 (by rw [hm, nI_add]; exact hL') kk
def x_told (i k : Nat) : Int32 := -1000 - nI (i * 16 + k)
def x_cf3 (σ : z_Sto) (tr i : Nat) : Nat → Nat → Option Int32
  | 0, _ => none
  | f + 1, k => if (σ 6 i = nI 1 ∧ σ 6 k = nI 2) ∧ x_cm (x_both i k) σ tr 0 = 0 then some (x_told i k) else x_cf3 σ tr i f (k + 1)
theorem x_cf3_no {σ : z_Sto} {tr i f k : Nat} (h : ¬ ((σ 6 i = nI 1 ∧ σ 6 k = nI 2) ∧ x_cm (x_both i k) σ tr 0 = 0)) : x_cf3 σ tr i (f + 1) k = x_cf3 σ tr i f (k + 1) := by rw [x_cf3, if_neg h]
def x_cf2 (σ : z_Sto) (n tr : Nat) : Nat → Nat → Int32
  | 0, _ => -999
  | f + 1, i => match x_cf3 σ tr i n 0 with
    | some v => v
    | none => x_cf2 σ n tr f (i + 1)
def x_cf1 (σ : z_Sto) (n tr : Nat) : Nat → Nat → Int32
  | 0, _ => x_cf2 σ n tr n 0
  | f + 1, i => if ¬ σ 6 i = 0 ∧ x_cm (x_both i i) σ tr 0 = 0 then x_told i i else x_cf1 σ n tr f (i + 1)
set_option maxRecDepth 20000 in
theorem c_X3_cf101 {σ : z_Sto} {i k tr : Nat} {v3 : Int32} {Φ : z_Post} (ht : σ 21 6 = nI tr) (h4 : tr ≤ 420) (hret : (¬ v3 = 0) ∧ x_cm (x_both i k) σ tr 0 = 0 → Φ (some (.int (x_told i k))) σ) (K : ¬ ((¬ v3 = 0) ∧ x_cm (x_both i k) σ tr 0 = 0) → z_R layX iX3_conflict 60 [some (.ref 21), some (.int (nI i)), some (.int (nI (k + 1))), some (.int v3)] [] σ Φ) : z_R layX iX3_conflict 101 [some (.ref 21), some (.int (nI i)), some (.int (nI k)), some (.int v3)] [] σ Φ := by
  refine z_iload_n (pc := 101) dX3_conflict_101 rfl ?_
  refine z_if_eq (pc := 102) (tgt := 120) dX3_conflict_102 (by decide) (fun h102 => ?_) (fun h102 => ?_)
  · refine z_iincN (pc := 120) dX3_conflict_120 rfl (by decide) rfl rfl ?_
    refine z_goto (pc := 123) (tgt := 60) dX3_conflict_123 (by decide) ?_
    exact K (by first | exact fun g => g.1 h102 | exact fun g => h111 g.2)
  · refine z_aload_n (pc := 105) dX3_conflict_105 rfl ?_
    refine z_iload_n (pc := 106) dX3_conflict_106 rfl ?_
    refine z_iload_n (pc := 107) dX3_conflict_107 rfl ?_
    refine z_cV2 (pc := 108) mX3_canMeet l_X3_109 (by decide) dX3_conflict_108 (by decide) rfl rfl (by decide) (Nat.le_of_ble_eq_true rfl) (c_X3_canMeet ht h4) rfl (fun r108 σ108 hr108 => ?_)
    obtain ⟨rfl, rfl⟩ := hr108
    refine z_if_ne (pc := 111) (tgt := 120) dX3_conflict_111 (by decide) (fun h111 => ?_) (fun h111 => ?_)
    · refine z_iincN (pc := 120) dX3_conflict_120 rfl (by decide) rfl rfl ?_
      refine z_goto (pc := 123) (tgt := 60) dX3_conflict_123 (by decide) ?_
      exact K (by first | exact fun g => g.1 h102 | exact fun g => h111 g.2)
    · refine z_iload_n (pc := 114) dX3_conflict_114 rfl ?_
      refine z_iload_n (pc := 115) dX3_conflict_115 rfl ?_
      refine z_cS2 (pc := 116) mX3_told l_X3_113 (by decide) dX3_conflict_116 (by decide) (Nat.le_of_ble_eq_true rfl) (c_X3_told) rfl (fun r116 σ116 hr116 => ?_)
      obtain ⟨rfl, rfl⟩ := hr116
      exact z_ireturn (pc := 119) dX3_conflict_119 rfl rfl (hret ⟨h102, h111⟩)
set_option maxRecDepth 20000 in
theorem c_X3_cf3 {σ : z_Sto} {n i k tr : Nat} {v3 : Option Value} {Φ : z_Post} (hn : σ 3 3 = nI n) (h12 : n ≤ 12) (ht : σ 21 6 = nI tr) (h4 : tr ≤ 420) (hi : i < n) (hk : k ≤ n) (hret : ∀ v, x_cf3 σ tr i (n - k) k = some v → Φ (some (.int v)) σ) (K : x_cf3 σ tr i (n - k) k = none → ∀ w, z_R layX iX3_conflict 126 [some (.ref 21), some (.int (nI i)), some (.int (nI n)), w] [] σ Φ) : z_R layX iX3_conflict 60 [some (.ref 21), some (.int (nI i)), some (.int (nI k)), v3] [] σ Φ := by
  generalize hf : n - k = f at hret K
  induction f using Nat.strongRecOn generalizing k v3
  rename_i f ih
  refine z_iload_n (pc := 60) dX3_conflict_60 rfl ?_
  refine z_aload_n (pc := 61) dX3_conflict_61 rfl ?_
  refine z_getA (pc := 62) f_X3_29 dX3_conflict_62 (by decide) rfl rfl ?_
  refine z_cV0 (pc := 65) mX4_size l_X3_105 (by decide) dX3_conflict_65 (by decide) rfl rfl (by decide) (Nat.le_of_ble_eq_true rfl) (c_X4_size) rfl (fun r65 σ65 hr65 => ?_)
  obtain ⟨rfl, rfl⟩ := hr65
  rw [hn]
  refine z_icmp_ge (pc := 68) (tgt := 126) dX3_conflict_68 (by decide) (fun h68 => ?_) (fun h68 => ?_)
  · have q68 : k = n := by have := (nI_leI (by omega) (by omega)).mp h68; omega
    subst q68
    have q0 : f = 0 := by omega
    subst q0
    exact K rfl v3
  · have q68 : k < n := by have : ¬ n ≤ k := fun q => h68 ((nI_leI (by omega) (by omega)).mpr q); omega
    have hf1 : f = (n - (k + 1)) + 1 := by omega
    refine z_aload_n (pc := 71) dX3_conflict_71 rfl ?_
    refine z_getA (pc := 72) f_X3_29 dX3_conflict_72 (by decide) rfl rfl ?_
    refine z_iload_n (pc := 75) dX3_conflict_75 rfl ?_
    refine z_cV1 (pc := 76) mX4_markOf l_X3_106 (by decide) dX3_conflict_76 (by decide) rfl rfl (by decide) (Nat.le_of_ble_eq_true rfl) (c_X4_markOf (by omega)) rfl (fun r76 σ76 hr76 => ?_)
    obtain ⟨rfl, rfl⟩ := hr76
    refine z_iconst (pc := 79) (v := (nI 1)) dX3_conflict_79 (by decide) ?_
    refine z_icmp_ne (pc := 80) (tgt := 99) dX3_conflict_80 (by decide) (fun h80 => ?_) (fun h80 => ?_)
    · have t3 : (¬ nI 0 = 0) ↔ (σ76 6 i = nI 1 ∧ σ76 6 k = nI 2) := ⟨fun g => absurd rfl g, fun g => absurd g.1 h80⟩
      refine z_iconst (pc := 99) (v := (nI 0)) dX3_conflict_99 (by decide) ?_
      refine z_istore_n (pc := 100) dX3_conflict_100 (by decide) rfl rfl ?_
      exact c_X3_cf101 ht h4 (fun g => hret _ (by rw [hf1, x_cf3, if_pos ⟨t3.mp g.1, g.2⟩])) (fun g => ih _ (by omega) (k := k + 1) (by omega) rfl (fun v hv => hret v (by rw [hf1]; exact (x_cf3_no (fun q => g ⟨t3.mpr q.1, q.2⟩)).trans hv)) (fun hv => K (by rw [hf1]; exact (x_cf3_no (fun q => g ⟨t3.mpr q.1, q.2⟩)).trans hv)))
    · refine z_aload_n (pc := 83) dX3_conflict_83 rfl ?_
      refine z_getA (pc := 84) f_X3_29 dX3_conflict_84 (by decide) rfl rfl ?_
      refine z_iload_n (pc := 87) dX3_conflict_87 rfl ?_
      refine z_cV1 (pc := 88) mX4_markOf l_X3_106 (by decide) dX3_conflict_88 (by decide) rfl rfl (by decide) (Nat.le_of_ble_eq_true rfl) (c_X4_markOf (by omega)) rfl (fun r88 σ88 hr88 => ?_)
      obtain ⟨rfl, rfl⟩ := hr88
      refine z_iconst (pc := 91) (v := (nI 2)) dX3_conflict_91 (by decide) ?_
      refine z_icmp_ne (pc := 92) (tgt := 99) dX3_conflict_92 (by decide) (fun h92 => ?_) (fun h92 => ?_)
      · have t3 : (¬ nI 0 = 0) ↔ (σ88 6 i = nI 1 ∧ σ88 6 k = nI 2) := ⟨fun g => absurd rfl g, fun g => absurd g.2 h92⟩
        refine z_iconst (pc := 99) (v := (nI 0)) dX3_conflict_99 (by decide) ?_
        refine z_istore_n (pc := 100) dX3_conflict_100 (by decide) rfl rfl ?_
        exact c_X3_cf101 ht h4 (fun g => hret _ (by rw [hf1, x_cf3, if_pos ⟨t3.mp g.1, g.2⟩])) (fun g => ih _ (by omega) (k := k + 1) (by omega) rfl (fun v hv => hret v (by rw [hf1]; exact (x_cf3_no (fun q => g ⟨t3.mpr q.1, q.2⟩)).trans hv)) (fun hv => K (by rw [hf1]; exact (x_cf3_no (fun q => g ⟨t3.mpr q.1, q.2⟩)).trans hv)))
      · have t3 : (¬ nI 1 = 0) ↔ (σ88 6 i = nI 1 ∧ σ88 6 k = nI 2) := ⟨fun _ => ⟨h80, h92⟩, fun _ => by decide⟩
        refine z_iconst (pc := 95) (v := (nI 1)) dX3_conflict_95 (by decide) ?_
        refine z_goto (pc := 96) (tgt := 100) dX3_conflict_96 (by decide) ?_
        refine z_istore_n (pc := 100) dX3_conflict_100 (by decide) rfl rfl ?_
        exact c_X3_cf101 ht h4 (fun g => hret _ (by rw [hf1, x_cf3, if_pos ⟨t3.mp g.1, g.2⟩])) (fun g => ih _ (by omega) (k := k + 1) (by omega) rfl (fun v hv => hret v (by rw [hf1]; exact (x_cf3_no (fun q => g ⟨t3.mpr q.1, q.2⟩)).trans hv)) (fun hv => K (by rw [hf1]; exact (x_cf3_no (fun q => g ⟨t3.mpr q.1, q.2⟩)).trans hv)))
set_option maxRecDepth 20000 in
theorem c_X3_cf2 {σ : z_Sto} {n i tr : Nat} {v2 v3 : Option Value} (hn : σ 3 3 = nI n) (h12 : n ≤ 12) (ht : σ 21 6 = nI tr) (h4 : tr ≤ 420) (hi : i ≤ n) : z_R layX iX3_conflict 47 [some (.ref 21), some (.int (nI i)), v2, v3] [] σ (fun r σ' => r = some (.int (x_cf2 σ n tr (n - i) i)) ∧ σ' = σ) := by
  generalize hf : n - i = f
  induction f using Nat.strongRecOn generalizing i v2 v3
  rename_i f ih
  refine z_iload_n (pc := 47) dX3_conflict_47 rfl ?_
  refine z_aload_n (pc := 48) dX3_conflict_48 rfl ?_
  refine z_getA (pc := 49) f_X3_29 dX3_conflict_49 (by decide) rfl rfl ?_
  refine z_cV0 (pc := 52) mX4_size l_X3_105 (by decide) dX3_conflict_52 (by decide) rfl rfl (by decide) (Nat.le_of_ble_eq_true rfl) (c_X4_size) rfl (fun r52 σ52 hr52 => ?_)
  obtain ⟨rfl, rfl⟩ := hr52
  rw [hn]
  refine z_icmp_ge (pc := 55) (tgt := 132) dX3_conflict_55 (by decide) (fun h55 => ?_) (fun h55 => ?_)
  · have q55 : f = 0 := by have := (nI_leI (by omega) (by omega)).mp h55; omega
    refine z_sipush (pc := 132) (v := (-999)) dX3_conflict_132 (by decide) ?_
    exact z_ireturn (pc := 135) dX3_conflict_135 rfl rfl (⟨by rw [q55]; rfl, rfl⟩)
  · have q55 : i < n := by have : ¬ n ≤ i := fun q => h55 ((nI_leI (by omega) (by omega)).mpr q); omega
    have hf1 : f = (n - (i + 1)) + 1 := by omega
    refine z_iconst (pc := 58) (v := (nI 0)) dX3_conflict_58 (by decide) ?_
    refine z_istore_n (pc := 59) dX3_conflict_59 (by decide) rfl rfl ?_
    exact c_X3_cf3 (k := 0) hn h12 ht h4 q55 (by omega) (fun v hv => ⟨by rw [hf1, x_cf2]; rw [Nat.sub_zero] at hv; rw [hv], rfl⟩) (fun hv w => z_iincN (pc := 126) dX3_conflict_126 rfl (by decide) rfl rfl (z_goto (pc := 129) (tgt := 47) dX3_conflict_129 (by decide) ((ih _ (by omega) (i := i + 1) (by omega) rfl).mono (fun r σ' g => ⟨g.1.trans (by rw [hf1, x_cf2]; rw [Nat.sub_zero] at hv; rw [hv]), g.2⟩))))
set_option maxRecDepth 20000 in
theorem c_X3_cf1 {σ : z_Sto} {n i tr : Nat} (hn : σ 3 3 = nI n) (h12 : n ≤ 12) (ht : σ 21 6 = nI tr) (h4 : tr ≤ 420) (hi : i ≤ n) : z_R layX iX3_conflict 2 [some (.ref 21), some (.int (nI i)), none, none] [] σ (fun r σ' => r = some (.int (x_cf1 σ n tr (n - i) i)) ∧ σ' = σ) := by
  generalize hf : n - i = f
  induction f using Nat.strongRecOn generalizing i
  rename_i f ih
  refine z_iload_n (pc := 2) dX3_conflict_2 rfl ?_
  refine z_aload_n (pc := 3) dX3_conflict_3 rfl ?_
  refine z_getA (pc := 4) f_X3_29 dX3_conflict_4 (by decide) rfl rfl ?_
  refine z_cV0 (pc := 7) mX4_size l_X3_105 (by decide) dX3_conflict_7 (by decide) rfl rfl (by decide) (Nat.le_of_ble_eq_true rfl) (c_X4_size) rfl (fun r7 σ7 hr7 => ?_)
  obtain ⟨rfl, rfl⟩ := hr7
  rw [hn]
  refine z_icmp_ge (pc := 10) (tgt := 45) dX3_conflict_10 (by decide) (fun h10 => ?_) (fun h10 => ?_)
  · have q10 : f = 0 := by have := (nI_leI (by omega) (by omega)).mp h10; omega
    refine z_iconst (pc := 45) (v := (nI 0)) dX3_conflict_45 (by decide) ?_
    refine z_istore_n (pc := 46) dX3_conflict_46 (by decide) rfl rfl ?_
    exact (c_X3_cf2 (i := 0) hn h12 ht h4 (by omega)).mono (fun r σ' g => ⟨g.1.trans (by rw [q10]; rfl), g.2⟩)
  · have q10 : i < n := by have : ¬ n ≤ i := fun q => h10 ((nI_leI (by omega) (by omega)).mpr q); omega
    have hf1 : f = (n - (i + 1)) + 1 := by omega
    refine z_aload_n (pc := 13) dX3_conflict_13 rfl ?_
    refine z_getA (pc := 14) f_X3_29 dX3_conflict_14 (by decide) rfl rfl ?_
    refine z_iload_n (pc := 17) dX3_conflict_17 rfl ?_
    refine z_cV1 (pc := 18) mX4_markOf l_X3_106 (by decide) dX3_conflict_18 (by decide) rfl rfl (by decide) (Nat.le_of_ble_eq_true rfl) (c_X4_markOf (by omega)) rfl (fun r18 σ18 hr18 => ?_)
    obtain ⟨rfl, rfl⟩ := hr18
    refine z_if_eq (pc := 21) (tgt := 39) dX3_conflict_21 (by decide) (fun h21 => ?_) (fun h21 => ?_)
    · refine z_iincN (pc := 39) dX3_conflict_39 rfl (by decide) rfl rfl ?_
      refine z_goto (pc := 42) (tgt := 2) dX3_conflict_42 (by decide) ?_
      exact (ih _ (by omega) (i := i + 1) (by omega) rfl).mono (fun r σ' g => ⟨g.1.trans (by rw [hf1, x_cf1]; first | rw [if_neg (fun q : ¬ _ ∧ _ => q.1 h21)] | rw [if_neg (fun q : ¬ _ ∧ _ => h30 q.2)]), g.2⟩)
    · refine z_aload_n (pc := 24) dX3_conflict_24 rfl ?_
      refine z_iload_n (pc := 25) dX3_conflict_25 rfl ?_
      refine z_iload_n (pc := 26) dX3_conflict_26 rfl ?_
      refine z_cV2 (pc := 27) mX3_canMeet l_X3_109 (by decide) dX3_conflict_27 (by decide) rfl rfl (by decide) (Nat.le_of_ble_eq_true rfl) (c_X3_canMeet ht h4) rfl (fun r27 σ27 hr27 => ?_)
      obtain ⟨rfl, rfl⟩ := hr27
      refine z_if_ne (pc := 30) (tgt := 39) dX3_conflict_30 (by decide) (fun h30 => ?_) (fun h30 => ?_)
      · refine z_iincN (pc := 39) dX3_conflict_39 rfl (by decide) rfl rfl ?_
        refine z_goto (pc := 42) (tgt := 2) dX3_conflict_42 (by decide) ?_
        exact (ih _ (by omega) (i := i + 1) (by omega) rfl).mono (fun r σ' g => ⟨g.1.trans (by rw [hf1, x_cf1]; first | rw [if_neg (fun q : ¬ _ ∧ _ => q.1 h21)] | rw [if_neg (fun q : ¬ _ ∧ _ => h30 q.2)]), g.2⟩)
      · refine z_iload_n (pc := 33) dX3_conflict_33 rfl ?_
        refine z_iload_n (pc := 34) dX3_conflict_34 rfl ?_
        refine z_cS2 (pc := 35) mX3_told l_X3_113 (by decide) dX3_conflict_35 (by decide) (Nat.le_of_ble_eq_true rfl) (c_X3_told) rfl (fun r35 σ35 hr35 => ?_)
        obtain ⟨rfl, rfl⟩ := hr35
        exact z_ireturn (pc := 38) dX3_conflict_38 rfl rfl (⟨by rw [hf1, x_cf1, if_pos ⟨h21, h30⟩]; rfl, rfl⟩)
set_option maxRecDepth 20000 in
theorem c_X3_conflict {σ : z_Sto} {n tr : Nat} (hn : σ 3 3 = nI n) (h12 : n ≤ 12) (ht : σ 21 6 = nI tr) (h4 : tr ≤ 420) : z_R layX iX3_conflict 0 [some (.ref 21), none, none, none] [] σ (fun r σ' => r = some (.int (x_cf1 σ n tr n 0)) ∧ σ' = σ) := by
  refine z_iconst (pc := 0) (v := (nI 0)) dX3_conflict_0 (by decide) ?_
  refine z_istore_n (pc := 1) dX3_conflict_1 (by decide) rfl rfl ?_
  exact c_X3_cf1 (i := 0) hn h12 ht h4 (by omega)
