/-! Replay -/
theorem z_ifc {c d : Prop} [Decidable c] [Decidable d] {α : Type} {x y : α} (h : c ↔ d) : (if c then x else y) = if d then x else y := by
  by_cases hc : c
  · rw [if_pos hc, if_pos (h.mp hc)]
  · rw [if_neg hc, if_neg (fun q => hc (h.mpr q))]
def x_log (σ : z_Sto) (n e : Nat) : Prop := ∀ j, j < e → ∃ i w s, i < n ∧ w < 3 ∧ s < 16 ∧ σ 8 j = nI i ∧ σ 9 j = nI w ∧ σ 5 i = nI s
theorem x_log_fr {σ τ : z_Sto} {n e : Nat} (h : x_log σ n e) (h8 : τ 8 = σ 8) (h9 : τ 9 = σ 9) (h5 : τ 5 = σ 5) : x_log τ n e := by
  intro j hj
  rw [h8, h9, h5]
  exact h j hj
def x_g1 (n j : Nat) (σ : z_Sto) : z_Sto := x_take 24 23 (σ 5 (σ 8 j).toNatClampNeg).toNatClampNeg (σ 8 j).toNatClampNeg (σ 9 j).toNatClampNeg n (σ 10 j) σ
def x_gl (n : Nat) : Nat → Nat → z_Sto → z_Sto
  | 0, _, σ => σ
  | f + 1, j, σ => x_gl n f (j + 1) (x_g1 n j σ)
def x_go (n e : Nat) (s o t : Int32) (σ : z_Sto) : z_Sto := x_sa 24 23 n t 16 0 (x_gl n e 0 (x_restart 24 (z_up (z_up (x_copy σ) 23 4 s) 23 5 o)))
theorem x_g1_fr {n j c : Nat} {σ : z_Sto} (h : x_away 24 c) : x_g1 n j σ c = σ c := x_take_fr h
theorem x_gl_fr {n c : Nat} (h : x_away 24 c) : ∀ (f j : Nat) (σ : z_Sto), x_gl n f j σ c = σ c
  | 0, _, _ => rfl
  | f + 1, j, σ => by rw [x_gl, x_gl_fr h f, x_g1_fr h]
theorem x_go_fr {n e c : Nat} {s o t : Int32} {σ : z_Sto} (h : x_away 24 c) (h23 : c ≠ 23) : x_go n e s o t σ c = σ c := by
  have h' := h
  unfold x_away at h'
  rw [x_go, x_sa_fr (by omega), x_gl_fr h, x_restart_fr h, z_up_ne _ _ _ h23, z_up_ne _ _ _ h23]
  simp [x_copy, h23]
set_option maxRecDepth 20000 in
theorem c_X3_gol {σ : z_Sto} {n e j h : Nat} {s o t : Int32} (hn : σ 3 3 = nI n) (h12 : n ≤ 12) (he : σ 7 3 = nI e) (h3 : e ≤ 300) (hlg : x_log σ n e) (hh : σ 23 3 = nI h) (h1 : 1 ≤ h) (h2 : h ≤ 500) (hj : j ≤ e) : z_R layX iX3_goOver 23 [some (.ref 21), some (.int s), some (.int o), some (.int t), some (.int (nI j))] [] σ (fun r σ' => r = none ∧ σ' = x_sa 24 23 n t 16 0 (x_gl n (e - j) j σ)) := by
  generalize hf : e - j = f
  induction f using Nat.strongRecOn generalizing j σ
  rename_i f ih
  refine z_iload (pc := 23) dX3_goOver_23 rfl ?_
  refine z_aload_n (pc := 25) dX3_goOver_25 rfl ?_
  refine z_getA (pc := 26) f_X3_33 dX3_goOver_26 (by decide) rfl rfl ?_
  refine z_cV0 (pc := 29) mX1_size l_X3_53 (by decide) dX3_goOver_29 (by decide) rfl rfl (by decide) (Nat.le_of_ble_eq_true rfl) (c_X1_size) rfl (fun r29 σ29 hr29 => ?_)
  obtain ⟨rfl, rfl⟩ := hr29
  rw [he]
  refine z_icmp_ge (pc := 32) (tgt := 75) dX3_goOver_32 (by decide) (fun h32 => ?_) (fun h32 => ?_)
  · have q32 : f = 0 := by have := (nI_leI (by omega) (by omega)).mp h32; omega
    refine z_aload_n (pc := 75) dX3_goOver_75 rfl ?_
    refine z_getA (pc := 76) f_X3_42 dX3_goOver_76 (by decide) rfl rfl ?_
    refine z_iload_n (pc := 79) dX3_goOver_79 rfl ?_
    refine z_cV1 (pc := 80) mX0_settleAll l_X3_73 (by decide) dX3_goOver_80 (by decide) rfl rfl (by decide) (Nat.le_of_ble_eq_true rfl) (c_X0_settleAll2 hn h12) rfl (fun r80 σ80 hr80 => ?_)
    obtain ⟨er80, eσ80⟩ := hr80
    subst er80
    exact z_return (pc := 83) dX3_goOver_83 rfl (⟨rfl, eσ80.trans (by rw [q32, x_gl])⟩)
  · have q32 : j < e := by have : ¬ e ≤ j := fun q => h32 ((nI_leI (by omega) (by omega)).mpr q); omega
    have hf1 : f = (e - (j + 1)) + 1 := by omega
    obtain ⟨i, w, sl, hi, hw, hsl, e8, e9, e5⟩ := hlg j q32
    have hg : x_g1 n j σ29 = x_take 24 23 sl i w n (σ29 10 j) σ29 := by rw [x_g1, e8, z_cl (by omega), e5, z_cl (by omega), e9, z_cl (by omega)]
    refine z_aload_n (pc := 35) dX3_goOver_35 rfl ?_
    refine z_getA (pc := 36) f_X3_42 dX3_goOver_36 (by decide) rfl rfl ?_
    refine z_aload_n (pc := 39) dX3_goOver_39 rfl ?_
    refine z_getA (pc := 40) f_X3_33 dX3_goOver_40 (by decide) rfl rfl ?_
    refine z_iload (pc := 43) dX3_goOver_43 rfl ?_
    refine z_cV1 (pc := 45) mX1_lineAt l_X3_59 (by decide) dX3_goOver_45 (by decide) rfl rfl (by decide) (Nat.le_of_ble_eq_true rfl) (c_X1_lineAt (by omega)) rfl (fun r45 σ45 hr45 => ?_)
    obtain ⟨rfl, rfl⟩ := hr45
    rw [e8]
    refine z_aload_n (pc := 48) dX3_goOver_48 rfl ?_
    refine z_getA (pc := 49) f_X3_33 dX3_goOver_49 (by decide) rfl rfl ?_
    refine z_iload (pc := 52) dX3_goOver_52 rfl ?_
    refine z_cV1 (pc := 54) mX1_whatAt l_X3_63 (by decide) dX3_goOver_54 (by decide) rfl rfl (by decide) (Nat.le_of_ble_eq_true rfl) (c_X1_whatAt (by omega)) rfl (fun r54 σ54 hr54 => ?_)
    obtain ⟨rfl, rfl⟩ := hr54
    rw [e9]
    refine z_aload_n (pc := 57) dX3_goOver_57 rfl ?_
    refine z_getA (pc := 58) f_X3_33 dX3_goOver_58 (by decide) rfl rfl ?_
    refine z_iload (pc := 61) dX3_goOver_61 rfl ?_
    refine z_cV1 (pc := 63) mX1_tickAt l_X3_66 (by decide) dX3_goOver_63 (by decide) rfl rfl (by decide) (Nat.le_of_ble_eq_true rfl) (c_X1_tickAt (by omega)) rfl (fun r63 σ63 hr63 => ?_)
    obtain ⟨rfl, rfl⟩ := hr63
    refine z_cV3 (pc := 66) mX0_take l_X3_69 (by decide) dX3_goOver_66 (by decide) rfl rfl (by decide) (Nat.le_of_ble_eq_true rfl) (c_X0_take2 (by omega) e5 hsl hn h12 hw hh h1 h2) rfl (fun r66 σ66 hr66 => ?_)
    obtain ⟨rfl, rfl⟩ := hr66
    refine z_iincN (pc := 69) dX3_goOver_69 rfl (by decide) rfl rfl ?_
    refine z_goto (pc := 72) (tgt := 23) dX3_goOver_72 (by decide) ?_
    exact (ih _ (by omega) (j := j + 1) (by rw [x_take_fr (Or.inl (by decide))]; exact hn) (by rw [x_take_fr (Or.inl (by decide))]; exact he) (x_log_fr hlg (x_take_fr (Or.inl (by decide))) (x_take_fr (Or.inl (by decide))) (x_take_fr (Or.inl (by decide)))) (by rw [x_take_fr (Or.inl (by decide))]; exact hh) (by omega) rfl).mono (fun r σ' g => ⟨g.1, g.2.trans (by rw [hf1, x_gl, hg])⟩)
set_option maxRecDepth 20000 in
theorem c_X3_goOver {σ : z_Sto} {n e h : Nat} {s o t : Int32} (hn : σ 3 3 = nI n) (h12 : n ≤ 12) (he : σ 7 3 = nI e) (h3 : e ≤ 300) (hlg : x_log σ n e) (hh : σ 2 3 = nI h) (h1 : 1 ≤ h) (h2 : h ≤ 500) : z_R layX iX3_goOver 0 [some (.ref 21), some (.int s), some (.int o), some (.int t), none] [] σ (fun r σ' => r = none ∧ σ' = x_go n e s o t σ) := by
  have hc : ∀ c, c < 23 → x_restart 24 (z_up (z_up (x_copy σ) 23 4 s) 23 5 o) c = σ c := fun c hc => by rw [x_restart_fr (Or.inl (by omega)), z_up_ne _ _ _ (by omega), z_up_ne _ _ _ (by omega)]; simp [x_copy, Nat.ne_of_lt hc]
  have hv : x_restart 24 (z_up (z_up (x_copy σ) 23 4 s) 23 5 o) 23 3 = nI h := by rw [x_restart_fr (Or.inl (by decide))]; simp [z_up_at, x_copy, hh]
  refine z_aload_n (pc := 0) dX3_goOver_0 rfl ?_
  refine z_getA (pc := 1) f_X3_12 dX3_goOver_1 (by decide) rfl rfl ?_
  refine z_aload_n (pc := 4) dX3_goOver_4 rfl ?_
  refine z_getA (pc := 5) f_X3_26 dX3_goOver_5 (by decide) rfl rfl ?_
  refine z_iload_n (pc := 8) dX3_goOver_8 rfl ?_
  refine z_iload_n (pc := 9) dX3_goOver_9 rfl ?_
  refine z_cV3 (pc := 10) mX5_copyWithMarks l_X3_46 (by decide) dX3_goOver_10 (by decide) rfl rfl (by decide) (Nat.le_of_ble_eq_true rfl) (c_X5_copyWithMarks) rfl (fun r10 σ10 hr10 => ?_)
  obtain ⟨rfl, rfl⟩ := hr10
  refine z_aload_n (pc := 13) dX3_goOver_13 rfl ?_
  refine z_getA (pc := 14) f_X3_42 dX3_goOver_14 (by decide) rfl rfl ?_
  refine z_cV0 (pc := 17) mX0_restart l_X3_50 (by decide) dX3_goOver_17 (by decide) rfl rfl (by decide) (Nat.le_of_ble_eq_true rfl) (c_X0_restart2) rfl (fun r17 σ17 hr17 => ?_)
  obtain ⟨er17, eσ17⟩ := hr17
  subst er17
  rw [← eσ17] at hc hv
  refine z_iconst (pc := 20) (v := (nI 0)) dX3_goOver_20 (by decide) ?_
  refine z_istore (pc := 21) dX3_goOver_21 (by decide) rfl rfl ?_
  exact (c_X3_gol (j := 0) (by rw [hc 3 (by decide)]; exact hn) h12 (by rw [hc 7 (by decide)]; exact he) h3 (x_log_fr hlg (hc 8 (by decide)) (hc 9 (by decide)) (hc 5 (by decide))) hv h1 h2 (by omega)).mono (fun r σ' g => ⟨g.1, g.2.trans (by rw [x_go, eσ17]; rfl)⟩)
set_option maxRecDepth 20000 in
theorem c_X3_flipsOf {σ : z_Sto} {i : Nat} (hi : i < 12) : z_R layX iX3_flipsOf 0 [some (.ref 21), some (.int (nI i))] [] σ (fun r σ' => r = some (.int (σ 31 i)) ∧ σ' = σ) := by
  refine z_aload_n (pc := 0) dX3_flipsOf_0 rfl ?_
  refine z_getA (pc := 1) f_X3_42 dX3_flipsOf_1 (by decide) rfl rfl ?_
  refine z_iload_n (pc := 4) dX3_flipsOf_4 rfl ?_
  refine z_cV1 (pc := 5) mX0_flipsOf l_X3_77 (by decide) dX3_flipsOf_5 (by decide) rfl rfl (by decide) (Nat.le_of_ble_eq_true rfl) (c_X0_flipsOf2 hi) rfl (fun r5 σ5 hr5 => ?_)
  obtain ⟨rfl, rfl⟩ := hr5
  exact z_ireturn (pc := 8) dX3_flipsOf_8 rfl rfl (⟨rfl, rfl⟩)
set_option maxRecDepth 20000 in
theorem c_X3_lostOf {σ : z_Sto} {i : Nat} (hi : i < 12) : z_R layX iX3_lostOf 0 [some (.ref 21), some (.int (nI i))] [] σ (fun r σ' => r = some (.int (σ 32 i)) ∧ σ' = σ) := by
  refine z_aload_n (pc := 0) dX3_lostOf_0 rfl ?_
  refine z_getA (pc := 1) f_X3_42 dX3_lostOf_1 (by decide) rfl rfl ?_
  refine z_iload_n (pc := 4) dX3_lostOf_4 rfl ?_
  refine z_cV1 (pc := 5) mX0_lostOf l_X3_80 (by decide) dX3_lostOf_5 (by decide) rfl rfl (by decide) (Nat.le_of_ble_eq_true rfl) (c_X0_lostOf2 hi) rfl (fun r5 σ5 hr5 => ?_)
  obtain ⟨rfl, rfl⟩ := hr5
  exact z_ireturn (pc := 8) dX3_lostOf_8 rfl rfl (⟨rfl, rfl⟩)
def x_keep (m : Int32) (tr : Nat) (σ : z_Sto) : z_Sto := if tr < 420 then z_up (z_up σ 34 tr m) 21 6 (nI (tr + 1)) else σ
set_option maxRecDepth 20000 in
theorem c_X3_keep {σ : z_Sto} {m : Int32} {tr : Nat} (ht : σ 21 6 = nI tr) (h4 : tr ≤ 420) : z_R layX iX3_keep 0 [some (.ref 21), some (.int m)] [] σ (fun r σ' => r = none ∧ σ' = x_keep m tr σ) := by
  refine z_aload_n (pc := 0) dX3_keep_0 rfl ?_
  refine z_getI (pc := 1) f_X3_22 dX3_keep_1 (by decide) rfl rfl ?_
  rw [ht]
  refine z_aload_n (pc := 4) dX3_keep_4 rfl ?_
  refine z_getA (pc := 5) f_X3_18 dX3_keep_5 (by decide) rfl rfl ?_
  refine z_alenI (pc := 8) dX3_keep_8 (by decide) rfl ?_
  refine z_icmp_ge (pc := 9) (tgt := 32) dX3_keep_9 (by decide) (fun h9 => ?_) (fun h9 => ?_)
  · have q9 : ¬ tr < 420 := by have := (nI_leI (a := 420) (b := tr) (by decide) (by omega)).mp h9; omega
    exact z_return (pc := 32) dX3_keep_32 rfl (⟨rfl, by simp only [x_keep, q9, if_true, if_false]⟩)
  · have q9 : tr < 420 := by have : ¬ 420 ≤ tr := fun q => h9 ((nI_leI (a := 420) (b := tr) (by decide) (by omega)).mpr q); omega
    refine z_aload_n (pc := 12) dX3_keep_12 rfl ?_
    refine z_getA (pc := 13) f_X3_18 dX3_keep_13 (by decide) rfl rfl ?_
    refine z_aload_n (pc := 16) dX3_keep_16 rfl ?_
    refine z_getI (pc := 17) f_X3_22 dX3_keep_17 (by decide) rfl rfl ?_
    rw [ht]
    refine z_iload_n (pc := 20) dX3_keep_20 rfl ?_
    refine z_iastN (pc := 21) dX3_keep_21 (by decide) rfl (by decide) (q9) ?_
    refine z_aload_n (pc := 22) dX3_keep_22 rfl ?_
    refine z_dup_a (pc := 23) dX3_keep_23 ?_
    refine z_getI (pc := 24) f_X3_22 dX3_keep_24 (by decide) rfl rfl ?_
    simp only [z_up_at, reduceIte, Nat.reduceEqDiff, ht]
    refine z_iconst (pc := 27) (v := (nI 1)) dX3_keep_27 (by decide) ?_
    refine z_iaddN (pc := 28) dX3_keep_28 ?_
    refine z_putI (pc := 29) f_X3_22 tyX3_ok nmX3 (by decide) rfl rfl rfl dX3_keep_29 (by decide) rfl rfl ?_
    exact z_return (pc := 32) dX3_keep_32 rfl (⟨rfl, by simp only [x_keep, q9, if_true, if_false]⟩)
def x_m1 (q : Int32) (σ : z_Sto) (i : Nat) (b : Int32) : Int32 := if (σ 6 i = nI 1 ∧ σ 32 i = 0) ∨ (σ 6 i = nI 2 ∧ σ 31 i ≤ q) then b ||| (nI 1 <<< (nI i &&& 31)) else b
def x_met (q : Int32) (σ : z_Sto) : Nat → Nat → Int32 → Int32
  | 0, _, b => b
  | f + 1, i, b => x_met q σ f (i + 1) (x_m1 q σ i b)
set_option maxRecDepth 20000 in
theorem c_X3_met74 {σ : z_Sto} {q b v4 v5 v6 : Int32} {i : Nat} {Φ : z_Post} (K : ∀ b', b' = (if ¬ v5 = 0 ∨ ¬ v6 = 0 then b ||| (nI 1 <<< (nI i &&& 31)) else b) → z_R layX iX3_metLines 4 [some (.ref 21), some (.int q), some (.int b'), some (.int (nI (i + 1))), some (.int v4), some (.int v5), some (.int v6)] [] σ Φ) : z_R layX iX3_metLines 74 [some (.ref 21), some (.int q), some (.int b), some (.int (nI i)), some (.int v4), some (.int v5), some (.int v6)] [] σ Φ := by
  refine z_iload (pc := 74) dX3_metLines_74 rfl ?_
  refine z_if_ne (pc := 76) (tgt := 84) dX3_metLines_76 (by decide) (fun h76 => ?_) (fun h76 => ?_)
  · refine z_iload_n (pc := 84) dX3_metLines_84 rfl ?_
    refine z_iconst (pc := 85) (v := (nI 1)) dX3_metLines_85 (by decide) ?_
    refine z_iload_n (pc := 86) dX3_metLines_86 rfl ?_
    refine z_ishl (pc := 87) dX3_metLines_87 ?_
    refine z_ior (pc := 88) dX3_metLines_88 ?_
    refine z_istore_n (pc := 89) dX3_metLines_89 (by decide) rfl rfl ?_
    refine z_iincN (pc := 90) dX3_metLines_90 rfl (by decide) rfl rfl ?_
    refine z_goto (pc := 93) (tgt := 4) dX3_metLines_93 (by decide) ?_
    exact K _ (by first | exact (if_pos (Or.inl h76)).symm | exact (if_pos (Or.inr h81)).symm | exact (if_neg (fun g => g.elim (fun g => g h76) (fun g => g h81))).symm)
  · refine z_iload (pc := 79) dX3_metLines_79 rfl ?_
    refine z_if_eq (pc := 81) (tgt := 90) dX3_metLines_81 (by decide) (fun h81 => ?_) (fun h81 => ?_)
    · refine z_iincN (pc := 90) dX3_metLines_90 rfl (by decide) rfl rfl ?_
      refine z_goto (pc := 93) (tgt := 4) dX3_metLines_93 (by decide) ?_
      exact K _ (by first | exact (if_pos (Or.inl h76)).symm | exact (if_pos (Or.inr h81)).symm | exact (if_neg (fun g => g.elim (fun g => g h76) (fun g => g h81))).symm)
    · refine z_iload_n (pc := 84) dX3_metLines_84 rfl ?_
      refine z_iconst (pc := 85) (v := (nI 1)) dX3_metLines_85 (by decide) ?_
      refine z_iload_n (pc := 86) dX3_metLines_86 rfl ?_
      refine z_ishl (pc := 87) dX3_metLines_87 ?_
      refine z_ior (pc := 88) dX3_metLines_88 ?_
      refine z_istore_n (pc := 89) dX3_metLines_89 (by decide) rfl rfl ?_
      refine z_iincN (pc := 90) dX3_metLines_90 rfl (by decide) rfl rfl ?_
      refine z_goto (pc := 93) (tgt := 4) dX3_metLines_93 (by decide) ?_
      exact K _ (by first | exact (if_pos (Or.inl h76)).symm | exact (if_pos (Or.inr h81)).symm | exact (if_neg (fun g => g.elim (fun g => g h76) (fun g => g h81))).symm)
set_option maxRecDepth 20000 in
theorem c_X3_metl {σ : z_Sto} {q b : Int32} {n i : Nat} {v4 v5 v6 : Option Value} (hn : σ 3 3 = nI n) (h12 : n ≤ 12) (hi : i ≤ n) : z_R layX iX3_metLines 4 [some (.ref 21), some (.int q), some (.int b), some (.int (nI i)), v4, v5, v6] [] σ (fun r σ' => r = some (.int (x_met q σ (n - i) i b)) ∧ σ' = σ) := by
  generalize hf : n - i = f
  induction f using Nat.strongRecOn generalizing i b v4 v5 v6
  rename_i f ih
  refine z_iload_n (pc := 4) dX3_metLines_4 rfl ?_
  refine z_aload_n (pc := 5) dX3_metLines_5 rfl ?_
  refine z_getA (pc := 6) f_X3_29 dX3_metLines_6 (by decide) rfl rfl ?_
  refine z_cV0 (pc := 9) mX4_size l_X3_105 (by decide) dX3_metLines_9 (by decide) rfl rfl (by decide) (Nat.le_of_ble_eq_true rfl) (c_X4_size) rfl (fun r9 σ9 hr9 => ?_)
  obtain ⟨rfl, rfl⟩ := hr9
  rw [hn]
  refine z_icmp_ge (pc := 12) (tgt := 96) dX3_metLines_12 (by decide) (fun h12 => ?_) (fun h12 => ?_)
  · have q12 : f = 0 := by have := (nI_leI (by omega) (by omega)).mp h12; omega
    refine z_iload_n (pc := 96) dX3_metLines_96 rfl ?_
    exact z_ireturn (pc := 97) dX3_metLines_97 rfl rfl (⟨by rw [q12]; rfl, rfl⟩)
  · have q12 : i < n := by have : ¬ n ≤ i := fun q => h12 ((nI_leI (by omega) (by omega)).mpr q); omega
    have hf1 : f = (n - (i + 1)) + 1 := by omega
    refine z_aload_n (pc := 15) dX3_metLines_15 rfl ?_
    refine z_getA (pc := 16) f_X3_29 dX3_metLines_16 (by decide) rfl rfl ?_
    refine z_iload_n (pc := 19) dX3_metLines_19 rfl ?_
    refine z_cV1 (pc := 20) mX4_markOf l_X3_106 (by decide) dX3_metLines_20 (by decide) rfl rfl (by decide) (Nat.le_of_ble_eq_true rfl) (c_X4_markOf (by omega)) rfl (fun r20 σ20 hr20 => ?_)
    obtain ⟨rfl, rfl⟩ := hr20
    refine z_istore (pc := 23) dX3_metLines_23 (by decide) rfl rfl ?_
    refine z_iload (pc := 25) dX3_metLines_25 rfl ?_
    refine z_iconst (pc := 27) (v := (nI 1)) dX3_metLines_27 (by decide) ?_
    refine z_icmp_ne (pc := 28) (tgt := 46) dX3_metLines_28 (by decide) (fun h28 => ?_) (fun h28 => ?_)
    · have t5 : (¬ nI 0 = 0) ↔ (σ20 6 i = nI 1 ∧ σ20 32 i = 0) := ⟨fun g => absurd rfl g, fun g => absurd g.1 h28⟩
      refine z_iconst (pc := 46) (v := (nI 0)) dX3_metLines_46 (by decide) ?_
      refine z_istore (pc := 47) dX3_metLines_47 (by decide) rfl rfl ?_
      refine z_iload (pc := 49) dX3_metLines_49 rfl ?_
      refine z_iconst (pc := 51) (v := (nI 2)) dX3_metLines_51 (by decide) ?_
      refine z_icmp_ne (pc := 52) (tgt := 71) dX3_metLines_52 (by decide) (fun h52 => ?_) (fun h52 => ?_)
      · have t6 := fun (y : Int32) => (⟨fun g => absurd rfl g, fun g => absurd g.1 h52⟩ : (¬ nI 0 = 0) ↔ (_ ∧ y ≤ q))
        refine z_iconst (pc := 71) (v := (nI 0)) dX3_metLines_71 (by decide) ?_
        refine z_istore (pc := 72) dX3_metLines_72 (by decide) rfl rfl ?_
        exact c_X3_met74 (fun b' hb => (ih _ (by omega) (i := i + 1) (by omega) rfl).mono (fun r σ' g => ⟨g.1.trans (by rw [hf1, x_met]; exact congrArg (fun z => some (Value.int (x_met q _ (n - (i + 1)) (i + 1) z))) (by first | exact hb.trans (z_ifc (or_congr t5 t6)) | exact hb.trans (z_ifc (or_congr t5 (t6 _))))), g.2⟩))
      · refine z_aload_n (pc := 55) dX3_metLines_55 rfl ?_
        refine z_getA (pc := 56) f_X3_42 dX3_metLines_56 (by decide) rfl rfl ?_
        refine z_iload_n (pc := 59) dX3_metLines_59 rfl ?_
        refine z_cV1 (pc := 60) mX0_flipsOf l_X3_77 (by decide) dX3_metLines_60 (by decide) rfl rfl (by decide) (Nat.le_of_ble_eq_true rfl) (c_X0_flipsOf2 (by omega)) rfl (fun r60 σ60 hr60 => ?_)
        obtain ⟨rfl, rfl⟩ := hr60
        refine z_iload_n (pc := 63) dX3_metLines_63 rfl ?_
        refine z_icmp_gt (pc := 64) (tgt := 71) dX3_metLines_64 (by decide) (fun h64 => ?_) (fun h64 => ?_)
        · have t6 : (¬ nI 0 = 0) ↔ (σ60 6 i = nI 2 ∧ σ60 31 i ≤ q) := ⟨fun g => absurd rfl g, fun g => absurd g.2 (z_nle h64)⟩
          refine z_iconst (pc := 71) (v := (nI 0)) dX3_metLines_71 (by decide) ?_
          refine z_istore (pc := 72) dX3_metLines_72 (by decide) rfl rfl ?_
          exact c_X3_met74 (fun b' hb => (ih _ (by omega) (i := i + 1) (by omega) rfl).mono (fun r σ' g => ⟨g.1.trans (by rw [hf1, x_met]; exact congrArg (fun z => some (Value.int (x_met q _ (n - (i + 1)) (i + 1) z))) (by first | exact hb.trans (z_ifc (or_congr t5 t6)) | exact hb.trans (z_ifc (or_congr t5 (t6 _))))), g.2⟩))
        · have t6 : (¬ nI 1 = 0) ↔ (σ60 6 i = nI 2 ∧ σ60 31 i ≤ q) := ⟨fun _ => ⟨h52, z_nlt h64⟩, fun _ => by decide⟩
          refine z_iconst (pc := 67) (v := (nI 1)) dX3_metLines_67 (by decide) ?_
          refine z_goto (pc := 68) (tgt := 72) dX3_metLines_68 (by decide) ?_
          refine z_istore (pc := 72) dX3_metLines_72 (by decide) rfl rfl ?_
          exact c_X3_met74 (fun b' hb => (ih _ (by omega) (i := i + 1) (by omega) rfl).mono (fun r σ' g => ⟨g.1.trans (by rw [hf1, x_met]; exact congrArg (fun z => some (Value.int (x_met q _ (n - (i + 1)) (i + 1) z))) (by first | exact hb.trans (z_ifc (or_congr t5 t6)) | exact hb.trans (z_ifc (or_congr t5 (t6 _))))), g.2⟩))
    · refine z_aload_n (pc := 31) dX3_metLines_31 rfl ?_
      refine z_getA (pc := 32) f_X3_42 dX3_metLines_32 (by decide) rfl rfl ?_
      refine z_iload_n (pc := 35) dX3_metLines_35 rfl ?_
      refine z_cV1 (pc := 36) mX0_lostOf l_X3_80 (by decide) dX3_metLines_36 (by decide) rfl rfl (by decide) (Nat.le_of_ble_eq_true rfl) (c_X0_lostOf2 (by omega)) rfl (fun r36 σ36 hr36 => ?_)
      obtain ⟨rfl, rfl⟩ := hr36
      refine z_if_ne (pc := 39) (tgt := 46) dX3_metLines_39 (by decide) (fun h39 => ?_) (fun h39 => ?_)
      · have t5 : (¬ nI 0 = 0) ↔ (σ36 6 i = nI 1 ∧ σ36 32 i = 0) := ⟨fun g => absurd rfl g, fun g => absurd g.2 h39⟩
        refine z_iconst (pc := 46) (v := (nI 0)) dX3_metLines_46 (by decide) ?_
        refine z_istore (pc := 47) dX3_metLines_47 (by decide) rfl rfl ?_
        refine z_iload (pc := 49) dX3_metLines_49 rfl ?_
        refine z_iconst (pc := 51) (v := (nI 2)) dX3_metLines_51 (by decide) ?_
        refine z_icmp_ne (pc := 52) (tgt := 71) dX3_metLines_52 (by decide) (fun h52 => ?_) (fun h52 => ?_)
        · have t6 := fun (y : Int32) => (⟨fun g => absurd rfl g, fun g => absurd g.1 h52⟩ : (¬ nI 0 = 0) ↔ (_ ∧ y ≤ q))
          refine z_iconst (pc := 71) (v := (nI 0)) dX3_metLines_71 (by decide) ?_
          refine z_istore (pc := 72) dX3_metLines_72 (by decide) rfl rfl ?_
          exact c_X3_met74 (fun b' hb => (ih _ (by omega) (i := i + 1) (by omega) rfl).mono (fun r σ' g => ⟨g.1.trans (by rw [hf1, x_met]; exact congrArg (fun z => some (Value.int (x_met q _ (n - (i + 1)) (i + 1) z))) (by first | exact hb.trans (z_ifc (or_congr t5 t6)) | exact hb.trans (z_ifc (or_congr t5 (t6 _))))), g.2⟩))
        · refine z_aload_n (pc := 55) dX3_metLines_55 rfl ?_
          refine z_getA (pc := 56) f_X3_42 dX3_metLines_56 (by decide) rfl rfl ?_
          refine z_iload_n (pc := 59) dX3_metLines_59 rfl ?_
          refine z_cV1 (pc := 60) mX0_flipsOf l_X3_77 (by decide) dX3_metLines_60 (by decide) rfl rfl (by decide) (Nat.le_of_ble_eq_true rfl) (c_X0_flipsOf2 (by omega)) rfl (fun r60 σ60 hr60 => ?_)
          obtain ⟨rfl, rfl⟩ := hr60
          refine z_iload_n (pc := 63) dX3_metLines_63 rfl ?_
          refine z_icmp_gt (pc := 64) (tgt := 71) dX3_metLines_64 (by decide) (fun h64 => ?_) (fun h64 => ?_)
          · have t6 : (¬ nI 0 = 0) ↔ (σ60 6 i = nI 2 ∧ σ60 31 i ≤ q) := ⟨fun g => absurd rfl g, fun g => absurd g.2 (z_nle h64)⟩
            refine z_iconst (pc := 71) (v := (nI 0)) dX3_metLines_71 (by decide) ?_
            refine z_istore (pc := 72) dX3_metLines_72 (by decide) rfl rfl ?_
            exact c_X3_met74 (fun b' hb => (ih _ (by omega) (i := i + 1) (by omega) rfl).mono (fun r σ' g => ⟨g.1.trans (by rw [hf1, x_met]; exact congrArg (fun z => some (Value.int (x_met q _ (n - (i + 1)) (i + 1) z))) (by first | exact hb.trans (z_ifc (or_congr t5 t6)) | exact hb.trans (z_ifc (or_congr t5 (t6 _))))), g.2⟩))
          · have t6 : (¬ nI 1 = 0) ↔ (σ60 6 i = nI 2 ∧ σ60 31 i ≤ q) := ⟨fun _ => ⟨h52, z_nlt h64⟩, fun _ => by decide⟩
            refine z_iconst (pc := 67) (v := (nI 1)) dX3_metLines_67 (by decide) ?_
            refine z_goto (pc := 68) (tgt := 72) dX3_metLines_68 (by decide) ?_
            refine z_istore (pc := 72) dX3_metLines_72 (by decide) rfl rfl ?_
            exact c_X3_met74 (fun b' hb => (ih _ (by omega) (i := i + 1) (by omega) rfl).mono (fun r σ' g => ⟨g.1.trans (by rw [hf1, x_met]; exact congrArg (fun z => some (Value.int (x_met q _ (n - (i + 1)) (i + 1) z))) (by first | exact hb.trans (z_ifc (or_congr t5 t6)) | exact hb.trans (z_ifc (or_congr t5 (t6 _))))), g.2⟩))
      · have t5 : (¬ nI 1 = 0) ↔ (σ36 6 i = nI 1 ∧ σ36 32 i = 0) := ⟨fun _ => ⟨h28, h39⟩, fun _ => by decide⟩
        refine z_iconst (pc := 42) (v := (nI 1)) dX3_metLines_42 (by decide) ?_
        refine z_goto (pc := 43) (tgt := 47) dX3_metLines_43 (by decide) ?_
        refine z_istore (pc := 47) dX3_metLines_47 (by decide) rfl rfl ?_
        refine z_iload (pc := 49) dX3_metLines_49 rfl ?_
        refine z_iconst (pc := 51) (v := (nI 2)) dX3_metLines_51 (by decide) ?_
        refine z_icmp_ne (pc := 52) (tgt := 71) dX3_metLines_52 (by decide) (fun h52 => ?_) (fun h52 => ?_)
        · have t6 := fun (y : Int32) => (⟨fun g => absurd rfl g, fun g => absurd g.1 h52⟩ : (¬ nI 0 = 0) ↔ (_ ∧ y ≤ q))
          refine z_iconst (pc := 71) (v := (nI 0)) dX3_metLines_71 (by decide) ?_
          refine z_istore (pc := 72) dX3_metLines_72 (by decide) rfl rfl ?_
          exact c_X3_met74 (fun b' hb => (ih _ (by omega) (i := i + 1) (by omega) rfl).mono (fun r σ' g => ⟨g.1.trans (by rw [hf1, x_met]; exact congrArg (fun z => some (Value.int (x_met q _ (n - (i + 1)) (i + 1) z))) (by first | exact hb.trans (z_ifc (or_congr t5 t6)) | exact hb.trans (z_ifc (or_congr t5 (t6 _))))), g.2⟩))
        · refine z_aload_n (pc := 55) dX3_metLines_55 rfl ?_
          refine z_getA (pc := 56) f_X3_42 dX3_metLines_56 (by decide) rfl rfl ?_
          refine z_iload_n (pc := 59) dX3_metLines_59 rfl ?_
          refine z_cV1 (pc := 60) mX0_flipsOf l_X3_77 (by decide) dX3_metLines_60 (by decide) rfl rfl (by decide) (Nat.le_of_ble_eq_true rfl) (c_X0_flipsOf2 (by omega)) rfl (fun r60 σ60 hr60 => ?_)
          obtain ⟨rfl, rfl⟩ := hr60
          refine z_iload_n (pc := 63) dX3_metLines_63 rfl ?_
          refine z_icmp_gt (pc := 64) (tgt := 71) dX3_metLines_64 (by decide) (fun h64 => ?_) (fun h64 => ?_)
          · have t6 : (¬ nI 0 = 0) ↔ (σ60 6 i = nI 2 ∧ σ60 31 i ≤ q) := ⟨fun g => absurd rfl g, fun g => absurd g.2 (z_nle h64)⟩
            refine z_iconst (pc := 71) (v := (nI 0)) dX3_metLines_71 (by decide) ?_
            refine z_istore (pc := 72) dX3_metLines_72 (by decide) rfl rfl ?_
            exact c_X3_met74 (fun b' hb => (ih _ (by omega) (i := i + 1) (by omega) rfl).mono (fun r σ' g => ⟨g.1.trans (by rw [hf1, x_met]; exact congrArg (fun z => some (Value.int (x_met q _ (n - (i + 1)) (i + 1) z))) (by first | exact hb.trans (z_ifc (or_congr t5 t6)) | exact hb.trans (z_ifc (or_congr t5 (t6 _))))), g.2⟩))
          · have t6 : (¬ nI 1 = 0) ↔ (σ60 6 i = nI 2 ∧ σ60 31 i ≤ q) := ⟨fun _ => ⟨h52, z_nlt h64⟩, fun _ => by decide⟩
            refine z_iconst (pc := 67) (v := (nI 1)) dX3_metLines_67 (by decide) ?_
            refine z_goto (pc := 68) (tgt := 72) dX3_metLines_68 (by decide) ?_
            refine z_istore (pc := 72) dX3_metLines_72 (by decide) rfl rfl ?_
            exact c_X3_met74 (fun b' hb => (ih _ (by omega) (i := i + 1) (by omega) rfl).mono (fun r σ' g => ⟨g.1.trans (by rw [hf1, x_met]; exact congrArg (fun z => some (Value.int (x_met q _ (n - (i + 1)) (i + 1) z))) (by first | exact hb.trans (z_ifc (or_congr t5 t6)) | exact hb.trans (z_ifc (or_congr t5 (t6 _))))), g.2⟩))
set_option maxRecDepth 20000 in
theorem c_X3_metLines {σ : z_Sto} {q : Int32} {n : Nat} (hn : σ 3 3 = nI n) (h12 : n ≤ 12) : z_R layX iX3_metLines 0 [some (.ref 21), some (.int q), none, none, none, none, none] [] σ (fun r σ' => r = some (.int (x_met q σ n 0 (nI 0))) ∧ σ' = σ) := by
  refine z_iconst (pc := 0) (v := (nI 0)) dX3_metLines_0 (by decide) ?_
  refine z_istore_n (pc := 1) dX3_metLines_1 (by decide) rfl rfl ?_
  refine z_iconst (pc := 2) (v := (nI 0)) dX3_metLines_2 (by decide) ?_
  refine z_istore_n (pc := 3) dX3_metLines_3 (by decide) rfl rfl ?_
  exact c_X3_metl (i := 0) hn h12 (by omega)
def x_cm (both : Int32) (σ : z_Sto) : Nat → Nat → Int32
  | 0, _ => nI 0
  | f + 1, j => if σ 34 j &&& both = both then nI 1 else x_cm both σ f (j + 1)
theorem x_cm01 (both : Int32) (σ : z_Sto) : ∀ f j, x_cm both σ f j = nI 0 ∨ x_cm both σ f j = nI 1
  | 0, _ => Or.inl rfl
  | f + 1, j => by
    rw [x_cm]
    split
    · exact Or.inr rfl
    · exact x_cm01 both σ f (j + 1)
set_option maxRecDepth 20000 in
theorem c_X3_cml {σ : z_Sto} {a b both : Int32} {tr j : Nat} (ht : σ 21 6 = nI tr) (h4 : tr ≤ 420) (hj : j ≤ tr) : z_R layX iX3_canMeet 11 [some (.ref 21), some (.int a), some (.int b), some (.int both), some (.int (nI j))] [] σ (fun r σ' => r = some (.int (x_cm both σ (tr - j) j)) ∧ σ' = σ) := by
  generalize hf : tr - j = f
  induction f using Nat.strongRecOn generalizing j
  rename_i f ih
  refine z_iload (pc := 11) dX3_canMeet_11 rfl ?_
  refine z_aload_n (pc := 13) dX3_canMeet_13 rfl ?_
  refine z_getI (pc := 14) f_X3_22 dX3_canMeet_14 (by decide) rfl rfl ?_
  rw [ht]
  refine z_icmp_ge (pc := 17) (tgt := 41) dX3_canMeet_17 (by decide) (fun h17 => ?_) (fun h17 => ?_)
  · have q17 : f = 0 := by have := (nI_leI (by omega) (by omega)).mp h17; omega
    refine z_iconst (pc := 41) (v := (nI 0)) dX3_canMeet_41 (by decide) ?_
    exact z_ireturn (pc := 42) dX3_canMeet_42 rfl (by decide) (⟨by rw [q17]; rfl, rfl⟩)
  · have q17 : j < tr := by have : ¬ tr ≤ j := fun q => h17 ((nI_leI (by omega) (by omega)).mpr q); omega
    have hf1 : f = (tr - (j + 1)) + 1 := by omega
    refine z_aload_n (pc := 20) dX3_canMeet_20 rfl ?_
    refine z_getA (pc := 21) f_X3_18 dX3_canMeet_21 (by decide) rfl rfl ?_
    refine z_iload (pc := 24) dX3_canMeet_24 rfl ?_
    refine z_ialdN (pc := 26) dX3_canMeet_26 (by decide) rfl (by decide) (by omega) ?_
    refine z_iload_n (pc := 27) dX3_canMeet_27 rfl ?_
    refine z_iand (pc := 28) dX3_canMeet_28 ?_
    refine z_iload_n (pc := 29) dX3_canMeet_29 rfl ?_
    refine z_icmp_ne (pc := 30) (tgt := 35) dX3_canMeet_30 (by decide) (fun h30 => ?_) (fun h30 => ?_)
    · refine z_iincN (pc := 35) dX3_canMeet_35 rfl (by decide) rfl rfl ?_
      refine z_goto (pc := 38) (tgt := 11) dX3_canMeet_38 (by decide) ?_
      exact (ih _ (by omega) (j := j + 1) (by omega) rfl).mono (fun r σ' g => ⟨g.1.trans (by rw [hf1, x_cm, if_neg h30]), g.2⟩)
    · refine z_iconst (pc := 33) (v := (nI 1)) dX3_canMeet_33 (by decide) ?_
      exact z_ireturn (pc := 34) dX3_canMeet_34 rfl (by decide) (⟨by rw [hf1, x_cm, if_pos h30], rfl⟩)
def x_both (a b : Nat) : Int32 := (nI 1 <<< (nI a &&& 31)) ||| (nI 1 <<< (nI b &&& 31))
set_option maxRecDepth 20000 in
theorem c_X3_canMeet {σ : z_Sto} {a b tr : Nat} (ht : σ 21 6 = nI tr) (h4 : tr ≤ 420) : z_R layX iX3_canMeet 0 [some (.ref 21), some (.int (nI a)), some (.int (nI b)), none, none] [] σ (fun r σ' => r = some (.int (x_cm (x_both a b) σ tr 0)) ∧ σ' = σ) := by
  refine z_iconst (pc := 0) (v := (nI 1)) dX3_canMeet_0 (by decide) ?_
  refine z_iload_n (pc := 1) dX3_canMeet_1 rfl ?_
  refine z_ishl (pc := 2) dX3_canMeet_2 ?_
  refine z_iconst (pc := 3) (v := (nI 1)) dX3_canMeet_3 (by decide) ?_
  refine z_iload_n (pc := 4) dX3_canMeet_4 rfl ?_
  refine z_ishl (pc := 5) dX3_canMeet_5 ?_
  refine z_ior (pc := 6) dX3_canMeet_6 ?_
  refine z_istore_n (pc := 7) dX3_canMeet_7 (by decide) rfl rfl ?_
  refine z_iconst (pc := 8) (v := (nI 0)) dX3_canMeet_8 (by decide) ?_
  refine z_istore (pc := 9) dX3_canMeet_9 (by decide) rfl rfl ?_
  exact c_X3_cml (j := 0) ht h4 (by omega)
set_option maxRecDepth 20000 in
theorem c_X3_told {σ : z_Sto} {a b : Nat} : z_R layX iX3_told 0 [some (.int (nI a)), some (.int (nI b))] [] σ (fun r σ' => r = some (.int (-1000 - nI (a * 16 + b))) ∧ σ' = σ) := by
  refine z_sipush (pc := 0) (v := (-1000)) dX3_told_0 (by decide) ?_
  refine z_iload_n (pc := 3) dX3_told_3 rfl ?_
  refine z_bipush (pc := 4) (v := (nI 16)) dX3_told_4 (by decide) ?_
  refine z_imulN (pc := 6) dX3_told_6 ?_
  refine z_iload_n (pc := 7) dX3_told_7 rfl ?_
  refine z_iaddN (pc := 8) dX3_told_8 ?_
  refine z_isub (pc := 9) dX3_told_9 ?_
  exact z_ireturn (pc := 10) dX3_told_10 rfl rfl (⟨rfl, rfl⟩)
