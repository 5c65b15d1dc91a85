/-! the reference: the second world -/
theorem z_up_ix {σ : z_Sto} {c k c' i : Nat} {v : Int32} (h : i ≠ k) : z_up σ c k v c' i = σ c' i := by
  rw [z_up_at, if_neg h]
  split <;> rfl
theorem m_lk_ix {i c : Nat} (h : i < 12) : ∀ (f l : Nat) (μ : z_Sto), m_lk 1 f l μ c i = μ c i
  | 0, _, _ => rfl
  | f + 1, l, μ => by rw [m_lk, m_lk_ix h f, m_l1, z_up_ix (by omega), z_up_ix (by omega)]
theorem m_c_ix {i c : Nat} (h : i < 12) : ∀ (f l : Nat) (μ : z_Sto), m_c 1 f l μ c i = μ c i
  | 0, _, _ => rfl
  | f + 1, l, μ => by rw [m_c, m_c_ix h f, m_c1, z_up_ix (by omega)]
theorem m_a_ix {i c : Nat} (h : i < 16) : ∀ (f b : Nat) (μ : z_Sto), 16 ≤ b → m_a 1 f b μ c i = μ c i
  | 0, _, _, _ => rfl
  | f + 1, b, μ, hb => by
    rw [m_a, m_a_ix h f (b + 1) _ (by omega), m_a1]
    split
    · rw [z_up_ix (by omega)]
    · rfl
def m_f1 (τ μ : z_Sto) : Prop := (∀ c, c < 5 ∨ 15 < c → τ c = μ c) ∧ (∀ c, c = 5 ∨ c = 6 ∨ c = 7 → τ c 0 = μ c 0) ∧ (∀ c i, c = 8 ∨ c = 9 ∨ c = 10 → i < 16 → τ c i = μ c i) ∧ (∀ c i, 10 < c → c < 16 → i < 12 → τ c i = μ c i)
theorem m_f1_rf {μ : z_Sto} : m_f1 μ μ := ⟨fun _ _ => rfl, fun _ _ => rfl, fun _ _ _ _ => rfl, fun _ _ _ _ _ => rfl⟩
theorem m_f1.tr {a b c : z_Sto} (h : m_f1 a b) (g : m_f1 b c) : m_f1 a c := ⟨fun k hk => (h.1 k hk).trans (g.1 k hk), fun k hk => (h.2.1 k hk).trans (g.2.1 k hk), fun k i hk hi => (h.2.2.1 k i hk hi).trans (g.2.2.1 k i hk hi), fun k i h1 h2 h3 => (h.2.2.2 k i h1 h2 h3).trans (g.2.2.2 k i h1 h2 h3)⟩
theorem m_f1_up {μ : z_Sto} {c k : Nat} {v : Int32} (h : ((c = 5 ∨ c = 6 ∨ c = 7) ∧ k = 1) ∨ ((c = 8 ∨ c = 9 ∨ c = 10) ∧ 16 ≤ k) ∨ (10 < c ∧ c < 16 ∧ 12 ≤ k)) : m_f1 (z_up μ c k v) μ :=
  ⟨fun d hd => z_up_ne _ _ _ (by omega), fun d hd => z_up_ix (by omega), fun d i hd hi => by (by_cases e : d = c; exact z_up_ix (by omega); rw [z_up_ne _ _ _ e]), fun d i h1 h2 h3 => by (by_cases e : d = c; exact z_up_ix (by omega); rw [z_up_ne _ _ _ e])⟩
theorem m_lk_f1 : ∀ (f l : Nat) (μ : z_Sto), m_f1 (m_lk 1 f l μ) μ
  | 0, _, _ => m_f1_rf
  | f + 1, l, μ => by
    rw [m_lk]
    exact (m_lk_f1 f (l + 1) _).tr ((m_f1_up (by omega)).tr (m_f1_up (by omega)))
theorem m_c_f1 : ∀ (f l : Nat) (μ : z_Sto), m_f1 (m_c 1 f l μ) μ
  | 0, _, _ => m_f1_rf
  | f + 1, l, μ => by
    rw [m_c]
    exact (m_c_f1 f (l + 1) _).tr (m_f1_up (by omega))
theorem m_a_f1 : ∀ (f b : Nat) (μ : z_Sto), 16 ≤ b → m_f1 (m_a 1 f b μ) μ
  | 0, _, _, _ => m_f1_rf
  | f + 1, b, μ, hb => by
    rw [m_a]
    refine (m_a_f1 f (b + 1) _ (by omega)).tr ?_
    unfold m_a1
    split
    · exact m_f1_up (by omega)
    · exact m_f1_rf
theorem m_ticks_f1 {n : Nat} {μ : z_Sto} : m_f1 (m_ticks 1 n μ) μ := (m_lk_f1 _ _ _).tr ((m_c_f1 _ _ _).tr ((m_a_f1 _ _ _ (by decide)).tr (m_f1_up (by decide))))
theorem m_hp_f1 {l k n : Nat} {μ : z_Sto} : m_f1 (m_hp 1 l k n μ) μ := by
  unfold m_hp m_h4 m_h3
  exact (m_lk_f1 _ _ _).tr ((m_f1_up (by omega)).tr ((m_f1_up (by omega)).tr ((m_f1_up (by omega)).tr ((m_f1_up (by omega)).tr (m_f1_up (by omega))))))
theorem m_beg_f1 {l : Nat} {μ : z_Sto} : m_f1 (m_beg 1 l μ) μ := by
  unfold m_beg m_bg
  exact (m_f1_up (by omega)).tr ((m_f1_up (by omega)).tr ((m_f1_up (by omega)).tr ((m_f1_up (by omega)).tr (m_f1_up (by omega)))))
theorem m_f1_ok {τ μ : z_Sto} {n e h : Nat} (H : m_ok μ n e h) (f : m_f1 τ μ) (hu : ∀ i, z_01 (τ 11 i)) : m_ok τ n e h := m_ok_fr H hu (by rw [f.1 0 (by decide)]) (by rw [f.1 0 (by decide)]) (fun c hc => f.1 c (by omega))
set_option maxRecDepth 20000 in
theorem m_goesTo {μ : z_Sto} {n e h t k : Nat} (H : m_ok μ n e h) (ht : t ≤ 2000) (hk : k ≤ 2000) (h5 : μ 5 1 = nI k) : z_R layM iX7_goesTo 0 [some (.ref 0), some (.int (nI t))] [] μ (fun r μ' => r = none ∧ m_f1 μ' μ ∧ m_ok μ' n e h ∧ ∃ k', k' ≤ 2000 ∧ μ' 5 1 = nI k') := by
  generalize hf : t - k = f
  induction f using Nat.strongRecOn generalizing k μ
  rename_i f ih
  refine z_aload_n (pc := 0) dX7_goesTo_0 rfl ?_
  refine z_getA (pc := 1) f_X7_22 dX7_goesTo_1 (by decide) rfl rfl ?_
  refine z_iconst (pc := 4) (v := (nI 1)) dX7_goesTo_4 (by decide) ?_
  refine z_ialdN (pc := 5) dX7_goesTo_5 (by decide) rfl (by decide) (by decide) ?_
  rw [h5]
  refine z_iload_n (pc := 6) dX7_goesTo_6 rfl ?_
  refine z_icmp_ge (pc := 7) (tgt := 35) dX7_goesTo_7 (by decide) (fun h7 => ?_) (fun h7 => ?_)
  · exact z_return (pc := 35) dX7_goesTo_35 rfl (⟨rfl, m_f1_rf, H, k, hk, h5⟩)
  · have q7 : k < t := by have : ¬ t ≤ k := fun q => h7 ((nI_leI (by omega) (by omega)).mpr q); omega
    refine z_aload_n (pc := 10) dX7_goesTo_10 rfl ?_
    refine z_cV0 (pc := 11) mX7_isSomeShut l_X7_170 (by decide) dX7_goesTo_11 (by decide) rfl rfl (by decide) (Nat.le_of_ble_eq_true rfl) (m_isSomeShut) rfl (fun r11 σ11 hr11 => ?_)
    obtain ⟨v11, rfl, rfl⟩ := hr11
    refine z_if_eq (pc := 14) (tgt := 25) dX7_goesTo_14 (by decide) (fun h14 => ?_) (fun h14 => ?_)
    · refine z_aload_n (pc := 25) dX7_goesTo_25 rfl ?_
      refine z_getA (pc := 26) f_X7_22 dX7_goesTo_26 (by decide) rfl rfl ?_
      refine z_iconst (pc := 29) (v := (nI 1)) dX7_goesTo_29 (by decide) ?_
      refine z_iload_n (pc := 30) dX7_goesTo_30 rfl ?_
      refine z_iastN (pc := 31) dX7_goesTo_31 (by decide) rfl (by decide) (by decide) ?_
      refine z_goto (pc := 32) (tgt := 0) dX7_goesTo_32 (by decide) ?_
      exact by first | exact (ih _ (by omega) (k := k + 1) (m_f1_ok H F1 U1) (by omega) N1 rfl).mono (fun r μ' g => ⟨g.1, g.2.1.tr F1, g.2.2⟩) | exact (ih _ (by omega) (k := t) (m_f1_ok H (m_f1_up (by decide)) (fun i => by rw [z_up_ne _ _ _ (by decide)]; exact H.2.2.2.2.2.2.2.2.2 i)) (by omega) (by rw [z_up_same, z_upd_s]) rfl).mono (fun r μ' g => ⟨g.1, g.2.1.tr (m_f1_up (by decide)), g.2.2⟩)
    · refine z_aload_n (pc := 17) dX7_goesTo_17 rfl ?_
      refine z_iconst (pc := 18) (v := (nI 1)) dX7_goesTo_18 (by decide) ?_
      refine z_cV1 (pc := 19) mX7_ticks l_X7_161 (by decide) dX7_goesTo_19 (by decide) rfl rfl (by decide) (Nat.le_of_ble_eq_true rfl) (m_ticksC (by decide) H.1 H.2.1 H.2.2.2.2.1 H.2.2.2.2.2.2.1 H.2.2.2.2.2.2.2.1 H.2.2.2.2.2.2.2.2.1) rfl (fun r19 σ19 hr19 => ?_)
      obtain ⟨er19, eσ19⟩ := hr19
      subst er19
      have F1 : m_f1 σ19 σ11 := by rw [eσ19]; exact m_ticks_f1
      have U1 : ∀ i, z_01 (σ19 11 i) := fun i => by rw [eσ19, m_ticks_fr (by decide)]; exact H.2.2.2.2.2.2.2.2.2 i
      have N1 : σ19 5 1 = nI (k + 1) := by rw [eσ19, m_ticks_5, z_upd_s, h5, nI_add]
      refine z_goto (pc := 22) (tgt := 0) dX7_goesTo_22 (by decide) ?_
      exact by first | exact (ih _ (by omega) (k := k + 1) (m_f1_ok H F1 U1) (by omega) N1 rfl).mono (fun r μ' g => ⟨g.1, g.2.1.tr F1, g.2.2⟩) | exact (ih _ (by omega) (k := t) (m_f1_ok H (m_f1_up (by decide)) (fun i => by rw [z_up_ne _ _ _ (by decide)]; exact H.2.2.2.2.2.2.2.2.2 i)) (by omega) (by rw [z_up_same, z_upd_s]) rfl).mono (fun r μ' g => ⟨g.1, g.2.1.tr (m_f1_up (by decide)), g.2.2⟩)
set_option maxRecDepth 20000 in
theorem m_go81 {μ μ0 : z_Sto} {n e h j k t0 : Nat} {s o : Int32} (H : m_ok μ n e h) (F : m_f1 μ μ0) (hk : k ≤ 2000) (h5 : μ 5 1 = nI k) (ht : t0 ≤ 2000) (h50 : μ0 5 0 = nI t0) (hj : j ≤ e) : z_R layM iX7_goesOver 81 [some (.ref 0), some (.int s), some (.int o), some (.int (nI j))] [] μ (fun r μ' => r = none ∧ m_f1 μ' μ0 ∧ m_ok μ' n e h) := by
  have he3 := H.2.2.2.1
  have h12 := H.2.1
  generalize hf : e - j = f
  induction f using Nat.strongRecOn generalizing j μ k
  rename_i f ih
  refine z_iload_n (pc := 81) dX7_goesOver_81 rfl ?_
  refine z_aload_n (pc := 82) dX7_goesOver_82 rfl ?_
  refine z_getI (pc := 83) f_X7_147 dX7_goesOver_83 (by decide) rfl rfl ?_
  rw [H.2.2.1]
  refine z_icmp_ge (pc := 86) (tgt := 122) dX7_goesOver_86 (by decide) (fun h86 => ?_) (fun h86 => ?_)
  · refine z_aload_n (pc := 122) dX7_goesOver_122 rfl ?_
    refine z_aload_n (pc := 123) dX7_goesOver_123 rfl ?_
    refine z_getA (pc := 124) f_X7_22 dX7_goesOver_124 (by decide) rfl rfl ?_
    refine z_iconst (pc := 127) (v := (nI 0)) dX7_goesOver_127 (by decide) ?_
    refine z_ialdN (pc := 128) dX7_goesOver_128 (by decide) rfl (by decide) (by decide) ?_
    rw [F.2.1 5 (by decide), h50]
    refine z_cV1 (pc := 129) mX7_goesTo l_X7_174 (by decide) dX7_goesOver_129 (by decide) rfl rfl (by decide) (Nat.le_of_ble_eq_true rfl) (m_goesTo H ht hk h5) rfl (fun r129 σ129 hr129 => ?_)
    obtain ⟨er129, F1, H1, -⟩ := hr129
    subst er129
    exact z_return (pc := 132) dX7_goesOver_132 rfl (⟨rfl, F1.tr F, H1⟩)
  · have q86 : j < e := by have : ¬ e ≤ j := fun q => h86 ((nI_leI (by omega) (by omega)).mpr q); omega
    obtain ⟨l, kd, t, hl, hkd, htt, e16, e17, e18⟩ := H.2.2.2.2.2.1 j q86
    refine z_aload_n (pc := 89) dX7_goesOver_89 rfl ?_
    refine z_aload_n (pc := 90) dX7_goesOver_90 rfl ?_
    refine z_getA (pc := 91) f_X7_62 dX7_goesOver_91 (by decide) rfl rfl ?_
    refine z_iload_n (pc := 94) dX7_goesOver_94 rfl ?_
    refine z_ialdN (pc := 95) dX7_goesOver_95 (by decide) rfl (by decide) (by omega) ?_
    rw [e18]
    refine z_cV1 (pc := 96) mX7_goesTo l_X7_174 (by decide) dX7_goesOver_96 (by decide) rfl rfl (by decide) (Nat.le_of_ble_eq_true rfl) (m_goesTo H htt hk h5) rfl (fun r96 σ96 hr96 => ?_)
    obtain ⟨er96, F1, H1, k', hk', h5'⟩ := hr96
    subst er96
    refine z_aload_n (pc := 99) dX7_goesOver_99 rfl ?_
    refine z_iconst (pc := 100) (v := (nI 1)) dX7_goesOver_100 (by decide) ?_
    refine z_aload_n (pc := 101) dX7_goesOver_101 rfl ?_
    refine z_getA (pc := 102) f_X7_56 dX7_goesOver_102 (by decide) rfl rfl ?_
    refine z_iload_n (pc := 105) dX7_goesOver_105 rfl ?_
    refine z_ialdN (pc := 106) dX7_goesOver_106 (by decide) rfl (by decide) (by omega) ?_
    rw [F1.1 16 (by decide), e16]
    refine z_aload_n (pc := 107) dX7_goesOver_107 rfl ?_
    refine z_getA (pc := 108) f_X7_59 dX7_goesOver_108 (by decide) rfl rfl ?_
    refine z_iload_n (pc := 111) dX7_goesOver_111 rfl ?_
    refine z_ialdN (pc := 112) dX7_goesOver_112 (by decide) rfl (by decide) (by omega) ?_
    rw [F1.1 17 (by decide), e17]
    refine z_cV3 (pc := 113) mX7_happens l_X7_150 (by decide) dX7_goesOver_113 (by decide) rfl rfl (by decide) (Nat.le_of_ble_eq_true rfl) (m_happens (by decide) hkd hl H1.1 h12 H1.2.2.2.2.1 H1.2.2.2.2.2.2.2.2.2 H1.2.2.2.2.2.2.1 H1.2.2.2.2.2.2.2.1 H1.2.2.2.2.2.2.2.2.1) rfl (fun r113 σ113 hr113 => ?_)
    obtain ⟨er113, eσ113⟩ := hr113
    subst er113
    have F2 : m_f1 σ113 σ96 := by rw [eσ113]; exact m_hp_f1
    have U2 : ∀ i, z_01 (σ113 11 i) := by rw [eσ113]; exact m_hp_up H1.2.2.2.2.2.2.2.2.2
    refine z_iincN (pc := 116) dX7_goesOver_116 rfl (by decide) rfl rfl ?_
    refine z_goto (pc := 119) (tgt := 81) dX7_goesOver_119 (by decide) ?_
    exact ih _ (by omega) (j := j + 1) (m_f1_ok H1 F2 U2) (F2.tr (F1.tr F)) hk' (by rw [eσ113, m_hp_fr (by decide)]; exact h5') (by omega) rfl
set_option maxRecDepth 20000 in
theorem m_go59 {μ μ0 : z_Sto} {n e h l t0 : Nat} {s o : Int32} (H : m_ok μ n e h) (F : m_f1 μ μ0) (h5 : μ 5 1 = nI 0) (ht : t0 ≤ 2000) (h50 : μ0 5 0 = nI t0) (hl : l ≤ n) : z_R layM iX7_goesOver 59 [some (.ref 0), some (.int s), some (.int o), some (.int (nI l))] [] μ (fun r μ' => r = none ∧ m_f1 μ' μ0 ∧ m_ok μ' n e h) := by
  have h12 := H.2.1
  generalize hf : n - l = f
  induction f using Nat.strongRecOn generalizing l μ
  rename_i f ih
  refine z_iload_n (pc := 59) dX7_goesOver_59 rfl ?_
  refine z_aload_n (pc := 60) dX7_goesOver_60 rfl ?_
  refine z_getI (pc := 61) f_X7_115 dX7_goesOver_61 (by decide) rfl rfl ?_
  rw [H.1]
  refine z_icmp_ge (pc := 64) (tgt := 79) dX7_goesOver_64 (by decide) (fun h64 => ?_) (fun h64 => ?_)
  · refine z_iconst (pc := 79) (v := (nI 0)) dX7_goesOver_79 (by decide) ?_
    refine z_istore_n (pc := 80) dX7_goesOver_80 (by decide) rfl rfl ?_
    exact m_go81 (j := 0) (k := 0) H F (by decide) h5 ht h50 (by omega)
  · have q64 : l < n := by have : ¬ n ≤ l := fun q => h64 ((nI_leI (by omega) (by omega)).mpr q); omega
    refine z_aload_n (pc := 67) dX7_goesOver_67 rfl ?_
    refine z_iconst (pc := 68) (v := (nI 1)) dX7_goesOver_68 (by decide) ?_
    refine z_iload_n (pc := 69) dX7_goesOver_69 rfl ?_
    refine z_cV2 (pc := 70) mX7_begins l_X7_128 (by decide) dX7_goesOver_70 (by decide) rfl rfl (by decide) (Nat.le_of_ble_eq_true rfl) (m_begins (by decide) (by omega) (H.2.2.2.2.1 l q64)) rfl (fun r70 σ70 hr70 => ?_)
    obtain ⟨er70, eσ70⟩ := hr70
    subst er70
    have F2 : m_f1 σ70 μ := by rw [eσ70]; exact m_beg_f1
    have U2 : ∀ i, z_01 (σ70 11 i) := fun i => by rw [eσ70, m_beg, z_up_ne _ _ _ (by decide), m_bg, z_up_ne _ _ _ (by decide), z_up_ne _ _ _ (by decide), z_up_ne _ _ _ (by decide), z_up_at, if_pos rfl]; split; exact Or.inr rfl; exact H.2.2.2.2.2.2.2.2.2 i
    refine z_iincN (pc := 73) dX7_goesOver_73 rfl (by decide) rfl rfl ?_
    refine z_goto (pc := 76) (tgt := 59) dX7_goesOver_76 (by decide) ?_
    exact ih _ (by omega) (l := l + 1) (m_f1_ok H F2 U2) (F2.tr F) (by rw [eσ70, m_beg_fr (by decide)]; exact h5) (by omega) rfl
set_option maxRecDepth 20000 in
theorem m_go24 {μ μ0 : z_Sto} {n e h b t0 : Nat} {s o : Int32} (H : m_ok μ n e h) (F : m_f1 μ μ0) (h5 : μ 5 1 = nI 0) (ht : t0 ≤ 2000) (h50 : μ0 5 0 = nI t0) (hb : b ≤ 32) (hb2 : 16 ≤ b) : z_R layM iX7_goesOver 24 [some (.ref 0), some (.int s), some (.int o), some (.int (nI b))] [] μ (fun r μ' => r = none ∧ m_f1 μ' μ0 ∧ m_ok μ' n e h) := by
  generalize hf : 32 - b = f
  induction f using Nat.strongRecOn generalizing b μ
  rename_i f ih
  refine z_iload_n (pc := 24) dX7_goesOver_24 rfl ?_
  refine z_bipush (pc := 25) (v := (nI 32)) dX7_goesOver_25 (by decide) ?_
  refine z_icmp_ge (pc := 27) (tgt := 57) dX7_goesOver_27 (by decide) (fun h27 => ?_) (fun h27 => ?_)
  · refine z_iconst (pc := 57) (v := (nI 0)) dX7_goesOver_57 (by decide) ?_
    refine z_istore_n (pc := 58) dX7_goesOver_58 (by decide) rfl rfl ?_
    exact m_go59 (l := 0) H F h5 ht h50 (by omega)
  · have q27 : b < 32 := by have : ¬ 32 ≤ b := fun q => h27 ((nI_leI (by decide) (by omega)).mpr q); omega
    refine z_aload_n (pc := 30) dX7_goesOver_30 rfl ?_
    refine z_getA (pc := 31) f_X7_31 dX7_goesOver_31 (by decide) rfl rfl ?_
    refine z_iload_n (pc := 34) dX7_goesOver_34 rfl ?_
    refine z_iconst (pc := 35) (v := (nI 0)) dX7_goesOver_35 (by decide) ?_
    refine z_iastN (pc := 36) dX7_goesOver_36 (by decide) rfl (by decide) (q27) ?_
    refine z_aload_n (pc := 37) dX7_goesOver_37 rfl ?_
    refine z_getA (pc := 38) f_X7_34 dX7_goesOver_38 (by decide) rfl rfl ?_
    refine z_iload_n (pc := 41) dX7_goesOver_41 rfl ?_
    refine z_iconst (pc := 42) (v := (nI 0)) dX7_goesOver_42 (by decide) ?_
    refine z_iastN (pc := 43) dX7_goesOver_43 (by decide) rfl (by decide) (q27) ?_
    refine z_aload_n (pc := 44) dX7_goesOver_44 rfl ?_
    refine z_getA (pc := 45) f_X7_37 dX7_goesOver_45 (by decide) rfl rfl ?_
    refine z_iload_n (pc := 48) dX7_goesOver_48 rfl ?_
    refine z_iconst (pc := 49) (v := (nI 0)) dX7_goesOver_49 (by decide) ?_
    refine z_zastN (pc := 50) dX7_goesOver_50 (by decide) rfl (by decide) (q27) (Or.inl rfl) ?_
    refine z_iincN (pc := 51) dX7_goesOver_51 rfl (by decide) rfl rfl ?_
    refine z_goto (pc := 54) (tgt := 24) dX7_goesOver_54 (by decide) ?_
    have F2 : m_f1 (z_up (z_up (z_up μ 8 b (nI 0)) 9 b (nI 0)) 10 b (nI 0)) μ := (m_f1_up (by omega)).tr ((m_f1_up (by omega)).tr (m_f1_up (by omega)))
    have U2 : ∀ i, z_01 (z_up (z_up (z_up μ 8 b (nI 0)) 9 b (nI 0)) 10 b (nI 0) 11 i) := fun i => by rw [z_up_ne _ _ _ (by decide), z_up_ne _ _ _ (by decide), z_up_ne _ _ _ (by decide)]; exact H.2.2.2.2.2.2.2.2.2 i
    exact ih _ (by omega) (b := b + 1) (m_f1_ok H F2 U2) (F2.tr F) (by rw [z_up_ne _ _ _ (by decide), z_up_ne _ _ _ (by decide), z_up_ne _ _ _ (by decide)]; exact h5) (by omega) (by omega) rfl
set_option maxRecDepth 20000 in
theorem m_goesOver {μ : z_Sto} {n e h t0 : Nat} {s o : Int32} (H : m_ok μ n e h) (ht : t0 ≤ 2000) (h50 : μ 5 0 = nI t0) : z_R layM iX7_goesOver 0 [some (.ref 0), some (.int s), some (.int o), none] [] μ (fun r μ' => r = none ∧ m_f1 μ' μ ∧ m_ok μ' n e h) := by
  have F2 : m_f1 (z_up (z_up (z_up μ 5 1 (nI 0)) 6 1 s) 7 1 o) μ := (m_f1_up (by decide)).tr ((m_f1_up (by decide)).tr (m_f1_up (by decide)))
  have U2 : ∀ i, z_01 (z_up (z_up (z_up μ 5 1 (nI 0)) 6 1 s) 7 1 o 11 i) := fun i => by rw [z_up_ne _ _ _ (by decide), z_up_ne _ _ _ (by decide), z_up_ne _ _ _ (by decide)]; exact H.2.2.2.2.2.2.2.2.2 i
  refine z_aload_n (pc := 0) dX7_goesOver_0 rfl ?_
  refine z_getA (pc := 1) f_X7_22 dX7_goesOver_1 (by decide) rfl rfl ?_
  refine z_iconst (pc := 4) (v := (nI 1)) dX7_goesOver_4 (by decide) ?_
  refine z_iconst (pc := 5) (v := (nI 0)) dX7_goesOver_5 (by decide) ?_
  refine z_iastN (pc := 6) dX7_goesOver_6 (by decide) rfl (by decide) (by decide) ?_
  refine z_aload_n (pc := 7) dX7_goesOver_7 rfl ?_
  refine z_getA (pc := 8) f_X7_25 dX7_goesOver_8 (by decide) rfl rfl ?_
  refine z_iconst (pc := 11) (v := (nI 1)) dX7_goesOver_11 (by decide) ?_
  refine z_iload_n (pc := 12) dX7_goesOver_12 rfl ?_
  refine z_iastN (pc := 13) dX7_goesOver_13 (by decide) rfl (by decide) (by decide) ?_
  refine z_aload_n (pc := 14) dX7_goesOver_14 rfl ?_
  refine z_getA (pc := 15) f_X7_28 dX7_goesOver_15 (by decide) rfl rfl ?_
  refine z_iconst (pc := 18) (v := (nI 1)) dX7_goesOver_18 (by decide) ?_
  refine z_iload_n (pc := 19) dX7_goesOver_19 rfl ?_
  refine z_iastN (pc := 20) dX7_goesOver_20 (by decide) rfl (by decide) (by decide) ?_
  refine z_bipush (pc := 21) (v := (nI 16)) dX7_goesOver_21 (by decide) ?_
  refine z_istore_n (pc := 23) dX7_goesOver_23 (by decide) rfl rfl ?_
  exact m_go24 (b := 16) (m_f1_ok H F2 U2) F2 (by rw [z_up_ne _ _ _ (by decide), z_up_ne _ _ _ (by decide), z_up_same, z_upd_s]) ht h50 (by decide) (by decide)
