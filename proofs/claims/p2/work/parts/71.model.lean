/-! the reference: findsAnew whole; comes; flood -/
/-- only the found, the own and the letters' cells differ -/
def m_fA (τ μ : z_Sto) : Prop := (∀ c, c ≠ 0 → c ≠ 24 → c ≠ 25 → (c < 27 ∨ 31 < c) → τ c = μ c) ∧ (∀ k, k ≠ 30 → k ≠ 31 → τ 0 k = μ 0 k)
theorem m_fA.tr {a b c : z_Sto} (h : m_fA a b) (g : m_fA b c) : m_fA a c := ⟨fun k h1 h2 h3 h4 => (h.1 k h1 h2 h3 h4).trans (g.1 k h1 h2 h3 h4), fun k h1 h2 => (h.2 k h1 h2).trans (g.2 k h1 h2)⟩
theorem m_fA_F {τ μ : z_Sto} (h : m_fF τ μ) : m_fA τ μ := ⟨fun c h1 _ _ h4 => h.1 c h1 (by omega), fun k h1 _ => h.2 k h1⟩
theorem m_fA_L {τ μ : z_Sto} (h : m_fL τ μ) : m_fA τ μ := ⟨fun c h1 _ _ h4 => h.1 c h1 (by omega), fun k _ h2 => h.2 k h2⟩
theorem m_fA_up {μ : z_Sto} {c k : Nat} {v : Int32} (h : c = 24 ∨ c = 25) : m_fA (z_up μ c k v) μ := ⟨fun d _ h2 h3 _ => z_up_ne _ _ _ (by omega), fun j _ _ => by rw [z_up_ne _ _ _ (by omega)]⟩
theorem m_fA_N {τ μ : z_Sto} (h : m_fA τ μ) : m_fN τ μ := ⟨fun c h1 h2 => h.1 c (by omega) (by omega) (by omega) (by omega), h.2 1 (by decide) (by decide), h.2 16 (by decide) (by decide)⟩
theorem m_que_fr {τ μ : z_Sto} {q : y_Q × Nat} (h : m_que μ q) (f : ∀ c, 28 ≤ c → c ≤ 31 → τ c = μ c) (e : τ 0 31 = μ 0 31) : m_que τ q := by
  refine ⟨fun j hj => ?_, e.trans h.2⟩
  obtain ⟨a, b, l, g1, g2, g3, g4, g5, g6⟩ := h.1 j hj
  exact ⟨a, b, l, g1, g2, g3, by rw [f 29 (by decide) (by decide)]; exact g4, by rw [f 28 (by decide) (by decide)]; exact g5, m_row_fr g6 (f 30 (by decide) (by decide)) (f 31 (by decide) (by decide))⟩
set_option maxRecDepth 20000 in
theorem m_fa92 {μ : z_Sto} {R : List Nat} {a ct k : Nat} {v3 : Int32} {v5 : Option Value} {Φ : z_Post} (hF : m_fnd μ R) (ha : a < 5) (hk : k ≤ R.length) (hp : ∀ j, j < k → μ 24 (5 * a + j) = nI (R.getD j 0)) (K : ∀ τ w5, (∀ c, c ≠ 24 → τ c = μ c) → (∀ b j, b < 5 → b ≠ a → j < 5 → τ 24 (5 * b + j) = μ 24 (5 * b + j)) → (∀ j, j < R.length → τ 24 (5 * a + j) = nI (R.getD j 0)) → z_R layM iX7_findsAnew 125 [some (.ref 0), some (.int (nI a)), some (.int (nI ct)), some (.int v3), some (.int (nI R.length)), w5] [] τ Φ) : z_R layM iX7_findsAnew 92 [some (.ref 0), some (.int (nI a)), some (.int (nI ct)), some (.int v3), some (.int (nI k)), v5] [] μ Φ := by
  have h5 := y_len hF.1
  generalize hf : R.length - k = f
  induction f using Nat.strongRecOn generalizing k μ
  rename_i f ih
  refine z_iload (pc := 92) dX7_findsAnew_92 rfl ?_
  refine z_aload_n (pc := 94) dX7_findsAnew_94 rfl ?_
  refine z_getI (pc := 95) f_X7_199 dX7_findsAnew_95 (by decide) rfl rfl ?_
  rw [hF.2.1]
  refine z_icmp_ge (pc := 98) (tgt := 125) dX7_findsAnew_98 (by decide) (fun h98 => ?_) (fun h98 => ?_)
  · have q98 : k = R.length := by have := (nI_leI (by omega) (by omega)).mp h98; omega
    subst q98
    exact K μ _ (fun _ _ => rfl) (fun _ _ _ _ _ => rfl) hp
  · have q98 : k < R.length := by have : ¬ R.length ≤ k := fun q => h98 ((nI_leI (by omega) (by omega)).mpr q); omega
    refine z_aload_n (pc := 101) dX7_findsAnew_101 rfl ?_
    refine z_getA (pc := 102) f_X7_80 dX7_findsAnew_102 (by decide) rfl rfl ?_
    refine z_iconst (pc := 105) (v := (nI 5)) dX7_findsAnew_105 (by decide) ?_
    refine z_iload_n (pc := 106) dX7_findsAnew_106 rfl ?_
    refine z_imulN (pc := 107) dX7_findsAnew_107 ?_
    refine z_iload (pc := 108) dX7_findsAnew_108 rfl ?_
    refine z_iaddN (pc := 110) dX7_findsAnew_110 ?_
    refine z_aload_n (pc := 111) dX7_findsAnew_111 rfl ?_
    refine z_getA (pc := 112) f_X7_89 dX7_findsAnew_112 (by decide) rfl rfl ?_
    refine z_iload (pc := 115) dX7_findsAnew_115 rfl ?_
    refine z_ialdN (pc := 117) dX7_findsAnew_117 (by decide) rfl (by decide) (by omega) ?_
    rw [hF.2.2 k q98]
    refine z_iastN (pc := 118) dX7_findsAnew_118 (by decide) rfl (by decide) (by omega) ?_
    refine z_iincN (pc := 119) dX7_findsAnew_119 rfl (by decide) rfl rfl ?_
    refine z_goto (pc := 122) (tgt := 92) dX7_findsAnew_122 (by decide) ?_
    exact ih _ (by omega) (k := k + 1) ⟨hF.1, by rw [z_up_ne _ _ _ (by decide)]; exact hF.2.1, fun j hj => by rw [z_up_ne _ _ _ (by decide)]; exact hF.2.2 j hj⟩ (by omega) (fun j hj => by rw [z_up_same]; by_cases q : j = k; subst q; rw [z_upd_s]; rw [z_upd_n (by omega)]; exact hp j (by omega)) (fun τ w5 g1 g2 g3 => K τ w5 (fun c hc => (g1 c hc).trans (z_up_ne _ _ _ hc)) (fun b j hb hne hj => by rw [g2 b j hb hne hj, z_up_same, z_upd_n (by omega)]) g3) rfl
set_option maxRecDepth 20000 in
theorem m_fa28 {μ : z_Sto} {R S : List Nat} {a ct k : Nat} {v3 : Int32} {v5 : Option Value} {Φ : z_Post} (hF : m_fnd μ R) (hS : m_row μ 25 24 a S) (ha : a < 5) (hk : k ≤ R.length) (hp : (v3 = nI 1 ∧ R.length = S.length ∧ ∀ j, j < k → R.getD j 0 = S.getD j 0) ∨ (v3 = nI 0 ∧ R ≠ S)) (K : ∀ v' w4, (¬ v' = 0 → R = S) → (v' = 0 → R ≠ S) → z_R layM iX7_findsAnew 74 [some (.ref 0), some (.int (nI a)), some (.int (nI ct)), some (.int v'), some (.int (nI w4)), v5] [] μ Φ) : z_R layM iX7_findsAnew 28 [some (.ref 0), some (.int (nI a)), some (.int (nI ct)), some (.int v3), some (.int (nI k)), v5] [] μ Φ := by
  have h5 := y_len hF.1
  generalize hf : R.length - k = f
  induction f using Nat.strongRecOn generalizing k v3
  rename_i f ih
  refine z_iload (pc := 28) dX7_findsAnew_28 rfl ?_
  refine z_aload_n (pc := 30) dX7_findsAnew_30 rfl ?_
  refine z_getI (pc := 31) f_X7_199 dX7_findsAnew_31 (by decide) rfl rfl ?_
  rw [hF.2.1]
  refine z_icmp_ge (pc := 34) (tgt := 74) dX7_findsAnew_34 (by decide) (fun h34 => ?_) (fun h34 => ?_)
  · have q34 : k = R.length := by have := (nI_leI (by omega) (by omega)).mp h34; omega
    exact K _ _ (fun g => by rcases hp with ⟨_, e1, e2⟩ | ⟨e1, _⟩; exact y_ext e1 (fun j hj => e2 j (by omega)); exact absurd (by rw [e1]; rfl) g) (fun g => by rcases hp with ⟨e0, _⟩ | ⟨_, e1⟩; exact absurd (e0.symm.trans g) (by decide); exact e1)
  · have q34 : k < R.length := by have : ¬ R.length ≤ k := fun q => h34 ((nI_leI (by omega) (by omega)).mpr q); omega
    refine z_iload_n (pc := 37) dX7_findsAnew_37 rfl ?_
    refine z_if_eq (pc := 38) (tgt := 74) dX7_findsAnew_38 (by decide) (fun h38 => ?_) (fun h38 => ?_)
    · exact K _ _ (fun g => absurd h38 g) (fun g => by rcases hp with ⟨e0, _⟩ | ⟨_, e1⟩; exact absurd (e0.symm.trans g) (by decide); exact e1)
    · obtain ⟨e0, e1, e2⟩ := hp.resolve_right (fun g => h38 (by rw [g.1]; rfl))
      refine z_aload_n (pc := 41) dX7_findsAnew_41 rfl ?_
      refine z_getA (pc := 42) f_X7_89 dX7_findsAnew_42 (by decide) rfl rfl ?_
      refine z_iload (pc := 45) dX7_findsAnew_45 rfl ?_
      refine z_ialdN (pc := 47) dX7_findsAnew_47 (by decide) rfl (by decide) (by omega) ?_
      rw [hF.2.2 k q34]
      refine z_aload_n (pc := 48) dX7_findsAnew_48 rfl ?_
      refine z_getA (pc := 49) f_X7_80 dX7_findsAnew_49 (by decide) rfl rfl ?_
      refine z_iconst (pc := 52) (v := (nI 5)) dX7_findsAnew_52 (by decide) ?_
      refine z_iload_n (pc := 53) dX7_findsAnew_53 rfl ?_
      refine z_imulN (pc := 54) dX7_findsAnew_54 ?_
      refine z_iload (pc := 55) dX7_findsAnew_55 rfl ?_
      refine z_iaddN (pc := 57) dX7_findsAnew_57 ?_
      refine z_ialdN (pc := 58) dX7_findsAnew_58 (by decide) rfl (by decide) (by omega) ?_
      rw [hS.2.2 k (by omega)]
      refine z_icmp_ne (pc := 59) (tgt := 66) dX7_findsAnew_59 (by decide) (fun h59 => ?_) (fun h59 => ?_)
      · have q59 : ¬ R.getD k 0 = S.getD k 0 := fun g => h59 (by rw [g])
        refine z_iconst (pc := 66) (v := (nI 0)) dX7_findsAnew_66 (by decide) ?_
        refine z_istore_n (pc := 67) dX7_findsAnew_67 (by decide) rfl rfl ?_
        refine z_iincN (pc := 68) dX7_findsAnew_68 rfl (by decide) rfl rfl ?_
        refine z_goto (pc := 71) (tgt := 28) dX7_findsAnew_71 (by decide) ?_
        exact ih _ (by omega) (k := k + 1) (by omega) (by first | exact Or.inl ⟨rfl, e1, fun j hj => by rcases Nat.lt_or_ge j k with g | g; exact e2 j g; rw [show j = k by omega]; exact q59⟩ | exact Or.inr ⟨rfl, fun g => q59 (by rw [g])⟩) rfl
      · have q59 : R.getD k 0 = S.getD k 0 := z_nI_inj (by have := (y_get hF.1 q34).1; omega) (by have := (y_get hS.1 (show k < S.length by omega)).1; omega) h59
        refine z_iconst (pc := 62) (v := (nI 1)) dX7_findsAnew_62 (by decide) ?_
        refine z_goto (pc := 63) (tgt := 67) dX7_findsAnew_63 (by decide) ?_
        refine z_istore_n (pc := 67) dX7_findsAnew_67 (by decide) rfl rfl ?_
        refine z_iincN (pc := 68) dX7_findsAnew_68 rfl (by decide) rfl rfl ?_
        refine z_goto (pc := 71) (tgt := 28) dX7_findsAnew_71 (by decide) ?_
        exact ih _ (by omega) (k := k + 1) (by omega) (by first | exact Or.inl ⟨rfl, e1, fun j hj => by rcases Nat.lt_or_ge j k with g | g; exact e2 j g; rw [show j = k by omega]; exact q59⟩ | exact Or.inr ⟨rfl, fun g => q59 (by rw [g])⟩) rfl
theorem m_own_set {τ μ : z_Sto} {O : Nat → List Nat} {a : Nat} {R : List Nat} (hO : m_ownr μ O) (ha : a < 5) (hR : y_ok R) (e25 : τ 25 = upd (μ 25) a (nI R.length)) (e24 : ∀ b j, b < 5 → b ≠ a → j < 5 → τ 24 (5 * b + j) = μ 24 (5 * b + j)) (e24' : ∀ j, j < R.length → τ 24 (5 * a + j) = nI (R.getD j 0)) : m_ownr τ (va_up O a R) := by
  intro b hb
  unfold m_row
  rw [e25]
  by_cases q : b = a
  · subst q
    simp only [va_up, if_true]
    exact ⟨hR, by rw [z_upd_s], e24'⟩
  · simp only [va_up, if_neg q]
    obtain ⟨o1, o2, o3⟩ := hO b hb
    have := y_len o1
    exact ⟨o1, by rw [z_upd_n q]; exact o2, fun k hk => by rw [e24 b k hb q (by omega)]; exact o3 k hk⟩
def m_an (wy : Nat → Int32) (a : Nat) (R : List Nat) (s : y_S) : y_S := if R = s.1 a then s else (va_up s.1 a R, m_send wy a R 5 0 s.2)
set_option maxRecDepth 20000 in
theorem m_fa74 {μ μ0 : z_Sto} {R : List Nat} {s : y_S} {wy : Nat → Int32} {a ct w4 : Nat} {v' : Int32} {v5 : Option Value} (hF : m_fnd μ R) (hO : m_ownr μ s.1) (hq : m_que μ s.2) (hwy : μ 20 = wy) (hdg : wy (5 * a + a) = nI 0) (ha : a < 5) (hB : s.2.2 + 4 ≤ 8200) (k1 : ¬ v' = 0 → R = s.1 a) (k2 : v' = 0 → R ≠ s.1 a) (f0 : m_fF μ μ0) : z_R layM iX7_findsAnew 74 [some (.ref 0), some (.int (nI a)), some (.int (nI ct)), some (.int v'), some (.int (nI w4)), v5] [] μ (fun r μ' => r = none ∧ m_ownr μ' (m_an wy a R s).1 ∧ m_que μ' (m_an wy a R s).2 ∧ m_fA μ' μ0 ∧ (m_an wy a R s).2.2 ≤ s.2.2 + 4) := by
  have h5 := y_len hF.1
  refine z_iload_n (pc := 74) dX7_findsAnew_74 rfl ?_
  refine z_if_eq (pc := 75) (tgt := 79) dX7_findsAnew_75 (by decide) (fun h75 => ?_) (fun h75 => ?_)
  · refine z_aload_n (pc := 79) dX7_findsAnew_79 rfl ?_
    refine z_getA (pc := 80) f_X7_83 dX7_findsAnew_80 (by decide) rfl rfl ?_
    refine z_iload_n (pc := 83) dX7_findsAnew_83 rfl ?_
    refine z_aload_n (pc := 84) dX7_findsAnew_84 rfl ?_
    refine z_getI (pc := 85) f_X7_199 dX7_findsAnew_85 (by decide) rfl rfl ?_
    rw [hF.2.1]
    refine z_iastN (pc := 88) dX7_findsAnew_88 (by decide) rfl (by decide) (ha) ?_
    refine z_iconst (pc := 89) (v := (nI 0)) dX7_findsAnew_89 (by decide) ?_
    refine z_istore (pc := 90) dX7_findsAnew_90 (by decide) rfl rfl ?_
    exact m_fa92 (R := R) (k := 0) ⟨hF.1, by rw [z_up_ne _ _ _ (by decide)]; exact hF.2.1, fun j hj => by rw [z_up_ne _ _ _ (by decide)]; exact hF.2.2 j hj⟩ ha (by omega) (fun j hj => absurd hj (by omega)) (fun τ w5 g1 g2 g3 => z_iconst (pc := 125) (v := (nI 0)) dX7_findsAnew_125 (by decide) (z_istore (pc := 126) dX7_findsAnew_126 (by decide) rfl rfl ((m_fa128 (R := R) (q := s.2) (wy := wy) (i := 0) (B := s.2.2) ⟨hF.1, by rw [g1 0 (by decide), z_up_ne _ _ _ (by decide)]; exact hF.2.1, fun j hj => by rw [g1 27 (by decide), z_up_ne _ _ _ (by decide)]; exact hF.2.2 j hj⟩ (m_que_fr hq (fun c h1 h2 => by rw [g1 c (by omega), z_up_ne _ _ _ (by omega)]) (by rw [g1 0 (by decide), z_up_ne _ _ _ (by decide)])) (by rw [g1 20 (by decide), z_up_ne _ _ _ (by decide)]; exact hwy) hdg ha (by decide) hB (by rw [if_neg (by omega)]; omega)).mono (fun r μ' u => by rw [m_an, if_neg (k2 h75)]; exact ⟨u.1, m_own_set hO ha hF.1 (by rw [u.2.2.1.1 25 (by decide) (by decide), g1 25 (by decide), z_up_same]) (fun b j h1 h2 h3 => by rw [u.2.2.1.1 24 (by decide) (by decide), g2 b j h1 h2 h3, z_up_ne _ _ _ (by decide)]) (fun j hj => by rw [u.2.2.1.1 24 (by decide) (by decide)]; exact g3 j hj), u.2.1, (m_fA_L u.2.2.1).tr (m_fA.tr ⟨fun c h1 h2 h3 h4 => g1 c h2, fun k h1 h2 => by rw [g1 0 (by decide)]⟩ ((m_fA_up (Or.inr rfl)).tr (m_fA_F f0))), u.2.2.2⟩))))
  · exact z_return (pc := 78) dX7_findsAnew_78 rfl (by rw [m_an, if_pos (k1 h75)]; exact ⟨rfl, hO, hq, m_fA_F f0, by omega⟩)
theorem m_own_set_dummy : True := trivial
set_option maxRecDepth 20000 in
theorem m_findsAnew {μ : z_Sto} {T : Nat → List Nat} {s : y_S} {a ct : Nat} (hT : m_told μ T) (hO : m_ownr μ s.1) (hq : m_que μ s.2) (hdg : μ 20 (5 * a + a) = nI 0) (ha : a < 5) (hct : ct < 2) (hB : s.2.2 + 4 ≤ 8200) : z_R layM iX7_findsAnew 0 [some (.ref 0), some (.int (nI a)), some (.int (nI ct)), none, none, none] [] μ (fun r μ' => r = none ∧ m_ownr μ' (m_an (μ 20) a (y_row (nI ct) T a) s).1 ∧ m_que μ' (m_an (μ 20) a (y_row (nI ct) T a) s).2 ∧ m_fA μ' μ ∧ (m_an (μ 20) a (y_row (nI ct) T a) s).2.2 ≤ s.2.2 + 4) := by
  generalize hR : y_row (nI ct) T a = R
  refine z_aload_n (pc := 0) dX7_findsAnew_0 rfl ?_
  refine z_iload_n (pc := 1) dX7_findsAnew_1 rfl ?_
  refine z_iload_n (pc := 2) dX7_findsAnew_2 rfl ?_
  refine z_cV2 (pc := 3) mX7_findOwn l_X7_205 (by decide) dX7_findsAnew_3 (by decide) rfl rfl (by decide) (Nat.le_of_ble_eq_true rfl) (m_findOwn hT ha hct) rfl (fun r3 σ3 hr3 => ?_)
  rw [hR] at hr3
  obtain ⟨rfl, hF, f3⟩ := hr3
  have hO1 : m_ownr σ3 s.1 := fun b hb => m_row_fr (hO b hb) (f3.1 25 (by decide) (by decide)) (f3.1 24 (by decide) (by decide))
  have hq1 : m_que σ3 s.2 := m_que_fr hq (fun c h1 h2 => f3.1 c (by omega) (by omega)) (f3.2 31 (by decide))
  have h5 := y_len hF.1
  obtain ⟨o1, o2, o3⟩ := hO1 a ha
  have h6 := y_len o1
  refine z_aload_n (pc := 6) dX7_findsAnew_6 rfl ?_
  refine z_getI (pc := 7) f_X7_199 dX7_findsAnew_7 (by decide) rfl rfl ?_
  rw [hF.2.1]
  refine z_aload_n (pc := 10) dX7_findsAnew_10 rfl ?_
  refine z_getA (pc := 11) f_X7_83 dX7_findsAnew_11 (by decide) rfl rfl ?_
  refine z_iload_n (pc := 14) dX7_findsAnew_14 rfl ?_
  refine z_ialdN (pc := 15) dX7_findsAnew_15 (by decide) rfl (by decide) (ha) ?_
  rw [o2]
  refine z_icmp_ne (pc := 16) (tgt := 23) dX7_findsAnew_16 (by decide) (fun h16 => ?_) (fun h16 => ?_)
  · have q16 : ¬ R.length = (s.1 a).length := fun g => h16 (by rw [g])
    refine z_iconst (pc := 23) (v := (nI 0)) dX7_findsAnew_23 (by decide) ?_
    refine z_istore_n (pc := 24) dX7_findsAnew_24 (by decide) rfl rfl ?_
    refine z_iconst (pc := 25) (v := (nI 0)) dX7_findsAnew_25 (by decide) ?_
    refine z_istore (pc := 26) dX7_findsAnew_26 (by decide) rfl rfl ?_
    exact m_fa28 (k := 0) hF ⟨o1, o2, o3⟩ ha (by omega) (by first | exact Or.inl ⟨rfl, q16, fun j hj => absurd hj (by omega)⟩ | exact Or.inr ⟨rfl, fun g => q16 (by rw [g])⟩) (fun v' w4 k1 k2 => m_fa74 hF hO1 hq1 (by rw [f3.1 20 (by decide) (by decide)]) hdg ha hB k1 k2 f3)
  · have q16 : R.length = (s.1 a).length := z_nI_inj (by omega) (by omega) h16
    refine z_iconst (pc := 19) (v := (nI 1)) dX7_findsAnew_19 (by decide) ?_
    refine z_goto (pc := 20) (tgt := 24) dX7_findsAnew_20 (by decide) ?_
    refine z_istore_n (pc := 24) dX7_findsAnew_24 (by decide) rfl rfl ?_
    refine z_iconst (pc := 25) (v := (nI 0)) dX7_findsAnew_25 (by decide) ?_
    refine z_istore (pc := 26) dX7_findsAnew_26 (by decide) rfl rfl ?_
    exact m_fa28 (k := 0) hF ⟨o1, o2, o3⟩ ha (by omega) (by first | exact Or.inl ⟨rfl, q16, fun j hj => absurd hj (by omega)⟩ | exact Or.inr ⟨rfl, fun g => q16 (by rw [g])⟩) (fun v' w4 k1 k2 => m_fa74 hF hO1 hq1 (by rw [f3.1 20 (by decide) (by decide)]) hdg ha hB k1 k2 f3)
