/-! the reference: comes, flood -/
set_option maxRecDepth 20000 in
theorem m_co45 {μ : z_Sto} {R S : List Nat} {i ct a x k : Nat} {v5 : Int32} {Φ : z_Post} (hR : m_row μ 30 31 i R) (hS : m_row μ 23 22 x S) (hi : i < 8200) (hx : x < 25) (hk : k ≤ R.length) (hp : (v5 = nI 1 ∧ R.length = S.length ∧ ∀ j, j < k → R.getD j 0 = S.getD j 0) ∨ (v5 = nI 0 ∧ R ≠ S)) (K : ∀ v' w6, (¬ v' = 0 → R = S) → (v' = 0 → R ≠ S) → z_R layM iX7_comes 100 [some (.ref 0), some (.int (nI i)), some (.int (nI ct)), some (.int (nI a)), some (.int (nI x)), some (.int v'), some (.int (nI w6))] [] μ Φ) : z_R layM iX7_comes 45 [some (.ref 0), some (.int (nI i)), some (.int (nI ct)), some (.int (nI a)), some (.int (nI x)), some (.int v5), some (.int (nI k))] [] μ Φ := by
  have h5 := y_len hR.1
  generalize hf : R.length - k = f
  induction f using Nat.strongRecOn generalizing k v5
  rename_i f ih
  refine z_iload (pc := 45) dX7_comes_45 rfl ?_
  refine z_aload_n (pc := 47) dX7_comes_47 rfl ?_
  refine z_getA (pc := 48) f_X7_98 dX7_comes_48 (by decide) rfl rfl ?_
  refine z_iload_n (pc := 51) dX7_comes_51 rfl ?_
  refine z_ialdN (pc := 52) dX7_comes_52 (by decide) rfl (by decide) (hi) ?_
  rw [hR.2.1]
  refine z_icmp_ge (pc := 53) (tgt := 100) dX7_comes_53 (by decide) (fun h53 => ?_) (fun h53 => ?_)
  · have q53 : k = R.length := by have := (nI_leI (by omega) (by omega)).mp h53; omega
    exact K _ _ (fun g => by rcases hp with ⟨_, e1, e2⟩ | ⟨e1, _⟩; exact y_ext e1 (fun j hj => e2 j (by omega)); exact absurd (by rw [e1]; rfl) g) (fun g => by rcases hp with ⟨e0, _⟩ | ⟨_, e1⟩; exact absurd (e0.symm.trans g) (by decide); exact e1)
  · have q53 : k < R.length := by have : ¬ R.length ≤ k := fun q => h53 ((nI_leI (by omega) (by omega)).mpr q); omega
    refine z_iload (pc := 56) dX7_comes_56 rfl ?_
    refine z_if_eq (pc := 58) (tgt := 100) dX7_comes_58 (by decide) (fun h58 => ?_) (fun h58 => ?_)
    · exact K _ _ (fun g => absurd h58 g) (fun g => by rcases hp with ⟨e0, _⟩ | ⟨_, e1⟩; exact absurd (e0.symm.trans g) (by decide); exact e1)
    · obtain ⟨e0, e1, e2⟩ := hp.resolve_right (fun g => h58 (by rw [g.1]; rfl))
      refine z_aload_n (pc := 61) dX7_comes_61 rfl ?_
      refine z_getA (pc := 62) f_X7_74 dX7_comes_62 (by decide) rfl rfl ?_
      refine z_iconst (pc := 65) (v := (nI 5)) dX7_comes_65 (by decide) ?_
      refine z_iload (pc := 66) dX7_comes_66 rfl ?_
      refine z_imulN (pc := 68) dX7_comes_68 ?_
      refine z_iload (pc := 69) dX7_comes_69 rfl ?_
      refine z_iaddN (pc := 71) dX7_comes_71 ?_
      refine z_ialdN (pc := 72) dX7_comes_72 (by decide) rfl (by decide) (by omega) ?_
      rw [hS.2.2 k (by omega)]
      refine z_aload_n (pc := 73) dX7_comes_73 rfl ?_
      refine z_getA (pc := 74) f_X7_102 dX7_comes_74 (by decide) rfl rfl ?_
      refine z_iconst (pc := 77) (v := (nI 5)) dX7_comes_77 (by decide) ?_
      refine z_iload_n (pc := 78) dX7_comes_78 rfl ?_
      refine z_imulN (pc := 79) dX7_comes_79 ?_
      refine z_iload (pc := 80) dX7_comes_80 rfl ?_
      refine z_iaddN (pc := 82) dX7_comes_82 ?_
      refine z_ialdN (pc := 83) dX7_comes_83 (by decide) rfl (by decide) (by omega) ?_
      rw [hR.2.2 k q53]
      refine z_icmp_ne (pc := 84) (tgt := 91) dX7_comes_84 (by decide) (fun h84 => ?_) (fun h84 => ?_)
      · have q84 : ¬ R.getD k 0 = S.getD k 0 := fun g => h84 (by rw [g])
        refine z_iconst (pc := 91) (v := (nI 0)) dX7_comes_91 (by decide) ?_
        refine z_istore (pc := 92) dX7_comes_92 (by decide) rfl rfl ?_
        refine z_iincN (pc := 94) dX7_comes_94 rfl (by decide) rfl rfl ?_
        refine z_goto (pc := 97) (tgt := 45) dX7_comes_97 (by decide) ?_
        exact ih _ (by omega) (k := k + 1) (by omega) (by first | exact Or.inl ⟨rfl, e1, fun j hj => by rcases Nat.lt_or_ge j k with g | g; exact e2 j g; rw [show j = k by omega]; exact q84⟩ | exact Or.inr ⟨rfl, fun g => q84 (by rw [g])⟩) rfl
      · have q84 : R.getD k 0 = S.getD k 0 := (z_nI_inj (by have := (y_get hS.1 (show k < S.length by omega)).1; omega) (by have := (y_get hR.1 q53).1; omega) h84).symm
        refine z_iconst (pc := 87) (v := (nI 1)) dX7_comes_87 (by decide) ?_
        refine z_goto (pc := 88) (tgt := 92) dX7_comes_88 (by decide) ?_
        refine z_istore (pc := 92) dX7_comes_92 (by decide) rfl rfl ?_
        refine z_iincN (pc := 94) dX7_comes_94 rfl (by decide) rfl rfl ?_
        refine z_goto (pc := 97) (tgt := 45) dX7_comes_97 (by decide) ?_
        exact ih _ (by omega) (k := k + 1) (by omega) (by first | exact Or.inl ⟨rfl, e1, fun j hj => by rcases Nat.lt_or_ge j k with g | g; exact e2 j g; rw [show j = k by omega]; exact q84⟩ | exact Or.inr ⟨rfl, fun g => q84 (by rw [g])⟩) rfl
set_option maxRecDepth 20000 in
theorem m_co132 {μ : z_Sto} {R : List Nat} {i ct a x k : Nat} {v5 : Int32} {Φ : z_Post} (hR : m_row μ 30 31 i R) (hi : i < 8200) (hx : x < 25) (hk : k ≤ R.length) (hp : ∀ j, j < k → μ 22 (5 * x + j) = nI (R.getD j 0)) (K : ∀ τ w6, (∀ c, c ≠ 22 → τ c = μ c) → (∀ y j, y ≠ x → j < 5 → τ 22 (5 * y + j) = μ 22 (5 * y + j)) → (∀ j, j < R.length → τ 22 (5 * x + j) = nI (R.getD j 0)) → z_R layM iX7_comes 172 [some (.ref 0), some (.int (nI i)), some (.int (nI ct)), some (.int (nI a)), some (.int (nI x)), some (.int v5), w6] [] τ Φ) : z_R layM iX7_comes 132 [some (.ref 0), some (.int (nI i)), some (.int (nI ct)), some (.int (nI a)), some (.int (nI x)), some (.int v5), some (.int (nI k))] [] μ Φ := by
  have h5 := y_len hR.1
  generalize hf : R.length - k = f
  induction f using Nat.strongRecOn generalizing k μ
  rename_i f ih
  refine z_iload (pc := 132) dX7_comes_132 rfl ?_
  refine z_aload_n (pc := 134) dX7_comes_134 rfl ?_
  refine z_getA (pc := 135) f_X7_98 dX7_comes_135 (by decide) rfl rfl ?_
  refine z_iload_n (pc := 138) dX7_comes_138 rfl ?_
  refine z_ialdN (pc := 139) dX7_comes_139 (by decide) rfl (by decide) (hi) ?_
  rw [hR.2.1]
  refine z_icmp_ge (pc := 140) (tgt := 172) dX7_comes_140 (by decide) (fun h140 => ?_) (fun h140 => ?_)
  · have q140 : k = R.length := by have := (nI_leI (by omega) (by omega)).mp h140; omega
    subst q140
    exact K μ _ (fun _ _ => rfl) (fun _ _ _ _ => rfl) hp
  · have q140 : k < R.length := by have : ¬ R.length ≤ k := fun q => h140 ((nI_leI (by omega) (by omega)).mpr q); omega
    refine z_aload_n (pc := 143) dX7_comes_143 rfl ?_
    refine z_getA (pc := 144) f_X7_74 dX7_comes_144 (by decide) rfl rfl ?_
    refine z_iconst (pc := 147) (v := (nI 5)) dX7_comes_147 (by decide) ?_
    refine z_iload (pc := 148) dX7_comes_148 rfl ?_
    refine z_imulN (pc := 150) dX7_comes_150 ?_
    refine z_iload (pc := 151) dX7_comes_151 rfl ?_
    refine z_iaddN (pc := 153) dX7_comes_153 ?_
    refine z_aload_n (pc := 154) dX7_comes_154 rfl ?_
    refine z_getA (pc := 155) f_X7_102 dX7_comes_155 (by decide) rfl rfl ?_
    refine z_iconst (pc := 158) (v := (nI 5)) dX7_comes_158 (by decide) ?_
    refine z_iload_n (pc := 159) dX7_comes_159 rfl ?_
    refine z_imulN (pc := 160) dX7_comes_160 ?_
    refine z_iload (pc := 161) dX7_comes_161 rfl ?_
    refine z_iaddN (pc := 163) dX7_comes_163 ?_
    refine z_ialdN (pc := 164) dX7_comes_164 (by decide) rfl (by decide) (by omega) ?_
    rw [hR.2.2 k q140]
    refine z_iastN (pc := 165) dX7_comes_165 (by decide) rfl (by decide) (by omega) ?_
    refine z_iincN (pc := 166) dX7_comes_166 rfl (by decide) rfl rfl ?_
    refine z_goto (pc := 169) (tgt := 132) dX7_comes_169 (by decide) ?_
    exact ih _ (by omega) (k := k + 1) (m_row_fr hR (z_up_ne _ _ _ (by decide)) (z_up_ne _ _ _ (by decide))) (by omega) (fun j hj => by rw [z_up_same]; by_cases q : j = k; subst q; rw [z_upd_s]; rw [z_upd_n (by omega)]; exact hp j (by omega)) (fun τ w6 g1 g2 g3 => K τ w6 (fun c hc => (g1 c hc).trans (z_up_ne _ _ _ hc)) (fun y j hne hj => by rw [g2 y j hne hj, z_up_same, z_upd_n (by omega)]) g3) rfl
theorem m_told_set {τ μ : z_Sto} {T : Nat → List Nat} {x : Nat} {R : List Nat} (hT : m_told μ T) (hR : y_ok R) (e23 : τ 23 = upd (μ 23) x (nI R.length)) (e22 : ∀ y j, y ≠ x → j < 5 → τ 22 (5 * y + j) = μ 22 (5 * y + j)) (e22' : ∀ j, j < R.length → τ 22 (5 * x + j) = nI (R.getD j 0)) : m_told τ (va_up T x R) := by
  intro b hb
  unfold m_row
  rw [e23]
  by_cases q : b = x
  · subst q
    simp only [va_up, if_true]
    exact ⟨hR, by rw [z_upd_s], e22'⟩
  · simp only [va_up, if_neg q]
    obtain ⟨o1, o2, o3⟩ := hT b hb
    have := y_len o1
    exact ⟨o1, by rw [z_upd_n q]; exact o2, fun k hk => by rw [e22 b k q (by omega)]; exact o3 k hk⟩
def m_cP (μ0 : z_Sto) (n h t L : Nat) (r : Option Value) (μ' : z_Sto) : Prop := r = none ∧ (∃ e T, ∃ s : y_S, m_inv μ' n e h t T s.1 ∧ m_que μ' s.2 ∧ s.2.2 ≤ L + 4) ∧ m_pub μ' μ0
set_option maxRecDepth 20000 in
theorem m_co213 {μ μ0 : z_Sto} {n e h t i ct a x : Nat} {v5 : Int32} {w6 : Option Value} {T : Nat → List Nat} {s : y_S} (H : m_inv μ n e h t T s.1) (hq : m_que μ s.2) (P : m_pub μ μ0) (ha : a < 5) (hct : ct < 2) (hB : s.2.2 + 4 ≤ 8200) : z_R layM iX7_comes 213 [some (.ref 0), some (.int (nI i)), some (.int (nI ct)), some (.int (nI a)), some (.int (nI x)), some (.int v5), w6] [] μ (m_cP μ0 n h t s.2.2) := by
  refine z_aload_n (pc := 213) dX7_comes_213 rfl ?_
  refine z_iload_n (pc := 214) dX7_comes_214 rfl ?_
  refine z_iload_n (pc := 215) dX7_comes_215 rfl ?_
  refine z_cV2 (pc := 216) mX7_findsAnew l_X7_216 (by decide) dX7_comes_216 (by decide) rfl rfl (by decide) (Nat.le_of_ble_eq_true rfl) (m_findsAnew H.2.2.2.2.1 H.2.2.2.2.2.1 hq (H.2.2.2.1 a ha) ha hct hB) rfl (fun r216 σ216 hr216 => ?_)
  obtain ⟨rfl, g1, g2, g3, g4⟩ := hr216
  have HH := m_fN_inv (T' := T) H (m_fA_N g3) (fun y hy => m_row_fr (H.2.2.2.2.1 y hy) (g3.1 23 (by decide) (by decide) (by decide) (by decide)) (g3.1 22 (by decide) (by decide) (by decide) (by decide))) g1
  exact z_return (pc := 219) dX7_comes_219 rfl (⟨rfl, ⟨_, _, _, HH.1, g2, g4⟩, HH.2.tr P⟩)
theorem m_ev_que {μ : z_Sto} {n e l k : Nat} {q : y_Q × Nat} (h : m_que μ q) : m_que (m_ev n e l k μ) q :=
  m_que_fr h (fun c h1 h2 => by rw [m_ev, m_hp_fr (by omega), m_lg_fr (by omega)]) (by rw [m_ev, m_hp_fr (by decide)]; simp [m_lg, z_up_at])
set_option maxRecDepth 20000 in
theorem m_co172 {μ μ0 : z_Sto} {n e h t i ct a x : Nat} {v5 : Int32} {w6 : Option Value} {T : Nat → List Nat} {s : y_S} (H : m_inv μ n e h t T s.1) (hq : m_que μ s.2) (P : m_pub μ μ0) (ha : a < 5) (hx : x < 25) (hct : ct < 2) (hB : s.2.2 + 4 ≤ 8200) : z_R layM iX7_comes 172 [some (.ref 0), some (.int (nI i)), some (.int (nI ct)), some (.int (nI a)), some (.int (nI x)), some (.int v5), w6] [] μ (m_cP μ0 n h t s.2.2) := by
  have h3 := H.1.2.2.2.1
  refine z_aload_n (pc := 172) dX7_comes_172 rfl ?_
  refine z_getA (pc := 173) f_X7_71 dX7_comes_173 (by decide) rfl rfl ?_
  refine z_iload (pc := 176) dX7_comes_176 rfl ?_
  refine z_ialdN (pc := 178) dX7_comes_178 (by decide) rfl (by decide) (hx) ?_
  refine z_iconst (pc := 179) (v := (-1)) dX7_comes_179 (by decide) ?_
  refine z_icmp_eq (pc := 180) (tgt := 213) dX7_comes_180 (by decide) (fun h180 => ?_) (fun h180 => ?_)
  · exact by first | exact m_co213 HH.1 (by rw [eσ210]; exact m_ev_que hq) (HH.2.tr P) ha hct hB | exact m_co213 H hq P ha hct hB | exact m_co213 (m_fN_inv H (m_fN_up (by decide)) (fun y hy => m_row_fr (H.2.2.2.2.1 y hy) (z_up_ne _ _ _ (by decide)) (z_up_ne _ _ _ (by decide))) (fun y hy => m_row_fr (H.2.2.2.2.2.1 y hy) (z_up_ne _ _ _ (by decide)) (z_up_ne _ _ _ (by decide)))).1 (m_que_fr hq (fun c h1 h2 => z_up_ne _ _ _ (by omega)) (z_up_ix (by decide))) ((m_fN_inv H (m_fN_up (by decide)) (fun y hy => m_row_fr (H.2.2.2.2.1 y hy) (z_up_ne _ _ _ (by decide)) (z_up_ne _ _ _ (by decide))) (fun y hy => m_row_fr (H.2.2.2.2.2.1 y hy) (z_up_ne _ _ _ (by decide)) (z_up_ne _ _ _ (by decide)))).2.tr P) ha hct hB
  · obtain ⟨k, hk, ek⟩ := (H.2.2.2.2.2.2 x hx).resolve_left h180
    refine z_aload_n (pc := 183) dX7_comes_183 rfl ?_
    refine z_getI (pc := 184) f_X7_147 dX7_comes_184 (by decide) rfl rfl ?_
    rw [H.1.2.2.1]
    refine z_sipush (pc := 187) (v := (nI 300)) dX7_comes_187 (by decide) ?_
    refine z_icmp_ne (pc := 190) (tgt := 201) dX7_comes_190 (by decide) (fun h190 => ?_) (fun h190 => ?_)
    · have q190 : e < 300 := by have : e ≠ 300 := fun g => h190 (by rw [g]); omega
      refine z_aload_n (pc := 201) dX7_comes_201 rfl ?_
      refine z_aload_n (pc := 202) dX7_comes_202 rfl ?_
      refine z_getA (pc := 203) f_X7_71 dX7_comes_203 (by decide) rfl rfl ?_
      refine z_iload (pc := 206) dX7_comes_206 rfl ?_
      refine z_ialdN (pc := 208) dX7_comes_208 (by decide) rfl (by decide) (hx) ?_
      rw [ek]
      refine z_iconst (pc := 209) (v := (nI 2)) dX7_comes_209 (by decide) ?_
      refine z_cV2 (pc := 210) mX7_logs l_X7_158 (by decide) dX7_comes_210 (by decide) rfl rfl (by decide) (Nat.le_of_ble_eq_true rfl) (m_logs H hk (by decide) q190) rfl (fun r210 σ210 hr210 => ?_)
      obtain ⟨er210, eσ210⟩ := hr210
      subst er210
      have HH := m_ev_inv (k := 2) H hk (by decide) q190
      rw [← eσ210] at HH
      exact by first | exact m_co213 HH.1 (by rw [eσ210]; exact m_ev_que hq) (HH.2.tr P) ha hct hB | exact m_co213 H hq P ha hct hB | exact m_co213 (m_fN_inv H (m_fN_up (by decide)) (fun y hy => m_row_fr (H.2.2.2.2.1 y hy) (z_up_ne _ _ _ (by decide)) (z_up_ne _ _ _ (by decide))) (fun y hy => m_row_fr (H.2.2.2.2.2.1 y hy) (z_up_ne _ _ _ (by decide)) (z_up_ne _ _ _ (by decide)))).1 (m_que_fr hq (fun c h1 h2 => z_up_ne _ _ _ (by omega)) (z_up_ix (by decide))) ((m_fN_inv H (m_fN_up (by decide)) (fun y hy => m_row_fr (H.2.2.2.2.1 y hy) (z_up_ne _ _ _ (by decide)) (z_up_ne _ _ _ (by decide))) (fun y hy => m_row_fr (H.2.2.2.2.2.1 y hy) (z_up_ne _ _ _ (by decide)) (z_up_ne _ _ _ (by decide)))).2.tr P) ha hct hB
    · refine z_aload_n (pc := 193) dX7_comes_193 rfl ?_
      refine z_iconst (pc := 194) (v := (nI 1)) dX7_comes_194 (by decide) ?_
      refine z_putI (pc := 195) f_X7_212 tyX7_ok nmX7 (by decide) rfl (by decide) (by decide) dX7_comes_195 (by decide) rfl rfl ?_
      refine z_goto (pc := 198) (tgt := 213) dX7_comes_198 (by decide) ?_
      exact by first | exact m_co213 HH.1 (by rw [eσ210]; exact m_ev_que hq) (HH.2.tr P) ha hct hB | exact m_co213 H hq P ha hct hB | exact m_co213 (m_fN_inv H (m_fN_up (by decide)) (fun y hy => m_row_fr (H.2.2.2.2.1 y hy) (z_up_ne _ _ _ (by decide)) (z_up_ne _ _ _ (by decide))) (fun y hy => m_row_fr (H.2.2.2.2.2.1 y hy) (z_up_ne _ _ _ (by decide)) (z_up_ne _ _ _ (by decide)))).1 (m_que_fr hq (fun c h1 h2 => z_up_ne _ _ _ (by omega)) (z_up_ix (by decide))) ((m_fN_inv H (m_fN_up (by decide)) (fun y hy => m_row_fr (H.2.2.2.2.1 y hy) (z_up_ne _ _ _ (by decide)) (z_up_ne _ _ _ (by decide))) (fun y hy => m_row_fr (H.2.2.2.2.2.1 y hy) (z_up_ne _ _ _ (by decide)) (z_up_ne _ _ _ (by decide)))).2.tr P) ha hct hB
set_option maxRecDepth 20000 in
theorem m_co100 {μ : z_Sto} {n e h t i ct a x w6 : Nat} {v' : Int32} {T : Nat → List Nat} {s : y_S} {R : List Nat} (H : m_inv μ n e h t T s.1) (hq : m_que μ s.2) (hR : m_row μ 30 31 i R) (hi : i < 8200) (ha : a < 5) (hx : x < 25) (hct : ct < 2) (hB : s.2.2 + 4 ≤ 8200) : z_R layM iX7_comes 100 [some (.ref 0), some (.int (nI i)), some (.int (nI ct)), some (.int (nI a)), some (.int (nI x)), some (.int v'), some (.int (nI w6))] [] μ (m_cP μ n h t s.2.2) := by
  refine z_iload (pc := 100) dX7_comes_100 rfl ?_
  refine z_if_eq (pc := 102) (tgt := 106) dX7_comes_102 (by decide) (fun h102 => ?_) (fun h102 => ?_)
  · refine z_aload_n (pc := 106) dX7_comes_106 rfl ?_
    refine z_getA (pc := 107) f_X7_86 dX7_comes_107 (by decide) rfl rfl ?_
    refine z_iload_n (pc := 110) dX7_comes_110 rfl ?_
    refine z_dup2 (pc := 111) dX7_comes_111 ?_
    refine z_ialdN (pc := 112) dX7_comes_112 (by decide) rfl (by decide) (ha) ?_
    refine z_iconst (pc := 113) (v := (nI 1)) dX7_comes_113 (by decide) ?_
    refine z_iadd (pc := 114) dX7_comes_114 ?_
    refine z_iastN (pc := 115) dX7_comes_115 (by decide) rfl (by decide) (ha) ?_
    refine z_aload_n (pc := 116) dX7_comes_116 rfl ?_
    refine z_getA (pc := 117) f_X7_77 dX7_comes_117 (by decide) rfl rfl ?_
    refine z_iload (pc := 120) dX7_comes_120 rfl ?_
    refine z_aload_n (pc := 122) dX7_comes_122 rfl ?_
    refine z_getA (pc := 123) f_X7_98 dX7_comes_123 (by decide) rfl rfl ?_
    refine z_iload_n (pc := 126) dX7_comes_126 rfl ?_
    refine z_ialdN (pc := 127) dX7_comes_127 (by decide) rfl (by decide) (hi) ?_
    rw [show z_up μ 26 a (μ 26 a + nI 1) 30 i = nI R.length by rw [z_up_ne _ _ _ (by decide)]; exact hR.2.1]
    refine z_iastN (pc := 128) dX7_comes_128 (by decide) rfl (by decide) (hx) ?_
    refine z_iconst (pc := 129) (v := (nI 0)) dX7_comes_129 (by decide) ?_
    refine z_istore (pc := 130) dX7_comes_130 (by decide) rfl rfl ?_
    exact m_co132 (R := R) (k := 0) (m_row_fr hR (by rw [z_up_ne _ _ _ (by decide), z_up_ne _ _ _ (by decide)]) (by rw [z_up_ne _ _ _ (by decide), z_up_ne _ _ _ (by decide)])) hi hx (by omega) (fun j hj => absurd hj (by omega)) (fun τ w6 g1 g2 g3 => by have HH := m_fN_inv (τ := τ) (T' := va_up T x R) (O' := s.1) H ⟨fun c h1 h2 => by rw [g1 c (by omega), z_up_ne _ _ _ (by omega), z_up_ne _ _ _ (by omega)], by rw [g1 0 (by decide), z_up_ne _ _ _ (by decide), z_up_ne _ _ _ (by decide)], by rw [g1 0 (by decide), z_up_ne _ _ _ (by decide), z_up_ne _ _ _ (by decide)]⟩ (m_told_set H.2.2.2.2.1 hR.1 (by rw [g1 23 (by decide), z_up_same, z_up_ne _ _ _ (by decide)]) (fun y j hne hj => by rw [g2 y j hne hj, z_up_ne _ _ _ (by decide), z_up_ne _ _ _ (by decide)]) g3) (fun y hy => m_row_fr (H.2.2.2.2.2.1 y hy) (by rw [g1 25 (by decide), z_up_ne _ _ _ (by decide), z_up_ne _ _ _ (by decide)]) (by rw [g1 24 (by decide), z_up_ne _ _ _ (by decide), z_up_ne _ _ _ (by decide)])); exact m_co172 HH.1 (m_que_fr hq (fun c h1 h2 => by rw [g1 c (by omega), z_up_ne _ _ _ (by omega), z_up_ne _ _ _ (by omega)]) (by rw [g1 0 (by decide), z_up_ne _ _ _ (by decide), z_up_ne _ _ _ (by decide)])) HH.2 ha hx hct hB)
  · exact z_return (pc := 105) dX7_comes_105 rfl (⟨rfl, ⟨_, _, _, H, hq, by omega⟩, m_pub_rf⟩)
set_option maxRecDepth 20000 in
theorem m_comes {μ : z_Sto} {n e h t i ct : Nat} {T : Nat → List Nat} {s : y_S} (H : m_inv μ n e h t T s.1) (hq : m_que μ s.2) (hi : i < s.2.2) (hct : ct < 2) (hB : s.2.2 + 4 ≤ 8200) : z_R layM iX7_comes 0 [some (.ref 0), some (.int (nI i)), some (.int (nI ct)), none, none, none, none] [] μ (m_cP μ n h t s.2.2) := by
  obtain ⟨a, b, R, ha, hb, e1, e2, e3, hR⟩ := hq.1 i hi
  have hx : 5 * a + b < 25 := by omega
  obtain ⟨o1, o2, o3⟩ := H.2.2.2.2.1 (5 * a + b) hx
  have h5 := y_len hR.1
  have h6 := y_len o1
  refine z_aload_n (pc := 0) dX7_comes_0 rfl ?_
  refine z_getA (pc := 1) f_X7_95 dX7_comes_1 (by decide) rfl rfl ?_
  refine z_iload_n (pc := 4) dX7_comes_4 rfl ?_
  refine z_ialdN (pc := 5) dX7_comes_5 (by decide) rfl (by decide) (by omega) ?_
  rw [e2]
  refine z_istore_n (pc := 6) dX7_comes_6 (by decide) rfl rfl ?_
  refine z_iconst (pc := 7) (v := (nI 5)) dX7_comes_7 (by decide) ?_
  refine z_iload_n (pc := 8) dX7_comes_8 rfl ?_
  refine z_imulN (pc := 9) dX7_comes_9 ?_
  refine z_aload_n (pc := 10) dX7_comes_10 rfl ?_
  refine z_getA (pc := 11) f_X7_92 dX7_comes_11 (by decide) rfl rfl ?_
  refine z_iload_n (pc := 14) dX7_comes_14 rfl ?_
  refine z_ialdN (pc := 15) dX7_comes_15 (by decide) rfl (by decide) (by omega) ?_
  rw [e3]
  refine z_iaddN (pc := 16) dX7_comes_16 ?_
  refine z_istore (pc := 17) dX7_comes_17 (by decide) rfl rfl ?_
  refine z_aload_n (pc := 19) dX7_comes_19 rfl ?_
  refine z_getA (pc := 20) f_X7_98 dX7_comes_20 (by decide) rfl rfl ?_
  refine z_iload_n (pc := 23) dX7_comes_23 rfl ?_
  refine z_ialdN (pc := 24) dX7_comes_24 (by decide) rfl (by decide) (by omega) ?_
  rw [hR.2.1]
  refine z_aload_n (pc := 25) dX7_comes_25 rfl ?_
  refine z_getA (pc := 26) f_X7_77 dX7_comes_26 (by decide) rfl rfl ?_
  refine z_iload (pc := 29) dX7_comes_29 rfl ?_
  refine z_ialdN (pc := 31) dX7_comes_31 (by decide) rfl (by decide) (hx) ?_
  rw [o2]
  refine z_icmp_ne (pc := 32) (tgt := 39) dX7_comes_32 (by decide) (fun h32 => ?_) (fun h32 => ?_)
  · have q32 : ¬ R.length = (T (5 * a + b)).length := fun g => h32 (by rw [g])
    refine z_iconst (pc := 39) (v := (nI 0)) dX7_comes_39 (by decide) ?_
    refine z_istore (pc := 40) dX7_comes_40 (by decide) rfl rfl ?_
    refine z_iconst (pc := 42) (v := (nI 0)) dX7_comes_42 (by decide) ?_
    refine z_istore (pc := 43) dX7_comes_43 (by decide) rfl rfl ?_
    exact m_co45 (k := 0) hR ⟨o1, o2, o3⟩ (by omega) hx (by omega) (by first | exact Or.inl ⟨rfl, q32, fun j hj => absurd hj (by omega)⟩ | exact Or.inr ⟨rfl, fun g => q32 (by rw [g])⟩) (fun v' w6 k1 k2 => m_co100 H hq hR (by omega) ha hx hct hB)
  · have q32 : R.length = (T (5 * a + b)).length := z_nI_inj (by omega) (by omega) h32
    refine z_iconst (pc := 35) (v := (nI 1)) dX7_comes_35 (by decide) ?_
    refine z_goto (pc := 36) (tgt := 40) dX7_comes_36 (by decide) ?_
    refine z_istore (pc := 40) dX7_comes_40 (by decide) rfl rfl ?_
    refine z_iconst (pc := 42) (v := (nI 0)) dX7_comes_42 (by decide) ?_
    refine z_istore (pc := 43) dX7_comes_43 (by decide) rfl rfl ?_
    exact m_co45 (k := 0) hR ⟨o1, o2, o3⟩ (by omega) hx (by omega) (by first | exact Or.inl ⟨rfl, q32, fun j hj => absurd hj (by omega)⟩ | exact Or.inr ⟨rfl, fun g => q32 (by rw [g])⟩) (fun v' w6 k1 k2 => m_co100 H hq hR (by omega) ha hx hct hB)
set_option maxRecDepth 20000 in
theorem m_fl80 {μ μ0 : z_Sto} {n e h t ct c : Nat} {T O : Nat → List Nat} (H : m_inv μ n e h t T O) (P : m_pub μ μ0) : z_R layM iX7_flood 80 [some (.ref 0), some (.int (nI ct)), some (.int (nI c))] [] μ (m_keepP μ0 n h t) := by
  refine z_aload_n (pc := 80) dX7_flood_80 rfl ?_
  refine z_dup_a (pc := 81) dX7_flood_81 ?_
  refine z_getI (pc := 82) f_X7_222 dX7_flood_82 (by decide) rfl rfl ?_
  refine z_iload_n (pc := 85) dX7_flood_85 rfl ?_
  refine z_iadd (pc := 86) dX7_flood_86 ?_
  refine z_putI (pc := 87) f_X7_222 tyX7_ok nmX7 (by decide) rfl rfl rfl dX7_flood_87 (by decide) rfl rfl ?_
  have HH := m_fN_inv H (m_fN_up (k := 28) (c := 0) (v := μ 0 28 + nI c) (by decide)) (fun y hy => m_row_fr (H.2.2.2.2.1 y hy) (z_up_ne _ _ _ (by decide)) (z_up_ne _ _ _ (by decide))) (fun y hy => m_row_fr (H.2.2.2.2.2.1 y hy) (z_up_ne _ _ _ (by decide)) (z_up_ne _ _ _ (by decide)))
  refine z_aload_n (pc := 90) dX7_flood_90 rfl ?_
  refine z_getI (pc := 91) f_X7_212 dX7_flood_91 (by decide) rfl rfl ?_
  refine z_if_eq (pc := 94) (tgt := 102) dX7_flood_94 (by decide) (fun h94 => ?_) (fun h94 => ?_)
  · refine z_iload_n (pc := 102) dX7_flood_102 rfl ?_
    exact z_ireturn (pc := 103) dX7_flood_103 rfl rfl (⟨⟨_, rfl⟩, ⟨_, _, _, HH.1⟩, HH.2.tr P⟩)
  · refine z_bipush (pc := 97) (v := (-4)) dX7_flood_97 (by decide) ?_
    refine z_goto (pc := 99) (tgt := 103) dX7_flood_99 (by decide) ?_
    exact z_ireturn (pc := 103) dX7_flood_103 rfl rfl (⟨⟨_, rfl⟩, ⟨_, _, _, HH.1⟩, HH.2.tr P⟩)
set_option maxRecDepth 20000 in
theorem m_fl51 {μ μ0 : z_Sto} {n e h t ct c : Nat} {T : Nat → List Nat} {s : y_S} (H : m_inv μ n e h t T s.1) (hq : m_que μ s.2) (P : m_pub μ μ0) (hct : ct < 2) (hc : c ≤ 2000) (hB : s.2.2 ≤ 20 + 4 * c) : z_R layM iX7_flood 51 [some (.ref 0), some (.int (nI ct)), some (.int (nI c))] [] μ (m_keepP μ0 n h t) := by
  generalize hf : 2000 - c = f
  induction f using Nat.strongRecOn generalizing c μ e T s
  rename_i f ih
  refine z_iload_n (pc := 51) dX7_flood_51 rfl ?_
  refine z_aload_n (pc := 52) dX7_flood_52 rfl ?_
  refine z_getI (pc := 53) f_X7_209 dX7_flood_53 (by decide) rfl rfl ?_
  rw [hq.2]
  refine z_icmp_ge (pc := 56) (tgt := 80) dX7_flood_56 (by decide) (fun h56 => ?_) (fun h56 => ?_)
  · exact m_fl80 H P
  · have q56 : c < s.2.2 := by have : ¬ s.2.2 ≤ c := fun q => h56 ((nI_leI (by omega) (by omega)).mpr q); omega
    refine z_iload_n (pc := 59) dX7_flood_59 rfl ?_
    refine z_sipush (pc := 60) (v := (nI 2000)) dX7_flood_60 (by decide) ?_
    refine z_icmp_ge (pc := 63) (tgt := 80) dX7_flood_63 (by decide) (fun h63 => ?_) (fun h63 => ?_)
    · exact m_fl80 H P
    · have q63 : c < 2000 := by have : ¬ 2000 ≤ c := fun q => h63 ((nI_leI (by decide) (by omega)).mpr q); omega
      refine z_iincN (pc := 66) dX7_flood_66 rfl (by decide) rfl rfl ?_
      refine z_aload_n (pc := 69) dX7_flood_69 rfl ?_
      refine z_iload_n (pc := 70) dX7_flood_70 rfl ?_
      refine z_iconst (pc := 71) (v := (nI 1)) dX7_flood_71 (by decide) ?_
      refine z_isub (pc := 72) dX7_flood_72 ?_
      rw [show nI (c + 1) - nI 1 = nI c by rw [pk_sub (by omega)]; rfl]
      refine z_iload_n (pc := 73) dX7_flood_73 rfl ?_
      refine z_cV2 (pc := 74) mX7_comes l_X7_219 (by decide) dX7_flood_74 (by decide) rfl rfl (by decide) (Nat.le_of_ble_eq_true rfl) (m_comes H hq q56 hct (by omega)) rfl (fun r74 σ74 hr74 => ?_)
      obtain ⟨rfl, ⟨e', T', s', k1, k2, k3⟩, k4⟩ := hr74
      refine z_goto (pc := 77) (tgt := 51) dX7_flood_77 (by decide) ?_
      exact ih _ (by omega) (c := c + 1) k1 k2 (k4.tr P) (by omega) (by omega) rfl
set_option maxRecDepth 20000 in
theorem m_fl32 {μ μ0 : z_Sto} {n e h t ct a : Nat} {T : Nat → List Nat} {s : y_S} (H : m_inv μ n e h t T s.1) (hq : m_que μ s.2) (P : m_pub μ μ0) (hct : ct < 2) (ha : a ≤ 5) (hB : s.2.2 ≤ 4 * a) : z_R layM iX7_flood 32 [some (.ref 0), some (.int (nI ct)), some (.int (nI a))] [] μ (m_keepP μ0 n h t) := by
  generalize hf : 5 - a = f
  induction f using Nat.strongRecOn generalizing a μ s
  rename_i f ih
  refine z_iload_n (pc := 32) dX7_flood_32 rfl ?_
  refine z_iconst (pc := 33) (v := (nI 5)) dX7_flood_33 (by decide) ?_
  refine z_icmp_ge (pc := 34) (tgt := 49) dX7_flood_34 (by decide) (fun h34 => ?_) (fun h34 => ?_)
  · refine z_iconst (pc := 49) (v := (nI 0)) dX7_flood_49 (by decide) ?_
    refine z_istore_n (pc := 50) dX7_flood_50 (by decide) rfl rfl ?_
    exact m_fl51 (c := 0) H hq P hct (by decide) (by omega)
  · have q34 : a < 5 := by have : ¬ 5 ≤ a := fun q => h34 ((nI_leI (by decide) (by omega)).mpr q); omega
    refine z_aload_n (pc := 37) dX7_flood_37 rfl ?_
    refine z_iload_n (pc := 38) dX7_flood_38 rfl ?_
    refine z_iload_n (pc := 39) dX7_flood_39 rfl ?_
    refine z_cV2 (pc := 40) mX7_findsAnew l_X7_216 (by decide) dX7_flood_40 (by decide) rfl rfl (by decide) (Nat.le_of_ble_eq_true rfl) (m_findsAnew H.2.2.2.2.1 H.2.2.2.2.2.1 hq (H.2.2.2.1 a q34) q34 hct (by omega)) rfl (fun r40 σ40 hr40 => ?_)
    obtain ⟨rfl, g1, g2, g3, g4⟩ := hr40
    have HH := m_fN_inv (T' := T) H (m_fA_N g3) (fun y hy => m_row_fr (H.2.2.2.2.1 y hy) (g3.1 23 (by decide) (by decide) (by decide) (by decide)) (g3.1 22 (by decide) (by decide) (by decide) (by decide))) g1
    refine z_iincN (pc := 43) dX7_flood_43 rfl (by decide) rfl rfl ?_
    refine z_goto (pc := 46) (tgt := 32) dX7_flood_46 (by decide) ?_
    exact ih _ (by omega) (a := a + 1) HH.1 g2 (HH.2.tr P) (by omega) (by omega) rfl
set_option maxRecDepth 20000 in
theorem m_fl12 {μ μ0 : z_Sto} {n e h t ct a : Nat} {T : Nat → List Nat} {s : y_S} (H : m_inv μ n e h t T s.1) (hq : m_que μ s.2) (P : m_pub μ μ0) (hct : ct < 2) (ha : a ≤ 5) (hB : s.2.2 = 0) : z_R layM iX7_flood 12 [some (.ref 0), some (.int (nI ct)), some (.int (nI a))] [] μ (m_keepP μ0 n h t) := by
  generalize hf : 5 - a = f
  induction f using Nat.strongRecOn generalizing a μ
  rename_i f ih
  refine z_iload_n (pc := 12) dX7_flood_12 rfl ?_
  refine z_iconst (pc := 13) (v := (nI 5)) dX7_flood_13 (by decide) ?_
  refine z_icmp_ge (pc := 14) (tgt := 30) dX7_flood_14 (by decide) (fun h14 => ?_) (fun h14 => ?_)
  · refine z_iconst (pc := 30) (v := (nI 0)) dX7_flood_30 (by decide) ?_
    refine z_istore_n (pc := 31) dX7_flood_31 (by decide) rfl rfl ?_
    exact m_fl32 (a := 0) H hq P hct (by decide) (by omega)
  · have q14 : a < 5 := by have : ¬ 5 ≤ a := fun q => h14 ((nI_leI (by decide) (by omega)).mpr q); omega
    refine z_aload_n (pc := 17) dX7_flood_17 rfl ?_
    refine z_getA (pc := 18) f_X7_86 dX7_flood_18 (by decide) rfl rfl ?_
    refine z_iload_n (pc := 21) dX7_flood_21 rfl ?_
    refine z_iconst (pc := 22) (v := (nI 0)) dX7_flood_22 (by decide) ?_
    refine z_iastN (pc := 23) dX7_flood_23 (by decide) rfl (by decide) (q14) ?_
    refine z_iincN (pc := 24) dX7_flood_24 rfl (by decide) rfl rfl ?_
    refine z_goto (pc := 27) (tgt := 12) dX7_flood_27 (by decide) ?_
    have HH := m_fN_inv H (m_fN_up (k := a) (c := 26) (v := nI 0) (Or.inr (by decide))) (fun y hy => m_row_fr (H.2.2.2.2.1 y hy) (z_up_ne _ _ _ (by decide)) (z_up_ne _ _ _ (by decide))) (fun y hy => m_row_fr (H.2.2.2.2.2.1 y hy) (z_up_ne _ _ _ (by decide)) (z_up_ne _ _ _ (by decide)))
    exact ih _ (by omega) (a := a + 1) HH.1 (m_que_fr hq (fun c h1 h2 => z_up_ne _ _ _ (by omega)) (by rw [z_up_ne _ _ _ (by decide)])) (HH.2.tr P) (by omega) rfl
set_option maxRecDepth 20000 in
theorem m_flood {μ : z_Sto} {n e h t ct : Nat} {T O : Nat → List Nat} (H : m_inv μ n e h t T O) (hct : ct < 2) : z_R layM iX7_flood 0 [some (.ref 0), some (.int (nI ct)), none] [] μ (m_keepP μ n h t) := by
  have HH := m_fN_inv H ((m_fN_up (k := 36) (c := 0) (v := nI 0) (by decide)).tr (m_fN_up (k := 31) (c := 0) (v := nI 0) (by decide))) (fun y hy => m_row_fr (H.2.2.2.2.1 y hy) (by rw [z_up_ne _ _ _ (by decide), z_up_ne _ _ _ (by decide)]) (by rw [z_up_ne _ _ _ (by decide), z_up_ne _ _ _ (by decide)])) (fun y hy => m_row_fr (H.2.2.2.2.2.1 y hy) (by rw [z_up_ne _ _ _ (by decide), z_up_ne _ _ _ (by decide)]) (by rw [z_up_ne _ _ _ (by decide), z_up_ne _ _ _ (by decide)]))
  refine z_aload_n (pc := 0) dX7_flood_0 rfl ?_
  refine z_iconst (pc := 1) (v := (nI 0)) dX7_flood_1 (by decide) ?_
  refine z_putI (pc := 2) f_X7_209 tyX7_ok nmX7 (by decide) rfl rfl rfl dX7_flood_2 (by decide) rfl rfl ?_
  refine z_aload_n (pc := 5) dX7_flood_5 rfl ?_
  refine z_iconst (pc := 6) (v := (nI 0)) dX7_flood_6 (by decide) ?_
  refine z_putI (pc := 7) f_X7_212 tyX7_ok nmX7 (by decide) rfl (by decide) (by decide) dX7_flood_7 (by decide) rfl rfl ?_
  refine z_iconst (pc := 10) (v := (nI 0)) dX7_flood_10 (by decide) ?_
  refine z_istore_n (pc := 11) dX7_flood_11 (by decide) rfl rfl ?_
  exact m_fl12 (a := 0) (s := (O, (fun _ => (0, [])), 0)) HH.1 ⟨fun j hj => absurd hj (Nat.not_lt_zero j), by rw [z_up_ix (by decide), z_up_same, z_upd_s]⟩ HH.2 hct (by decide) rfl
