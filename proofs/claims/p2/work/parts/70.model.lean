/-! the reference: findsAnew -/
theorem y_ext {l m : List Nat} (h1 : l.length = m.length) (h2 : ∀ j, j < l.length → l.getD j 0 = m.getD j 0) : l = m := by
  apply List.ext_getElem h1
  intro j a b
  have := h2 j a
  rw [List.getD_eq_getElem?_getD, List.getElem?_eq_getElem a, List.getD_eq_getElem?_getD, List.getElem?_eq_getElem b] at this
  simpa using this
def m_que (μ : z_Sto) (q : y_Q × Nat) : Prop := (∀ j, j < q.2 → ∃ a b l, a < 5 ∧ b < 5 ∧ q.1 j = (a * 5 + b, l) ∧ μ 29 j = nI a ∧ μ 28 j = nI b ∧ m_row μ 30 31 j l) ∧ μ 0 31 = nI q.2
def m_s1 (wy : Nat → Int32) (a : Nat) (row : List Nat) (i : Nat) (q : y_Q × Nat) : y_Q × Nat := if wy (5 * a + i) = 0 then q else (va_up q.1 q.2 (i * 5 + a, row), q.2 + 1)
def m_send (wy : Nat → Int32) (a : Nat) (row : List Nat) : Nat → Nat → y_Q × Nat → y_Q × Nat
  | 0, _, q => q
  | f + 1, i, q => m_send wy a row f (i + 1) (m_s1 wy a row i q)
theorem m_que_push {μ τ : z_Sto} {q : y_Q × Nat} {a i : Nat} {row : List Nat} (hq : m_que μ q) (ha : a < 5) (hi : i < 5) (hr : y_ok row) (e28 : τ 28 = upd (μ 28) q.2 (nI a)) (e29 : τ 29 = upd (μ 29) q.2 (nI i)) (e30 : τ 30 = upd (μ 30) q.2 (nI row.length)) (e31 : ∀ j, j < 5 * q.2 → τ 31 j = μ 31 j) (e31' : ∀ k, k < row.length → τ 31 (5 * q.2 + k) = nI (row.getD k 0)) : m_que (z_up τ 0 31 (nI (q.2 + 1))) (va_up q.1 q.2 (i * 5 + a, row), q.2 + 1) := by
  refine ⟨fun j hj => ?_, by rw [z_up_same, z_upd_s]⟩
  have hj' : j < q.2 + 1 := hj
  unfold m_row
  rw [z_up_ne _ _ _ (by decide), z_up_ne _ _ _ (by decide), z_up_ne _ _ _ (by decide), z_up_ne _ _ _ (by decide), e28, e29, e30]
  by_cases e : j = q.2
  · subst e
    refine ⟨i, a, row, hi, ha, by simp [va_up], by rw [z_upd_s], by rw [z_upd_s], hr, by rw [z_upd_s], e31'⟩
  · obtain ⟨a', b', l', g1, g2, g3, g4, g5, g6, g7, g8⟩ := hq.1 j (by omega)
    have hl := y_len g6
    refine ⟨a', b', l', g1, g2, by simp only [va_up, if_neg e]; exact g3, by rw [z_upd_n e]; exact g4, by rw [z_upd_n e]; exact g5, g6, by rw [z_upd_n e]; exact g7, fun k hk => ?_⟩
    rw [e31 _ (by omega)]
    exact g8 k hk
set_option maxRecDepth 20000 in
theorem m_fa185 {μ : z_Sto} {R : List Nat} {a ct i k L : Nat} {v3 : Int32} {Φ : z_Post} (hF : m_fnd μ R) (hL : μ 0 31 = nI L) (hLb : L < 8200) (hk : k ≤ R.length) (hp : ∀ j, j < k → μ 31 (5 * L + j) = nI (R.getD j 0)) (K : ∀ τ w5, (∀ c, c ≠ 31 → τ c = μ c) → (∀ j, j < 5 * L → τ 31 j = μ 31 j) → (∀ j, j < R.length → τ 31 (5 * L + j) = nI (R.getD j 0)) → z_R layM iX7_findsAnew 221 [some (.ref 0), some (.int (nI a)), some (.int (nI ct)), some (.int v3), some (.int (nI i)), w5] [] τ Φ) : z_R layM iX7_findsAnew 185 [some (.ref 0), some (.int (nI a)), some (.int (nI ct)), some (.int v3), some (.int (nI i)), some (.int (nI k))] [] μ Φ := by
  have h5 := y_len hF.1
  generalize hf : R.length - k = f
  induction f using Nat.strongRecOn generalizing k μ
  rename_i f ih
  refine z_iload (pc := 185) dX7_findsAnew_185 rfl ?_
  refine z_aload_n (pc := 187) dX7_findsAnew_187 rfl ?_
  refine z_getI (pc := 188) f_X7_199 dX7_findsAnew_188 (by decide) rfl rfl ?_
  rw [hF.2.1]
  refine z_icmp_ge (pc := 191) (tgt := 221) dX7_findsAnew_191 (by decide) (fun h191 => ?_) (fun h191 => ?_)
  · have q191 : k = R.length := by have := (nI_leI (by omega) (by omega)).mp h191; omega
    subst q191
    exact K μ _ (fun _ _ => rfl) (fun _ _ => rfl) hp
  · have q191 : k < R.length := by have : ¬ R.length ≤ k := fun q => h191 ((nI_leI (by omega) (by omega)).mpr q); omega
    refine z_aload_n (pc := 194) dX7_findsAnew_194 rfl ?_
    refine z_getA (pc := 195) f_X7_102 dX7_findsAnew_195 (by decide) rfl rfl ?_
    refine z_iconst (pc := 198) (v := (nI 5)) dX7_findsAnew_198 (by decide) ?_
    refine z_aload_n (pc := 199) dX7_findsAnew_199 rfl ?_
    refine z_getI (pc := 200) f_X7_209 dX7_findsAnew_200 (by decide) rfl rfl ?_
    rw [hL]
    refine z_imulN (pc := 203) dX7_findsAnew_203 ?_
    refine z_iload (pc := 204) dX7_findsAnew_204 rfl ?_
    refine z_iaddN (pc := 206) dX7_findsAnew_206 ?_
    refine z_aload_n (pc := 207) dX7_findsAnew_207 rfl ?_
    refine z_getA (pc := 208) f_X7_89 dX7_findsAnew_208 (by decide) rfl rfl ?_
    refine z_iload (pc := 211) dX7_findsAnew_211 rfl ?_
    refine z_ialdN (pc := 213) dX7_findsAnew_213 (by decide) rfl (by decide) (by omega) ?_
    rw [hF.2.2 k q191]
    refine z_iastN (pc := 214) dX7_findsAnew_214 (by decide) rfl (by decide) (by omega) ?_
    refine z_iincN (pc := 215) dX7_findsAnew_215 rfl (by decide) rfl rfl ?_
    refine z_goto (pc := 218) (tgt := 185) dX7_findsAnew_218 (by decide) ?_
    exact ih _ (by omega) (k := k + 1) ⟨hF.1, by rw [z_up_ne _ _ _ (by decide)]; exact hF.2.1, fun j hj => by rw [z_up_ne _ _ _ (by decide)]; exact hF.2.2 j hj⟩ (by rw [z_up_ne _ _ _ (by decide)]; exact hL) (by omega) (fun j hj => by rw [z_up_same]; by_cases q : j = k; subst q; rw [z_upd_s]; rw [z_upd_n (by omega)]; exact hp j (by omega)) (fun τ w5 g1 g2 g3 => K τ w5 (fun c hc => (g1 c hc).trans (z_up_ne _ _ _ hc)) (fun j hj => by rw [g2 j hj, z_up_same, z_upd_n (by omega)]) g3) rfl
def m_fL (τ μ : z_Sto) : Prop := (∀ c, c ≠ 0 → (c < 28 ∨ 31 < c) → τ c = μ c) ∧ (∀ k, k ≠ 31 → τ 0 k = μ 0 k)
theorem m_fL_rf {μ : z_Sto} : m_fL μ μ := ⟨fun _ _ _ => rfl, fun _ _ => rfl⟩
theorem m_fL.tr {a b c : z_Sto} (h : m_fL a b) (g : m_fL b c) : m_fL a c := ⟨fun k h1 h2 => (h.1 k h1 h2).trans (g.1 k h1 h2), fun k h1 => (h.2 k h1).trans (g.2 k h1)⟩
set_option maxRecDepth 20000 in
theorem m_fa221 {μ : z_Sto} {a ct i L : Nat} {v3 : Int32} {v5 : Option Value} {Φ : z_Post} (hL : μ 0 31 = nI L) (K : z_R layM iX7_findsAnew 128 [some (.ref 0), some (.int (nI a)), some (.int (nI ct)), some (.int v3), some (.int (nI (i + 1))), v5] [] (z_up μ 0 31 (nI (L + 1))) Φ) : z_R layM iX7_findsAnew 221 [some (.ref 0), some (.int (nI a)), some (.int (nI ct)), some (.int v3), some (.int (nI i)), v5] [] μ Φ := by
  refine z_aload_n (pc := 221) dX7_findsAnew_221 rfl ?_
  refine z_dup_a (pc := 222) dX7_findsAnew_222 ?_
  refine z_getI (pc := 223) f_X7_209 dX7_findsAnew_223 (by decide) rfl rfl ?_
  rw [hL]
  refine z_iconst (pc := 226) (v := (nI 1)) dX7_findsAnew_226 (by decide) ?_
  refine z_iaddN (pc := 227) dX7_findsAnew_227 ?_
  refine z_putI (pc := 228) f_X7_209 tyX7_ok nmX7 (by decide) rfl rfl rfl dX7_findsAnew_228 (by decide) rfl rfl ?_
  refine z_iincN (pc := 231) dX7_findsAnew_231 rfl (by decide) rfl rfl ?_
  refine z_goto (pc := 234) (tgt := 128) dX7_findsAnew_234 (by decide) ?_
  exact K
set_option maxRecDepth 20000 in
theorem m_fa128 {μ : z_Sto} {R : List Nat} {q : y_Q × Nat} {wy : Nat → Int32} {a ct i B : Nat} {v3 : Int32} {v5 : Option Value} (hF : m_fnd μ R) (hq : m_que μ q) (hwy : μ 20 = wy) (hdg : wy (5 * a + a) = nI 0) (ha : a < 5) (hi : i ≤ 5) (hB : B + 4 ≤ 8200) (hqB : q.2 + (if a < i then 1 else 0) ≤ B + i) : z_R layM iX7_findsAnew 128 [some (.ref 0), some (.int (nI a)), some (.int (nI ct)), some (.int v3), some (.int (nI i)), v5] [] μ (fun r μ' => r = none ∧ m_que μ' (m_send wy a R (5 - i) i q) ∧ m_fL μ' μ ∧ (m_send wy a R (5 - i) i q).2 ≤ B + 4) := by
  generalize hf : 5 - i = f
  induction f using Nat.strongRecOn generalizing i μ q v5
  rename_i f ih
  refine z_iload (pc := 128) dX7_findsAnew_128 rfl ?_
  refine z_iconst (pc := 130) (v := (nI 5)) dX7_findsAnew_130 (by decide) ?_
  refine z_icmp_ge (pc := 131) (tgt := 237) dX7_findsAnew_131 (by decide) (fun h131 => ?_) (fun h131 => ?_)
  · have q131 : f = 0 := by have := (nI_leI (by decide) (by omega)).mp h131; omega
    have q132 : q.2 ≤ B + 4 := by rw [if_pos (by omega)] at hqB; omega
    exact z_return (pc := 237) dX7_findsAnew_237 rfl (⟨rfl, by rw [q131]; exact hq, m_fL_rf, by rw [q131]; exact q132⟩)
  · have q131 : i < 5 := by have : ¬ 5 ≤ i := fun q => h131 ((nI_leI (by decide) (by omega)).mpr q); omega
    have hf1 : f = (5 - (i + 1)) + 1 := by omega
    refine z_aload_n (pc := 134) dX7_findsAnew_134 rfl ?_
    refine z_getA (pc := 135) f_X7_68 dX7_findsAnew_135 (by decide) rfl rfl ?_
    refine z_iconst (pc := 138) (v := (nI 5)) dX7_findsAnew_138 (by decide) ?_
    refine z_iload_n (pc := 139) dX7_findsAnew_139 rfl ?_
    refine z_imulN (pc := 140) dX7_findsAnew_140 ?_
    refine z_iload (pc := 141) dX7_findsAnew_141 rfl ?_
    refine z_iaddN (pc := 143) dX7_findsAnew_143 ?_
    refine z_zaldN (pc := 144) dX7_findsAnew_144 (by decide) rfl (by decide) (by omega) ?_
    refine z_if_eq (pc := 145) (tgt := 231) dX7_findsAnew_145 (by decide) (fun h145 => ?_) (fun h145 => ?_)
    · have es : m_s1 wy a R i q = q := by rw [m_s1, if_pos (by rw [← hwy]; exact h145)]
      refine z_iincN (pc := 231) dX7_findsAnew_231 rfl (by decide) rfl rfl ?_
      refine z_goto (pc := 234) (tgt := 128) dX7_findsAnew_234 (by decide) ?_
      exact (ih _ (by omega) (i := i + 1) hF hq hwy (by omega) (by (by_cases g : a < i; rw [if_pos g] at hqB; rw [if_pos (by omega)]; omega; rw [if_neg g] at hqB; split <;> omega)) rfl).mono (fun r μ' u => ⟨u.1, by rw [hf1, m_send, es]; exact u.2.1, u.2.2.1, by rw [hf1, m_send, es]; exact u.2.2.2⟩)
    · have es : m_s1 wy a R i q = (va_up q.1 q.2 (i * 5 + a, R), q.2 + 1) := by rw [m_s1, if_neg (by rw [← hwy]; exact h145)]
      have hia : i ≠ a := fun e => h145 (by rw [hwy, e]; exact hdg)
      have hLb : q.2 + 1 ≤ 8200 ∧ q.2 + 1 + (if a < i + 1 then 1 else 0) ≤ B + (i + 1) := by (by_cases g : a < i; rw [if_pos g] at hqB; rw [if_pos (by omega)]; omega; rw [if_neg g] at hqB; rw [if_neg (by omega)]; omega)
      refine z_aload_n (pc := 148) dX7_findsAnew_148 rfl ?_
      refine z_getA (pc := 149) f_X7_92 dX7_findsAnew_149 (by decide) rfl rfl ?_
      refine z_aload_n (pc := 152) dX7_findsAnew_152 rfl ?_
      refine z_getI (pc := 153) f_X7_209 dX7_findsAnew_153 (by decide) rfl rfl ?_
      rw [hq.2]
      refine z_iload_n (pc := 156) dX7_findsAnew_156 rfl ?_
      refine z_iastN (pc := 157) dX7_findsAnew_157 (by decide) rfl (by decide) (by omega) ?_
      refine z_aload_n (pc := 158) dX7_findsAnew_158 rfl ?_
      refine z_getA (pc := 159) f_X7_95 dX7_findsAnew_159 (by decide) rfl rfl ?_
      refine z_aload_n (pc := 162) dX7_findsAnew_162 rfl ?_
      refine z_getI (pc := 163) f_X7_209 dX7_findsAnew_163 (by decide) rfl rfl ?_
      rw [show z_up μ 28 q.2 (nI a) 0 31 = nI q.2 by rw [z_up_ne _ _ _ (by decide)]; exact hq.2]
      refine z_iload (pc := 166) dX7_findsAnew_166 rfl ?_
      refine z_iastN (pc := 168) dX7_findsAnew_168 (by decide) rfl (by decide) (by omega) ?_
      refine z_aload_n (pc := 169) dX7_findsAnew_169 rfl ?_
      refine z_getA (pc := 170) f_X7_98 dX7_findsAnew_170 (by decide) rfl rfl ?_
      refine z_aload_n (pc := 173) dX7_findsAnew_173 rfl ?_
      refine z_getI (pc := 174) f_X7_209 dX7_findsAnew_174 (by decide) rfl rfl ?_
      rw [show z_up (z_up μ 28 q.2 (nI a)) 29 q.2 (nI i) 0 31 = nI q.2 by rw [z_up_ne _ _ _ (by decide), z_up_ne _ _ _ (by decide)]; exact hq.2]
      refine z_aload_n (pc := 177) dX7_findsAnew_177 rfl ?_
      refine z_getI (pc := 178) f_X7_199 dX7_findsAnew_178 (by decide) rfl rfl ?_
      rw [show z_up (z_up μ 28 q.2 (nI a)) 29 q.2 (nI i) 0 30 = nI R.length by rw [z_up_ne _ _ _ (by decide), z_up_ne _ _ _ (by decide)]; exact hF.2.1]
      refine z_iastN (pc := 181) dX7_findsAnew_181 (by decide) rfl (by decide) (by omega) ?_
      refine z_iconst (pc := 182) (v := (nI 0)) dX7_findsAnew_182 (by decide) ?_
      refine z_istore (pc := 183) dX7_findsAnew_183 (by decide) rfl rfl ?_
      exact m_fa185 (R := R) (L := q.2) (k := 0) ⟨hF.1, by rw [z_up_ne _ _ _ (by decide), z_up_ne _ _ _ (by decide), z_up_ne _ _ _ (by decide)]; exact hF.2.1, fun j hj => by rw [z_up_ne _ _ _ (by decide), z_up_ne _ _ _ (by decide), z_up_ne _ _ _ (by decide)]; exact hF.2.2 j hj⟩ (by rw [z_up_ne _ _ _ (by decide), z_up_ne _ _ _ (by decide), z_up_ne _ _ _ (by decide)]; exact hq.2) (by omega) (by omega) (fun j hj => absurd hj (by omega)) (fun τ w5 g1 g2 g3 => m_fa221 (L := q.2) (by rw [g1 0 (by decide), z_up_ne _ _ _ (by decide), z_up_ne _ _ _ (by decide), z_up_ne _ _ _ (by decide)]; exact hq.2) ((ih _ (by omega) (i := i + 1) (q := (va_up q.1 q.2 (i * 5 + a, R), q.2 + 1)) ⟨hF.1, by rw [z_up_ix (by decide), g1 0 (by decide), z_up_ne _ _ _ (by decide), z_up_ne _ _ _ (by decide), z_up_ne _ _ _ (by decide)]; exact hF.2.1, fun j hj => by rw [z_up_ne _ _ _ (by decide), g1 27 (by decide), z_up_ne _ _ _ (by decide), z_up_ne _ _ _ (by decide), z_up_ne _ _ _ (by decide)]; exact hF.2.2 j hj⟩ (m_que_push hq ha q131 hF.1 (by rw [g1 28 (by decide), z_up_ne _ _ _ (by decide), z_up_ne _ _ _ (by decide), z_up_same]) (by rw [g1 29 (by decide), z_up_ne _ _ _ (by decide), z_up_same, z_up_ne _ _ _ (by decide)]) (by rw [g1 30 (by decide), z_up_same, z_up_ne _ _ _ (by decide), z_up_ne _ _ _ (by decide)]) (fun j hj => by rw [g2 j hj, z_up_ne _ _ _ (by decide), z_up_ne _ _ _ (by decide), z_up_ne _ _ _ (by decide)]) g3) (by rw [z_up_ne _ _ _ (by decide), g1 20 (by decide), z_up_ne _ _ _ (by decide), z_up_ne _ _ _ (by decide), z_up_ne _ _ _ (by decide)]; exact hwy) (by omega) hLb.2 rfl).mono (fun r μ' u => ⟨u.1, by rw [hf1, m_send, es]; exact u.2.1, u.2.2.1.tr ⟨fun c hc hc2 => by rw [z_up_ne _ _ _ hc, g1 c (by omega), z_up_ne _ _ _ (by omega), z_up_ne _ _ _ (by omega), z_up_ne _ _ _ (by omega)], fun k hk => by rw [z_up_ix hk, g1 0 (by decide), z_up_ne _ _ _ (by decide), z_up_ne _ _ _ (by decide), z_up_ne _ _ _ (by decide)]⟩, by rw [hf1, m_send, es]; exact u.2.2.2⟩)))
