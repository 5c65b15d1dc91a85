/-! the law: its links, one row for each way of its switch; by program -/
theorem gL_13 : Cond.methodLink R_law 13 iX6_line.1 ∈ z_tbl := z_tb (n := 220) (by decide +kernel) (by decide +kernel)
theorem gL_17 : Cond.methodLink R_law 17 iX7_line.1 ∈ z_tbl := z_tb (n := 745) (by decide +kernel) (by decide +kernel)
theorem gL_18 : Cond.methodLink R_law 18 iX6_rule.1 ∈ z_tbl := z_tb (n := 248) (by decide +kernel) (by decide +kernel)
theorem gL_21 : Cond.methodLink R_law 21 iX7_rule.1 ∈ z_tbl := z_tb (n := 765) (by decide +kernel) (by decide +kernel)
theorem gL_22 : Cond.methodLink R_law 22 iX6_faded.1 ∈ z_tbl := z_tb (n := 283) (by decide +kernel) (by decide +kernel)
theorem gL_25 : Cond.methodLink R_law 25 iX7_faded.1 ∈ z_tbl := z_tb (n := 780) (by decide +kernel) (by decide +kernel)
theorem gL_26 : Cond.methodLink R_law 26 iX6_change.1 ∈ z_tbl := z_tb (n := 289) (by decide +kernel) (by decide +kernel)
theorem gL_30 : Cond.methodLink R_law 30 iX7_change.1 ∈ z_tbl := z_tb (n := 784) (by decide +kernel) (by decide +kernel)
theorem gL_31 : Cond.methodLink R_law 31 iX6_echo.1 ∈ z_tbl := z_tb (n := 367) (by decide +kernel) (by decide +kernel)
theorem gL_35 : Cond.methodLink R_law 35 iX7_echo.1 ∈ z_tbl := z_tb (n := 808) (by decide +kernel) (by decide +kernel)
theorem gL_36 : Cond.methodLink R_law 36 iX6_tick.1 ∈ z_tbl := z_tb (n := 371) (by decide +kernel) (by decide +kernel)
theorem gL_39 : Cond.methodLink R_law 39 iX7_tick.1 ∈ z_tbl := z_tb (n := 812) (by decide +kernel) (by decide +kernel)
theorem gL_40 : Cond.methodLink R_law 40 iX6_about.1 ∈ z_tbl := z_tb (n := 379) (by decide +kernel) (by decide +kernel)
theorem gL_43 : Cond.methodLink R_law 43 iX7_about.1 ∈ z_tbl := z_tb (n := 820) (by decide +kernel) (by decide +kernel)
theorem gL_44 : Cond.methodLink R_law 44 iX6_longest.1 ∈ z_tbl := z_tb (n := 405) (by decide +kernel) (by decide +kernel)
theorem gL_48 : Cond.methodLink R_law 48 iX7_longest.1 ∈ z_tbl := z_tb (n := 832) (by decide +kernel) (by decide +kernel)
theorem gL_49 : Cond.methodLink R_law 49 iX6_event.1 ∈ z_tbl := z_tb (n := 410) (by decide +kernel) (by decide +kernel)
theorem gL_52 : Cond.methodLink R_law 52 iX7_event.1 ∈ z_tbl := z_tb (n := 836) (by decide +kernel) (by decide +kernel)
theorem gL_53 : Cond.methodLink R_law 53 iX6_again.1 ∈ z_tbl := z_tb (n := 430) (by decide +kernel) (by decide +kernel)
theorem gL_57 : Cond.methodLink R_law 57 iX7_again.1 ∈ z_tbl := z_tb (n := 840) (by decide +kernel) (by decide +kernel)
theorem gL_58 : Cond.methodLink R_law 58 iX6_mark.1 ∈ z_tbl := z_tb (n := 465) (by decide +kernel) (by decide +kernel)
theorem gL_61 : Cond.methodLink R_law 61 iX7_mark.1 ∈ z_tbl := z_tb (n := 856) (by decide +kernel) (by decide +kernel)
theorem gL_62 : Cond.methodLink R_law 62 iX6_marks.1 ∈ z_tbl := z_tb (n := 473) (by decide +kernel) (by decide +kernel)
theorem gL_65 : Cond.methodLink R_law 65 iX7_marks.1 ∈ z_tbl := z_tb (n := 860) (by decide +kernel) (by decide +kernel)
theorem gL_66 : Cond.methodLink R_law 66 iX6_way.1 ∈ z_tbl := z_tb (n := 513) (by decide +kernel) (by decide +kernel)
theorem gL_70 : Cond.methodLink R_law 70 iX7_way.1 ∈ z_tbl := z_tb (n := 884) (by decide +kernel) (by decide +kernel)
theorem gL_71 : Cond.methodLink R_law 71 iX6_bind.1 ∈ z_tbl := z_tb (n := 531) (by decide +kernel) (by decide +kernel)
theorem gL_75 : Cond.methodLink R_law 75 iX7_bind.1 ∈ z_tbl := z_tb (n := 891) (by decide +kernel) (by decide +kernel)
theorem gL_76 : Cond.methodLink R_law 76 iX6_flood.1 ∈ z_tbl := z_tb (n := 539) (by decide +kernel) (by decide +kernel)
theorem gL_80 : Cond.methodLink R_law 80 iX7_flood.1 ∈ z_tbl := z_tb (n := 895) (by decide +kernel) (by decide +kernel)
theorem gL_81 : Cond.methodLink R_law 81 iX6_own.1 ∈ z_tbl := z_tb (n := 579) (by decide +kernel) (by decide +kernel)
theorem gL_84 : Cond.methodLink R_law 84 iX7_own.1 ∈ z_tbl := z_tb (n := 915) (by decide +kernel) (by decide +kernel)
theorem gL_85 : Cond.methodLink R_law 85 iX6_echoes.1 ∈ z_tbl := z_tb (n := 587) (by decide +kernel) (by decide +kernel)
theorem gL_88 : Cond.methodLink R_law 88 iX7_echoes.1 ∈ z_tbl := z_tb (n := 919) (by decide +kernel) (by decide +kernel)
theorem gL_89 : Cond.methodLink R_law 89 iX6_count.1 ∈ z_tbl := z_tb (n := 595) (by decide +kernel) (by decide +kernel)
theorem gL_92 : Cond.methodLink R_law 92 iX7_count.1 ∈ z_tbl := z_tb (n := 923) (by decide +kernel) (by decide +kernel)
theorem gL_93 : Cond.methodLink R_law 93 iX6_digest.1 ∈ z_tbl := z_tb (n := 612) (by decide +kernel) (by decide +kernel)
theorem gL_97 : Cond.methodLink R_law 97 iX7_digest.1 ∈ z_tbl := z_tb (n := 927) (by decide +kernel) (by decide +kernel)
def lw_t (x : Int32) : Nat := if x = 0 then 0 else 1
theorem lw_t2 (x : Int32) : lw_t x < 2 := by unfold lw_t; split <;> decide
section LWC
variable {p : Program} {l : Launch} {e : Env} {s : State} {m : MethodId} {below : List Frame} {meth : Method} {c : Code} {b L : Nat} {xs : Nat → Int32} {adX adM : Nat → Nat} {D : va_G} {cI cZ : ClassId} {KC KS : Nat} {pc i : Nat} {st : List Value} {σ μ : z_Sto}
theorem j_bool {x : Int32} (X : lw_X p s m meth c b L xs D cI cZ KC KS) (d0 : decode code pc = .ok (.ifCond .eq 7, 3)) (d1 : decode code (pc + 3) = .ok (.iconst 1, 1)) (d2 : decode code (pc + 4) = .ok (.goto 4, 3)) (d3 : decode code (pc + 7) = .ok (.iconst 0, 1)) (k : lw_J p l e s m below meth c b adX adM D cI cZ KC KS (pc + 8) i (.int (nI (lw_t x)) :: st) σ μ) : lw_J p l e s m below meth c b adX adM D cI cZ KC KS pc i (.int x :: st) σ μ := by
  refine j_if_eq X d0 (tgt := pc + 7) (by omega) (fun h => ?_) (fun h => ?_)
  · refine j_iconst (v := nI 0) X d3 (by decide) ?_
    have q : lw_t x = 0 := by rw [lw_t, if_pos h]
    rw [q] at k
    exact k
  · refine j_iconst (v := nI 1) X d1 (by decide) ?_
    refine j_goto X d2 (tgt := pc + 8) (by omega) ?_
    have q : lw_t x = 1 := by rw [lw_t, if_neg h]
    rw [q] at k
    exact k
theorem lc_0 (X : lw_X p s m meth c b L xs D cI cZ KC KS) (hi : i + 5 ≤ L) (R : lw_rel σ μ) (kk : ∀ σ' μ', lw_rel σ' μ' → lw_J p l e s m below meth c b adX adM D cI cZ KC KS 739 i [] σ' μ') : lw_J p l e s m below meth c b adX adM D cI cZ KC KS 124 i [] σ μ := by
  obtain ⟨Ψx, Ψm, hX, hM, s1, s2, s3⟩ := pr_line (x := xs (i + 1)) (y := xs (i + 2)) R
  refine j_ax X dL_law_124 ?_
  refine j_sc (k := 1) X dL_law_125 dL_law_126 dL_law_127 (by decide) dL_law_128 dL_law_129 (by omega) ?_
  refine j_sc (k := 2) X dL_law_130 dL_law_131 dL_law_132 (by decide) dL_law_133 dL_law_134 (by omega) ?_
  refine j_cx (ns := [xs (i + 1), xs (i + 2)]) X mX6_line gL_13 (by decide) dL_law_135 rfl rfl (by decide) (by decide) hX rfl (fun r τ q => by obtain ⟨v, rfl⟩ := s1 r τ q; rfl) (fun r1 σ1 q1 => ?_)
  obtain ⟨v1, e1⟩ := s1 r1 σ1 q1
  subst e1
  refine j_am X dL_law_138 ?_
  refine j_sc (k := 1) X dL_law_139 dL_law_140 dL_law_141 (by decide) dL_law_142 dL_law_143 (by omega) ?_
  refine j_sc (k := 2) X dL_law_144 dL_law_145 dL_law_146 (by decide) dL_law_147 dL_law_148 (by omega) ?_
  refine j_cm (ns := [xs (i + 1), xs (i + 2)]) X mX7_line gL_17 (by decide) dL_law_149 rfl rfl (by decide) (by simp [Value.category]) hM rfl (fun r τ q => by obtain ⟨v, rfl⟩ := s2 r τ q; rfl) (fun r2 μ1 q2 => ?_)
  obtain ⟨v2, e2⟩ := s2 r2 μ1 q2
  subst e2
  exact j_icmp_eq X dL_law_152 (tgt := 739) (by decide) (by have := (s3 _ _ _ _ q1 q2).2 trivial; injection this with this; injection this) (kk _ _ (s3 _ _ _ _ q1 q2).1)
theorem lc_1 (X : lw_X p s m meth c b L xs D cI cZ KC KS) (hi : i + 5 ≤ L) (R : lw_rel σ μ) (kk : ∀ σ' μ', lw_rel σ' μ' → lw_J p l e s m below meth c b adX adM D cI cZ KC KS 739 i [] σ' μ') : lw_J p l e s m below meth c b adX adM D cI cZ KC KS 157 i [] σ μ := by
  obtain ⟨Ψx, Ψm, hX, hM, s1, s2, s3⟩ := pr_rule (x := xs (i + 1)) (y := xs (i + 2)) R
  refine j_ax X dL_law_157 ?_
  refine j_sc (k := 1) X dL_law_158 dL_law_159 dL_law_160 (by decide) dL_law_161 dL_law_162 (by omega) ?_
  refine j_sc (k := 2) X dL_law_163 dL_law_164 dL_law_165 (by decide) dL_law_166 dL_law_167 (by omega) ?_
  refine j_cx (ns := [xs (i + 1), xs (i + 2)]) X mX6_rule gL_18 (by decide) dL_law_168 rfl rfl (by decide) (by decide) hX rfl (fun r τ q => by obtain ⟨v, rfl⟩ := s1 r τ q; rfl) (fun r1 σ1 q1 => ?_)
  obtain ⟨v1, e1⟩ := s1 r1 σ1 q1
  subst e1
  refine j_pop X dL_law_171 ?_
  refine j_am X dL_law_172 ?_
  refine j_sc (k := 1) X dL_law_173 dL_law_174 dL_law_175 (by decide) dL_law_176 dL_law_177 (by omega) ?_
  refine j_sc (k := 2) X dL_law_178 dL_law_179 dL_law_180 (by decide) dL_law_181 dL_law_182 (by omega) ?_
  refine j_cm (ns := [xs (i + 1), xs (i + 2)]) X mX7_rule gL_21 (by decide) dL_law_183 rfl rfl (by decide) (by simp [Value.category]) hM rfl (fun r τ q => by obtain ⟨v, rfl⟩ := s2 r τ q; rfl) (fun r2 μ1 q2 => ?_)
  obtain ⟨v2, e2⟩ := s2 r2 μ1 q2
  subst e2
  refine j_pop X dL_law_186 ?_
  exact j_goto X dL_law_187 (tgt := 739) (by decide) (kk _ _ (s3 _ _ _ _ q1 q2).1)
theorem lc_2 (X : lw_X p s m meth c b L xs D cI cZ KC KS) (hi : i + 5 ≤ L) (R : lw_rel σ μ) (kk : ∀ σ' μ', lw_rel σ' μ' → lw_J p l e s m below meth c b adX adM D cI cZ KC KS 739 i [] σ' μ') : lw_J p l e s m below meth c b adX adM D cI cZ KC KS 190 i [] σ μ := by
  obtain ⟨Ψx, Ψm, hX, hM, s1, s2, s3⟩ := pr_faded (x := xs (i + 1)) (y := xs (i + 2)) R
  refine j_ax X dL_law_190 ?_
  refine j_sc (k := 1) X dL_law_191 dL_law_192 dL_law_193 (by decide) dL_law_194 dL_law_195 (by omega) ?_
  refine j_sc (k := 2) X dL_law_196 dL_law_197 dL_law_198 (by decide) dL_law_199 dL_law_200 (by omega) ?_
  refine j_cx (ns := [xs (i + 1), xs (i + 2)]) X mX6_faded gL_22 (by decide) dL_law_201 rfl rfl (by decide) (by decide) hX rfl (fun r τ q => by obtain ⟨v, rfl⟩ := s1 r τ q; rfl) (fun r1 σ1 q1 => ?_)
  obtain ⟨v1, e1⟩ := s1 r1 σ1 q1
  subst e1
  refine j_pop X dL_law_204 ?_
  refine j_am X dL_law_205 ?_
  refine j_sc (k := 1) X dL_law_206 dL_law_207 dL_law_208 (by decide) dL_law_209 dL_law_210 (by omega) ?_
  refine j_sc (k := 2) X dL_law_211 dL_law_212 dL_law_213 (by decide) dL_law_214 dL_law_215 (by omega) ?_
  refine j_cm (ns := [xs (i + 1), xs (i + 2)]) X mX7_faded gL_25 (by decide) dL_law_216 rfl rfl (by decide) (by simp [Value.category]) hM rfl (fun r τ q => by obtain ⟨v, rfl⟩ := s2 r τ q; rfl) (fun r2 μ1 q2 => ?_)
  obtain ⟨v2, e2⟩ := s2 r2 μ1 q2
  subst e2
  refine j_pop X dL_law_219 ?_
  exact j_goto X dL_law_220 (tgt := 739) (by decide) (kk _ _ (s3 _ _ _ _ q1 q2).1)
theorem lc_3 (X : lw_X p s m meth c b L xs D cI cZ KC KS) (hi : i + 5 ≤ L) (R : lw_rel σ μ) (kk : ∀ σ' μ', lw_rel σ' μ' → lw_J p l e s m below meth c b adX adM D cI cZ KC KS 739 i [] σ' μ') : lw_J p l e s m below meth c b adX adM D cI cZ KC KS 223 i [] σ μ := by
  obtain ⟨Ψx, Ψm, hX, hM, s1, s2, s3⟩ := pr_change (x := xs (i + 1)) (y := nI (lw_t (xs (i + 2)))) R
  refine j_ax X dL_law_223 ?_
  refine j_sc (k := 1) X dL_law_224 dL_law_225 dL_law_226 (by decide) dL_law_227 dL_law_228 (by omega) ?_
  refine j_sc (k := 2) X dL_law_229 dL_law_230 dL_law_231 (by decide) dL_law_232 dL_law_233 (by omega) ?_
  refine j_bool X dL_law_234 dL_law_237 dL_law_238 dL_law_241 ?_
  refine j_cx (ns := [xs (i + 1), nI (lw_t (xs (i + 2)))]) X mX6_change gL_26 (by decide) dL_law_242 rfl rfl (by decide) (by decide) hX rfl (fun r τ q => by obtain ⟨v, rfl⟩ := s1 r τ q; rfl) (fun r1 σ1 q1 => ?_)
  obtain ⟨v1, e1⟩ := s1 r1 σ1 q1
  subst e1
  refine j_pop X dL_law_245 ?_
  refine j_am X dL_law_246 ?_
  refine j_sc (k := 1) X dL_law_247 dL_law_248 dL_law_249 (by decide) dL_law_250 dL_law_251 (by omega) ?_
  refine j_sc (k := 2) X dL_law_252 dL_law_253 dL_law_254 (by decide) dL_law_255 dL_law_256 (by omega) ?_
  refine j_bool X dL_law_257 dL_law_260 dL_law_261 dL_law_264 ?_
  refine j_cm (ns := [xs (i + 1), nI (lw_t (xs (i + 2)))]) X mX7_change gL_30 (by decide) dL_law_265 rfl rfl (by decide) (by simp [Value.category]) hM rfl (fun r τ q => by obtain ⟨v, rfl⟩ := s2 r τ q; rfl) (fun r2 μ1 q2 => ?_)
  obtain ⟨v2, e2⟩ := s2 r2 μ1 q2
  subst e2
  refine j_pop X dL_law_268 ?_
  exact j_goto X dL_law_269 (tgt := 739) (by decide) (kk _ _ (s3 _ _ _ _ q1 q2).1)
theorem lc_4 (X : lw_X p s m meth c b L xs D cI cZ KC KS) (hi : i + 5 ≤ L) (R : lw_rel σ μ) (kk : ∀ σ' μ', lw_rel σ' μ' → lw_J p l e s m below meth c b adX adM D cI cZ KC KS 739 i [] σ' μ') : lw_J p l e s m below meth c b adX adM D cI cZ KC KS 272 i [] σ μ := by
  obtain ⟨Ψx, Ψm, hX, hM, s1, s2, s3⟩ := pr_echo (x := xs (i + 1)) R
  refine j_ax X dL_law_272 ?_
  refine j_sc (k := 1) X dL_law_273 dL_law_274 dL_law_275 (by decide) dL_law_276 dL_law_277 (by omega) ?_
  refine j_cx (ns := [xs (i + 1)]) X mX6_echo gL_31 (by decide) dL_law_278 rfl rfl (by decide) (by decide) hX rfl (fun r τ q => by obtain ⟨v, rfl⟩ := s1 r τ q; rfl) (fun r1 σ1 q1 => ?_)
  obtain ⟨v1, e1⟩ := s1 r1 σ1 q1
  subst e1
  refine j_pop X dL_law_281 ?_
  refine j_am X dL_law_282 ?_
  refine j_sc (k := 1) X dL_law_283 dL_law_284 dL_law_285 (by decide) dL_law_286 dL_law_287 (by omega) ?_
  refine j_cm (ns := [xs (i + 1)]) X mX7_echo gL_35 (by decide) dL_law_288 rfl rfl (by decide) (by simp [Value.category]) hM rfl (fun r τ q => by obtain ⟨v, rfl⟩ := s2 r τ q; rfl) (fun r2 μ1 q2 => ?_)
  obtain ⟨v2, e2⟩ := s2 r2 μ1 q2
  subst e2
  refine j_pop X dL_law_291 ?_
  exact j_goto X dL_law_292 (tgt := 739) (by decide) (kk _ _ (s3 _ _ _ _ q1 q2).1)
theorem lc_5 (X : lw_X p s m meth c b L xs D cI cZ KC KS) (hi : i + 5 ≤ L) (R : lw_rel σ μ) (kk : ∀ σ' μ', lw_rel σ' μ' → lw_J p l e s m below meth c b adX adM D cI cZ KC KS 739 i [] σ' μ') : lw_J p l e s m below meth c b adX adM D cI cZ KC KS 295 i [] σ μ := by
  obtain ⟨Ψx, Ψm, hX, hM, s1, s2, s3⟩ := pr_tick (x := xs (i + 1)) R
  refine j_ax X dL_law_295 ?_
  refine j_sc (k := 1) X dL_law_296 dL_law_297 dL_law_298 (by decide) dL_law_299 dL_law_300 (by omega) ?_
  refine j_cx (ns := [xs (i + 1)]) X mX6_tick gL_36 (by decide) dL_law_301 rfl rfl (by decide) (by decide) hX rfl (fun r τ q => by obtain ⟨v, rfl⟩ := s1 r τ q; rfl) (fun r1 σ1 q1 => ?_)
  obtain ⟨v1, e1⟩ := s1 r1 σ1 q1
  subst e1
  refine j_pop X dL_law_304 ?_
  refine j_am X dL_law_305 ?_
  refine j_sc (k := 1) X dL_law_306 dL_law_307 dL_law_308 (by decide) dL_law_309 dL_law_310 (by omega) ?_
  refine j_cm (ns := [xs (i + 1)]) X mX7_tick gL_39 (by decide) dL_law_311 rfl rfl (by decide) (by simp [Value.category]) hM rfl (fun r τ q => by obtain ⟨v, rfl⟩ := s2 r τ q; rfl) (fun r2 μ1 q2 => ?_)
  obtain ⟨v2, e2⟩ := s2 r2 μ1 q2
  subst e2
  refine j_pop X dL_law_314 ?_
  exact j_goto X dL_law_315 (tgt := 739) (by decide) (kk _ _ (s3 _ _ _ _ q1 q2).1)
theorem lc_6 (X : lw_X p s m meth c b L xs D cI cZ KC KS) (hi : i + 5 ≤ L) (R : lw_rel σ μ) (kk : ∀ σ' μ', lw_rel σ' μ' → lw_J p l e s m below meth c b adX adM D cI cZ KC KS 739 i [] σ' μ') : lw_J p l e s m below meth c b adX adM D cI cZ KC KS 318 i [] σ μ := by
  obtain ⟨Ψx, Ψm, hX, hM, s1, s2, s3⟩ := pr_about (x := xs (i + 1)) (y := xs (i + 2)) R
  refine j_ax X dL_law_318 ?_
  refine j_sc (k := 1) X dL_law_319 dL_law_320 dL_law_321 (by decide) dL_law_322 dL_law_323 (by omega) ?_
  refine j_sc (k := 2) X dL_law_324 dL_law_325 dL_law_326 (by decide) dL_law_327 dL_law_328 (by omega) ?_
  refine j_cx (ns := [xs (i + 1), xs (i + 2)]) X mX6_about gL_40 (by decide) dL_law_329 rfl rfl (by decide) (by decide) hX rfl (fun r τ q => by obtain ⟨v, rfl⟩ := s1 r τ q; rfl) (fun r1 σ1 q1 => ?_)
  obtain ⟨v1, e1⟩ := s1 r1 σ1 q1
  subst e1
  refine j_pop X dL_law_332 ?_
  refine j_am X dL_law_333 ?_
  refine j_sc (k := 1) X dL_law_334 dL_law_335 dL_law_336 (by decide) dL_law_337 dL_law_338 (by omega) ?_
  refine j_sc (k := 2) X dL_law_339 dL_law_340 dL_law_341 (by decide) dL_law_342 dL_law_343 (by omega) ?_
  refine j_cm (ns := [xs (i + 1), xs (i + 2)]) X mX7_about gL_43 (by decide) dL_law_344 rfl rfl (by decide) (by simp [Value.category]) hM rfl (fun r τ q => by obtain ⟨v, rfl⟩ := s2 r τ q; rfl) (fun r2 μ1 q2 => ?_)
  obtain ⟨v2, e2⟩ := s2 r2 μ1 q2
  subst e2
  refine j_pop X dL_law_347 ?_
  exact j_goto X dL_law_348 (tgt := 739) (by decide) (kk _ _ (s3 _ _ _ _ q1 q2).1)
theorem lc_7 (X : lw_X p s m meth c b L xs D cI cZ KC KS) (hi : i + 5 ≤ L) (R : lw_rel σ μ) (kk : ∀ σ' μ', lw_rel σ' μ' → lw_J p l e s m below meth c b adX adM D cI cZ KC KS 739 i [] σ' μ') : lw_J p l e s m below meth c b adX adM D cI cZ KC KS 351 i [] σ μ := by
  obtain ⟨Ψx, Ψm, hX, hM, s1, s2, s3⟩ := pr_longest  R
  refine j_ax X dL_law_351 ?_
  refine j_cx (ns := []) X mX6_longest gL_44 (by decide) dL_law_352 rfl rfl (by decide) (by decide) hX rfl (fun r τ q => by obtain ⟨v, rfl⟩ := s1 r τ q; rfl) (fun r1 σ1 q1 => ?_)
  obtain ⟨v1, e1⟩ := s1 r1 σ1 q1
  subst e1
  refine j_pop X dL_law_355 ?_
  refine j_am X dL_law_356 ?_
  refine j_cm (ns := []) X mX7_longest gL_48 (by decide) dL_law_357 rfl rfl (by decide) (by simp [Value.category]) hM rfl (fun r τ q => by obtain ⟨v, rfl⟩ := s2 r τ q; rfl) (fun r2 μ1 q2 => ?_)
  obtain ⟨v2, e2⟩ := s2 r2 μ1 q2
  subst e2
  refine j_pop X dL_law_360 ?_
  exact j_goto X dL_law_361 (tgt := 739) (by decide) (kk _ _ (s3 _ _ _ _ q1 q2).1)
theorem lc_8 (X : lw_X p s m meth c b L xs D cI cZ KC KS) (hi : i + 5 ≤ L) (R : lw_rel σ μ) (kk : ∀ σ' μ', lw_rel σ' μ' → lw_J p l e s m below meth c b adX adM D cI cZ KC KS 739 i [] σ' μ') : lw_J p l e s m below meth c b adX adM D cI cZ KC KS 364 i [] σ μ := by
  obtain ⟨Ψx, Ψm, hX, hM, s1, s2, s3⟩ := pr_event (x := xs (i + 1)) (y := xs (i + 2)) R
  refine j_ax X dL_law_364 ?_
  refine j_sc (k := 1) X dL_law_365 dL_law_366 dL_law_367 (by decide) dL_law_368 dL_law_369 (by omega) ?_
  refine j_sc (k := 2) X dL_law_370 dL_law_371 dL_law_372 (by decide) dL_law_373 dL_law_374 (by omega) ?_
  refine j_cx (ns := [xs (i + 1), xs (i + 2)]) X mX6_event gL_49 (by decide) dL_law_375 rfl rfl (by decide) (by decide) hX rfl (fun r τ q => by obtain ⟨v, rfl⟩ := s1 r τ q; rfl) (fun r1 σ1 q1 => ?_)
  obtain ⟨v1, e1⟩ := s1 r1 σ1 q1
  subst e1
  refine j_pop X dL_law_378 ?_
  refine j_am X dL_law_379 ?_
  refine j_sc (k := 1) X dL_law_380 dL_law_381 dL_law_382 (by decide) dL_law_383 dL_law_384 (by omega) ?_
  refine j_sc (k := 2) X dL_law_385 dL_law_386 dL_law_387 (by decide) dL_law_388 dL_law_389 (by omega) ?_
  refine j_cm (ns := [xs (i + 1), xs (i + 2)]) X mX7_event gL_52 (by decide) dL_law_390 rfl rfl (by decide) (by simp [Value.category]) hM rfl (fun r τ q => by obtain ⟨v, rfl⟩ := s2 r τ q; rfl) (fun r2 μ1 q2 => ?_)
  obtain ⟨v2, e2⟩ := s2 r2 μ1 q2
  subst e2
  refine j_pop X dL_law_393 ?_
  exact j_goto X dL_law_394 (tgt := 739) (by decide) (kk _ _ (s3 _ _ _ _ q1 q2).1)
theorem lc_9 (X : lw_X p s m meth c b L xs D cI cZ KC KS) (hi : i + 5 ≤ L) (R : lw_rel σ μ) (kk : ∀ σ' μ', lw_rel σ' μ' → lw_J p l e s m below meth c b adX adM D cI cZ KC KS 739 i [] σ' μ') : lw_J p l e s m below meth c b adX adM D cI cZ KC KS 397 i [] σ μ := by
  obtain ⟨Ψx, Ψm, hX, hM, s1, s2, s3⟩ := pr_again (x := xs (i + 1)) (y := xs (i + 2)) (z := xs (i + 3)) (w := xs (i + 4)) R
  refine j_ax X dL_law_397 ?_
  refine j_sc (k := 1) X dL_law_398 dL_law_399 dL_law_400 (by decide) dL_law_401 dL_law_402 (by omega) ?_
  refine j_sc (k := 2) X dL_law_403 dL_law_404 dL_law_405 (by decide) dL_law_406 dL_law_407 (by omega) ?_
  refine j_sc (k := 3) X dL_law_408 dL_law_409 dL_law_410 (by decide) dL_law_411 dL_law_412 (by omega) ?_
  refine j_sc (k := 4) X dL_law_413 dL_law_414 dL_law_415 (by decide) dL_law_416 dL_law_417 (by omega) ?_
  refine j_cx (ns := [xs (i + 1), xs (i + 2), xs (i + 3), xs (i + 4)]) X mX6_again gL_53 (by decide) dL_law_418 rfl rfl (by decide) (by decide) hX rfl (fun r τ q => by obtain ⟨v, rfl⟩ := s1 r τ q; rfl) (fun r1 σ1 q1 => ?_)
  obtain ⟨v1, e1⟩ := s1 r1 σ1 q1
  subst e1
  refine j_pop X dL_law_421 ?_
  refine j_am X dL_law_422 ?_
  refine j_sc (k := 1) X dL_law_423 dL_law_424 dL_law_425 (by decide) dL_law_426 dL_law_427 (by omega) ?_
  refine j_sc (k := 2) X dL_law_428 dL_law_429 dL_law_430 (by decide) dL_law_431 dL_law_432 (by omega) ?_
  refine j_sc (k := 3) X dL_law_433 dL_law_434 dL_law_435 (by decide) dL_law_436 dL_law_437 (by omega) ?_
  refine j_sc (k := 4) X dL_law_438 dL_law_439 dL_law_440 (by decide) dL_law_441 dL_law_442 (by omega) ?_
  refine j_cm (ns := [xs (i + 1), xs (i + 2), xs (i + 3), xs (i + 4)]) X mX7_again gL_57 (by decide) dL_law_443 rfl rfl (by decide) (by simp [Value.category]) hM rfl (fun r τ q => by obtain ⟨v, rfl⟩ := s2 r τ q; rfl) (fun r2 μ1 q2 => ?_)
  obtain ⟨v2, e2⟩ := s2 r2 μ1 q2
  subst e2
  refine j_pop X dL_law_446 ?_
  exact j_goto X dL_law_447 (tgt := 739) (by decide) (kk _ _ (s3 _ _ _ _ q1 q2).1)
theorem lc_10 (X : lw_X p s m meth c b L xs D cI cZ KC KS) (hi : i + 5 ≤ L) (R : lw_rel σ μ) (kk : ∀ σ' μ', lw_rel σ' μ' → lw_J p l e s m below meth c b adX adM D cI cZ KC KS 739 i [] σ' μ') : lw_J p l e s m below meth c b adX adM D cI cZ KC KS 450 i [] σ μ := by
  obtain ⟨Ψx, Ψm, hX, hM, s1, s2, s3⟩ := pr_mark (x := xs (i + 1)) (y := xs (i + 2)) R
  refine j_ax X dL_law_450 ?_
  refine j_sc (k := 1) X dL_law_451 dL_law_452 dL_law_453 (by decide) dL_law_454 dL_law_455 (by omega) ?_
  refine j_sc (k := 2) X dL_law_456 dL_law_457 dL_law_458 (by decide) dL_law_459 dL_law_460 (by omega) ?_
  refine j_cx (ns := [xs (i + 1), xs (i + 2)]) X mX6_mark gL_58 (by decide) dL_law_461 rfl rfl (by decide) (by decide) hX rfl (fun r τ q => by obtain ⟨v, rfl⟩ := s1 r τ q; rfl) (fun r1 σ1 q1 => ?_)
  obtain ⟨v1, e1⟩ := s1 r1 σ1 q1
  subst e1
  refine j_pop X dL_law_464 ?_
  refine j_am X dL_law_465 ?_
  refine j_sc (k := 1) X dL_law_466 dL_law_467 dL_law_468 (by decide) dL_law_469 dL_law_470 (by omega) ?_
  refine j_sc (k := 2) X dL_law_471 dL_law_472 dL_law_473 (by decide) dL_law_474 dL_law_475 (by omega) ?_
  refine j_cm (ns := [xs (i + 1), xs (i + 2)]) X mX7_mark gL_61 (by decide) dL_law_476 rfl rfl (by decide) (by simp [Value.category]) hM rfl (fun r τ q => by obtain ⟨v, rfl⟩ := s2 r τ q; rfl) (fun r2 μ1 q2 => ?_)
  obtain ⟨v2, e2⟩ := s2 r2 μ1 q2
  subst e2
  refine j_pop X dL_law_479 ?_
  exact j_goto X dL_law_480 (tgt := 739) (by decide) (kk _ _ (s3 _ _ _ _ q1 q2).1)
theorem lc_11 (X : lw_X p s m meth c b L xs D cI cZ KC KS) (hi : i + 5 ≤ L) (R : lw_rel σ μ) (kk : ∀ σ' μ', lw_rel σ' μ' → lw_J p l e s m below meth c b adX adM D cI cZ KC KS 739 i [] σ' μ') : lw_J p l e s m below meth c b adX adM D cI cZ KC KS 483 i [] σ μ := by
  obtain ⟨Ψx, Ψm, hX, hM, s1, s2, s3⟩ := pr_marks (x := xs (i + 1)) R
  refine j_ax X dL_law_483 ?_
  refine j_sc (k := 1) X dL_law_484 dL_law_485 dL_law_486 (by decide) dL_law_487 dL_law_488 (by omega) ?_
  refine j_cx (ns := [xs (i + 1)]) X mX6_marks gL_62 (by decide) dL_law_489 rfl rfl (by decide) (by decide) hX rfl (fun r τ q => by obtain ⟨v, rfl⟩ := s1 r τ q; rfl) (fun r1 σ1 q1 => ?_)
  obtain ⟨v1, e1⟩ := s1 r1 σ1 q1
  subst e1
  refine j_pop X dL_law_492 ?_
  refine j_am X dL_law_493 ?_
  refine j_sc (k := 1) X dL_law_494 dL_law_495 dL_law_496 (by decide) dL_law_497 dL_law_498 (by omega) ?_
  refine j_cm (ns := [xs (i + 1)]) X mX7_marks gL_65 (by decide) dL_law_499 rfl rfl (by decide) (by simp [Value.category]) hM rfl (fun r τ q => by obtain ⟨v, rfl⟩ := s2 r τ q; rfl) (fun r2 μ1 q2 => ?_)
  obtain ⟨v2, e2⟩ := s2 r2 μ1 q2
  subst e2
  refine j_pop X dL_law_502 ?_
  exact j_goto X dL_law_503 (tgt := 739) (by decide) (kk _ _ (s3 _ _ _ _ q1 q2).1)
theorem lc_12 (X : lw_X p s m meth c b L xs D cI cZ KC KS) (hi : i + 5 ≤ L) (R : lw_rel σ μ) (kk : ∀ σ' μ', lw_rel σ' μ' → lw_J p l e s m below meth c b adX adM D cI cZ KC KS 739 i [] σ' μ') : lw_J p l e s m below meth c b adX adM D cI cZ KC KS 506 i [] σ μ := by
  obtain ⟨Ψx, Ψm, hX, hM, s1, s2, s3⟩ := pr_way (x := xs (i + 1)) (y := xs (i + 2)) (lw_t2 (xs (i + 3))) R
  refine j_ax X dL_law_506 ?_
  refine j_sc (k := 1) X dL_law_507 dL_law_508 dL_law_509 (by decide) dL_law_510 dL_law_511 (by omega) ?_
  refine j_sc (k := 2) X dL_law_512 dL_law_513 dL_law_514 (by decide) dL_law_515 dL_law_516 (by omega) ?_
  refine j_sc (k := 3) X dL_law_517 dL_law_518 dL_law_519 (by decide) dL_law_520 dL_law_521 (by omega) ?_
  refine j_bool X dL_law_522 dL_law_525 dL_law_526 dL_law_529 ?_
  refine j_cx (ns := [xs (i + 1), xs (i + 2), nI (lw_t (xs (i + 3)))]) X mX6_way gL_66 (by decide) dL_law_530 rfl rfl (by decide) (by decide) hX rfl (fun r τ q => by obtain ⟨v, rfl⟩ := s1 r τ q; rfl) (fun r1 σ1 q1 => ?_)
  obtain ⟨v1, e1⟩ := s1 r1 σ1 q1
  subst e1
  refine j_pop X dL_law_533 ?_
  refine j_am X dL_law_534 ?_
  refine j_sc (k := 1) X dL_law_535 dL_law_536 dL_law_537 (by decide) dL_law_538 dL_law_539 (by omega) ?_
  refine j_sc (k := 2) X dL_law_540 dL_law_541 dL_law_542 (by decide) dL_law_543 dL_law_544 (by omega) ?_
  refine j_sc (k := 3) X dL_law_545 dL_law_546 dL_law_547 (by decide) dL_law_548 dL_law_549 (by omega) ?_
  refine j_bool X dL_law_550 dL_law_553 dL_law_554 dL_law_557 ?_
  refine j_cm (ns := [xs (i + 1), xs (i + 2), nI (lw_t (xs (i + 3)))]) X mX7_way gL_70 (by decide) dL_law_558 rfl rfl (by decide) (by simp [Value.category]) hM rfl (fun r τ q => by obtain ⟨v, rfl⟩ := s2 r τ q; rfl) (fun r2 μ1 q2 => ?_)
  obtain ⟨v2, e2⟩ := s2 r2 μ1 q2
  subst e2
  refine j_pop X dL_law_561 ?_
  exact j_goto X dL_law_562 (tgt := 739) (by decide) (kk _ _ (s3 _ _ _ _ q1 q2).1)
theorem lc_13 (X : lw_X p s m meth c b L xs D cI cZ KC KS) (hi : i + 5 ≤ L) (R : lw_rel σ μ) (kk : ∀ σ' μ', lw_rel σ' μ' → lw_J p l e s m below meth c b adX adM D cI cZ KC KS 739 i [] σ' μ') : lw_J p l e s m below meth c b adX adM D cI cZ KC KS 565 i [] σ μ := by
  obtain ⟨Ψx, Ψm, hX, hM, s1, s2, s3⟩ := pr_bind (x := xs (i + 1)) (y := xs (i + 2)) (z := xs (i + 3)) R
  refine j_ax X dL_law_565 ?_
  refine j_sc (k := 1) X dL_law_566 dL_law_567 dL_law_568 (by decide) dL_law_569 dL_law_570 (by omega) ?_
  refine j_sc (k := 2) X dL_law_571 dL_law_572 dL_law_573 (by decide) dL_law_574 dL_law_575 (by omega) ?_
  refine j_sc (k := 3) X dL_law_576 dL_law_577 dL_law_578 (by decide) dL_law_579 dL_law_580 (by omega) ?_
  refine j_cx (ns := [xs (i + 1), xs (i + 2), xs (i + 3)]) X mX6_bind gL_71 (by decide) dL_law_581 rfl rfl (by decide) (by decide) hX rfl (fun r τ q => by obtain ⟨v, rfl⟩ := s1 r τ q; rfl) (fun r1 σ1 q1 => ?_)
  obtain ⟨v1, e1⟩ := s1 r1 σ1 q1
  subst e1
  refine j_pop X dL_law_584 ?_
  refine j_am X dL_law_585 ?_
  refine j_sc (k := 1) X dL_law_586 dL_law_587 dL_law_588 (by decide) dL_law_589 dL_law_590 (by omega) ?_
  refine j_sc (k := 2) X dL_law_591 dL_law_592 dL_law_593 (by decide) dL_law_594 dL_law_595 (by omega) ?_
  refine j_sc (k := 3) X dL_law_596 dL_law_597 dL_law_598 (by decide) dL_law_599 dL_law_600 (by omega) ?_
  refine j_cm (ns := [xs (i + 1), xs (i + 2), xs (i + 3)]) X mX7_bind gL_75 (by decide) dL_law_601 rfl rfl (by decide) (by simp [Value.category]) hM rfl (fun r τ q => by obtain ⟨v, rfl⟩ := s2 r τ q; rfl) (fun r2 μ1 q2 => ?_)
  obtain ⟨v2, e2⟩ := s2 r2 μ1 q2
  subst e2
  refine j_pop X dL_law_604 ?_
  exact j_goto X dL_law_605 (tgt := 739) (by decide) (kk _ _ (s3 _ _ _ _ q1 q2).1)
theorem lc_14 (X : lw_X p s m meth c b L xs D cI cZ KC KS) (hi : i + 5 ≤ L) (R : lw_rel σ μ) (kk : ∀ σ' μ', lw_rel σ' μ' → lw_J p l e s m below meth c b adX adM D cI cZ KC KS 739 i [] σ' μ') : lw_J p l e s m below meth c b adX adM D cI cZ KC KS 608 i [] σ μ := by
  obtain ⟨Ψx, Ψm, hX, hM, s1, s2, s3⟩ := pr_flood  (lw_t2 (xs (i + 1))) R
  refine j_ax X dL_law_608 ?_
  refine j_sc (k := 1) X dL_law_609 dL_law_610 dL_law_611 (by decide) dL_law_612 dL_law_613 (by omega) ?_
  refine j_bool X dL_law_614 dL_law_617 dL_law_618 dL_law_621 ?_
  refine j_cx (ns := [nI (lw_t (xs (i + 1)))]) X mX6_flood gL_76 (by decide) dL_law_622 rfl rfl (by decide) (by decide) hX rfl (fun r τ q => by obtain ⟨v, rfl⟩ := s1 r τ q; rfl) (fun r1 σ1 q1 => ?_)
  obtain ⟨v1, e1⟩ := s1 r1 σ1 q1
  subst e1
  refine j_pop X dL_law_625 ?_
  refine j_am X dL_law_626 ?_
  refine j_sc (k := 1) X dL_law_627 dL_law_628 dL_law_629 (by decide) dL_law_630 dL_law_631 (by omega) ?_
  refine j_bool X dL_law_632 dL_law_635 dL_law_636 dL_law_639 ?_
  refine j_cm (ns := [nI (lw_t (xs (i + 1)))]) X mX7_flood gL_80 (by decide) dL_law_640 rfl rfl (by decide) (by simp [Value.category]) hM rfl (fun r τ q => by obtain ⟨v, rfl⟩ := s2 r τ q; rfl) (fun r2 μ1 q2 => ?_)
  obtain ⟨v2, e2⟩ := s2 r2 μ1 q2
  subst e2
  refine j_pop X dL_law_643 ?_
  exact j_goto X dL_law_644 (tgt := 739) (by decide) (kk _ _ (s3 _ _ _ _ q1 q2).1)
theorem lc_15 (X : lw_X p s m meth c b L xs D cI cZ KC KS) (hi : i + 5 ≤ L) (R : lw_rel σ μ) (kk : ∀ σ' μ', lw_rel σ' μ' → lw_J p l e s m below meth c b adX adM D cI cZ KC KS 739 i [] σ' μ') : lw_J p l e s m below meth c b adX adM D cI cZ KC KS 647 i [] σ μ := by
  obtain ⟨Ψx, Ψm, hX, hM, s1, s2, s3⟩ := pr_own (x := xs (i + 1)) (y := xs (i + 2)) R
  refine j_ax X dL_law_647 ?_
  refine j_sc (k := 1) X dL_law_648 dL_law_649 dL_law_650 (by decide) dL_law_651 dL_law_652 (by omega) ?_
  refine j_sc (k := 2) X dL_law_653 dL_law_654 dL_law_655 (by decide) dL_law_656 dL_law_657 (by omega) ?_
  refine j_cx (ns := [xs (i + 1), xs (i + 2)]) X mX6_own gL_81 (by decide) dL_law_658 rfl rfl (by decide) (by decide) hX rfl (fun r τ q => by obtain ⟨v, rfl⟩ := s1 r τ q; rfl) (fun r1 σ1 q1 => ?_)
  obtain ⟨v1, e1⟩ := s1 r1 σ1 q1
  subst e1
  refine j_pop X dL_law_661 ?_
  refine j_am X dL_law_662 ?_
  refine j_sc (k := 1) X dL_law_663 dL_law_664 dL_law_665 (by decide) dL_law_666 dL_law_667 (by omega) ?_
  refine j_sc (k := 2) X dL_law_668 dL_law_669 dL_law_670 (by decide) dL_law_671 dL_law_672 (by omega) ?_
  refine j_cm (ns := [xs (i + 1), xs (i + 2)]) X mX7_own gL_84 (by decide) dL_law_673 rfl rfl (by decide) (by simp [Value.category]) hM rfl (fun r τ q => by obtain ⟨v, rfl⟩ := s2 r τ q; rfl) (fun r2 μ1 q2 => ?_)
  obtain ⟨v2, e2⟩ := s2 r2 μ1 q2
  subst e2
  refine j_pop X dL_law_676 ?_
  exact j_goto X dL_law_677 (tgt := 739) (by decide) (kk _ _ (s3 _ _ _ _ q1 q2).1)
theorem lc_16 (X : lw_X p s m meth c b L xs D cI cZ KC KS) (hi : i + 5 ≤ L) (R : lw_rel σ μ) (kk : ∀ σ' μ', lw_rel σ' μ' → lw_J p l e s m below meth c b adX adM D cI cZ KC KS 739 i [] σ' μ') : lw_J p l e s m below meth c b adX adM D cI cZ KC KS 680 i [] σ μ := by
  obtain ⟨Ψx, Ψm, hX, hM, s1, s2, s3⟩ := pr_echoes (x := xs (i + 1)) R
  refine j_ax X dL_law_680 ?_
  refine j_sc (k := 1) X dL_law_681 dL_law_682 dL_law_683 (by decide) dL_law_684 dL_law_685 (by omega) ?_
  refine j_cx (ns := [xs (i + 1)]) X mX6_echoes gL_85 (by decide) dL_law_686 rfl rfl (by decide) (by decide) hX rfl (fun r τ q => by obtain ⟨v, rfl⟩ := s1 r τ q; rfl) (fun r1 σ1 q1 => ?_)
  obtain ⟨v1, e1⟩ := s1 r1 σ1 q1
  subst e1
  refine j_pop X dL_law_689 ?_
  refine j_am X dL_law_690 ?_
  refine j_sc (k := 1) X dL_law_691 dL_law_692 dL_law_693 (by decide) dL_law_694 dL_law_695 (by omega) ?_
  refine j_cm (ns := [xs (i + 1)]) X mX7_echoes gL_88 (by decide) dL_law_696 rfl rfl (by decide) (by simp [Value.category]) hM rfl (fun r τ q => by obtain ⟨v, rfl⟩ := s2 r τ q; rfl) (fun r2 μ1 q2 => ?_)
  obtain ⟨v2, e2⟩ := s2 r2 μ1 q2
  subst e2
  refine j_pop X dL_law_699 ?_
  exact j_goto X dL_law_700 (tgt := 739) (by decide) (kk _ _ (s3 _ _ _ _ q1 q2).1)
theorem lc_17 (X : lw_X p s m meth c b L xs D cI cZ KC KS) (hi : i + 5 ≤ L) (R : lw_rel σ μ) (kk : ∀ σ' μ', lw_rel σ' μ' → lw_J p l e s m below meth c b adX adM D cI cZ KC KS 739 i [] σ' μ') : lw_J p l e s m below meth c b adX adM D cI cZ KC KS 703 i [] σ μ := by
  obtain ⟨Ψx, Ψm, hX, hM, s1, s2, s3⟩ := pr_count (x := xs (i + 1)) R
  refine j_ax X dL_law_703 ?_
  refine j_sc (k := 1) X dL_law_704 dL_law_705 dL_law_706 (by decide) dL_law_707 dL_law_708 (by omega) ?_
  refine j_cx (ns := [xs (i + 1)]) X mX6_count gL_89 (by decide) dL_law_709 rfl rfl (by decide) (by decide) hX rfl (fun r τ q => by obtain ⟨v, rfl⟩ := s1 r τ q; rfl) (fun r1 σ1 q1 => ?_)
  obtain ⟨v1, e1⟩ := s1 r1 σ1 q1
  subst e1
  refine j_pop X dL_law_712 ?_
  refine j_am X dL_law_713 ?_
  refine j_sc (k := 1) X dL_law_714 dL_law_715 dL_law_716 (by decide) dL_law_717 dL_law_718 (by omega) ?_
  refine j_cm (ns := [xs (i + 1)]) X mX7_count gL_92 (by decide) dL_law_719 rfl rfl (by decide) (by simp [Value.category]) hM rfl (fun r τ q => by obtain ⟨v, rfl⟩ := s2 r τ q; rfl) (fun r2 μ1 q2 => ?_)
  obtain ⟨v2, e2⟩ := s2 r2 μ1 q2
  subst e2
  refine j_pop X dL_law_722 ?_
  exact j_goto X dL_law_723 (tgt := 739) (by decide) (kk _ _ (s3 _ _ _ _ q1 q2).1)
theorem lc_18 (X : lw_X p s m meth c b L xs D cI cZ KC KS) (hi : i + 5 ≤ L) (R : lw_rel σ μ) (kk : ∀ σ' μ', lw_rel σ' μ' → lw_J p l e s m below meth c b adX adM D cI cZ KC KS 739 i [] σ' μ') : lw_J p l e s m below meth c b adX adM D cI cZ KC KS 726 i [] σ μ := by
  obtain ⟨Ψx, Ψm, hX, hM, s1, s2, s3⟩ := pr_digest  R
  refine j_ax X dL_law_726 ?_
  refine j_cx (ns := []) X mX6_digest gL_93 (by decide) dL_law_727 rfl rfl (by decide) (by decide) hX rfl (fun r τ q => by obtain ⟨v, rfl⟩ := s1 r τ q; rfl) (fun r1 σ1 q1 => ?_)
  obtain ⟨v1, e1⟩ := s1 r1 σ1 q1
  subst e1
  refine j_pop2 X dL_law_730 ?_
  refine j_am X dL_law_731 ?_
  refine j_cm (ns := []) X mX7_digest gL_97 (by decide) dL_law_732 rfl rfl (by decide) (by simp [Value.category]) hM rfl (fun r τ q => by obtain ⟨v, rfl⟩ := s2 r τ q; rfl) (fun r2 μ1 q2 => ?_)
  obtain ⟨v2, e2⟩ := s2 r2 μ1 q2
  subst e2
  refine j_pop2 X dL_law_735 ?_
  exact j_goto X dL_law_736 (tgt := 739) (by decide) (kk _ _ (s3 _ _ _ _ q1 q2).1)
end LWC
