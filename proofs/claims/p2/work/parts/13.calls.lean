/-! a body's judgement gives the method's contract; calls -/
def z_c1 (vs : List Value) : Bool := vs.all (fun v => v.category == 1)
theorem z_args_mem : ∀ (vs : List Value) (i k : Nat) (v : Value), z_c1 vs = true → vs[k]? = some v → (i + k, v) ∈ lv_args i vs
  | [], _, _, _, _, h => by simp at h
  | w :: vs, i, 0, v, _, h => by
    simp at h
    subst h
    exact List.mem_cons_self
  | w :: vs, i, k + 1, v, hc, h => by
    simp only [z_c1, List.all_cons, Bool.and_eq_true, beq_iff_eq] at hc
    have h1 := z_args_mem vs (i + 1) k v (by simp only [z_c1]; exact hc.2) (by simpa using h)
    rw [lv_args]
    have h2 : ¬ w.category = 2 := by rw [hc.1]; decide
    rw [if_neg h2]
    refine List.mem_cons_of_mem _ ?_
    rw [show i + (k + 1) = i + 1 + k by omega]
    exact h1
theorem z_sl_len : ∀ (vs : List Value), z_c1 vs = true → (lg_sl vs).length = vs.length
  | [], _ => rfl
  | w :: vs, hc => by
    simp only [z_c1, List.all_cons, Bool.and_eq_true, beq_iff_eq] at hc
    have h1 := z_sl_len vs (by simp only [z_c1]; exact hc.2)
    have h2 : ¬ w.category = 2 := by rw [hc.1]; decide
    simp only [lg_sl, List.flatMap_cons, if_neg h2] at h1 ⊢
    simp [h1]
theorem z_c1_map (ad : Nat → Nat) {vs : List Value} (h : z_c1 vs = true) : z_c1 (vs.map (z_v ad)) = true := by
  simp only [z_c1, List.all_map, List.all_eq_true, Function.comp] at h ⊢
  intro v hv
  rw [z_cat]
  exact h v hv
theorem z_met {lay : z_Lay} {mi : z_MI} {σ : z_Sto} {Φ : z_Post} {l : Launch} {ad : Nat → Nat} {cI cZ : ClassId} {D : va_G} {sz : Nat} {vs : List Value} (hy : plainName mi.1.cls = true) (hc : z_c1 vs = true) (hn : vs.length ≤ mi.2.2.1) (h : z_R lay mi 0 (vs.map some ++ List.replicate (mi.2.2.1 - vs.length) none) [] σ Φ) :
    Met l mi.1 (z_ws mi) (z_rm mi.2.2.2.2) (va_Pc (vs.map (z_v ad)) (fun U => U.heap.size = sz ∧ va_P D vwCl (z_wd lay ad cI cZ σ) U.heap ∧ va_K D vwCl (z_tys cI cZ) U ∧ va_D (fun _ => True) (z_wd lay ad cI cZ σ) ∧ z_T (va_A (z_wd lay ad cI cZ σ) sz) U)) (z_Q lay ad cI cZ D (va_A (z_wd lay ad cI cZ σ) sz) Φ) 0 0 (va_A (z_wd lay ad cI cZ σ) sz) := by
  refine Met.ofW (cc := mi.2.1) (maxL := mi.2.2.1) (ret := mi.2.2.2.1) hy rfl ?_
  intro p e s m args below meth c s₁ B hml hv
  obtain ⟨rfl, hsz, hP, hK, hD0, hT⟩ := hv
  have hts := atoms_spec (ws := z_ws mi) B.pre
  have hown : s.vm.findClass mi.1.cls = some m.cls := findClass_of_methodNamed B.named
  subst hsz
  have hD := hD0.self (sz := s.heap.size)
  have hl := lv_entry (vs.map (z_v ad)) (n := mi.2.2.1) (by rw [z_sl_len _ (z_c1_map ad hc), List.length_map]; exact hn)
  rw [lg_entry_eq]
  refine h l ad cI cZ D p e s m _ below meth c _ s.heap [] _ ⟨B.exec, B.bytes, hml, B.returns, hown, hts, B.notSynchronized, fun q hq => Or.inr hq, hT⟩ hK hP hD va_S.rf ⟨hl.1, hl.2.1, fun i v hi => ?_⟩
  by_cases hlt : i < vs.length
  · rw [List.getElem?_append_left (by simpa using hlt), List.getElem?_map] at hi
    cases hv : vs[i]? with
    | none => rw [hv] at hi; cases hi
    | some w =>
      rw [hv] at hi
      cases hi
      have := z_args_mem (vs.map (z_v ad)) 0 i (z_v ad v) (z_c1_map ad hc) (by rw [List.getElem?_map, hv]; rfl)
      rw [Nat.zero_add] at this
      exact hl.2.2 _ this
  · rw [List.getElem?_append_right (by simpa using Nat.not_lt.mp hlt), List.getElem?_replicate] at hi
    split at hi <;> cases hi
theorem z_callx {p : Program} {l : Launch} {e : Env} {R : Room} {s : State} {m : MethodId} {args : Array Value} {below : List Frame} {meth : Method} {c : Code} {H : Heap} {locs : List Loc} {Q : State → Prop} {pc : Nat} {ls : Array Slot} {rest st0 : List Value} {a : Array Value} {A0 A1 : Nat → Prop} {H0 : Heap} {lay : z_Lay} {ad : Nat → Nat} {cI cZ : ClassId} {D : va_G} {Ψ : z_Post}
    (hr : va_Run p l e R s m args below meth c H locs 0 0 0 0 (F0 m pc ls st0) rest (z_Q lay ad cI cZ D A1 Ψ a) A1) (hS : va_S A0 H0 H locs) (hA : ∀ q, A1 q → A0 q)
    (kk : ∀ (r : Option Value) (σ : z_Sto) (t : State) (H1 : Heap) (locs1 : List Loc), t.heap = H1 → s.vm.Alike t.vm → Ψ r σ → va_P D vwCl (z_wd lay ad cI cZ σ) H1 → va_D A1 (z_wd lay ad cI cZ σ) → va_S A0 H0 H1 locs1 → W p l e R s m args below meth c H1 locs1 0 0 Q (F0 m (pc + 3) ls ((r.map (z_v ad)).toList ++ rest))) : W p l e R s m args below meth c H locs 0 0 Q (F0 m pc ls st0) := by
  intro T hT X
  obtain ⟨v, st₀, t, T', L, h0, X', hL, e1, e2, ⟨⟨r, σ, hv, hp, hP, hK, hD⟩, hz, hk⟩, st⟩ := hr T hT X
  cases hv
  rw [h0] at hz hk
  obtain ⟨t2, a1, b1⟩ := kk r σ t T'.heap (locs ++ L) e1.symm (by rw [← e2]; exact X'.warmed.alike) hp (by rw [e1]; exact hP) hD
    ⟨Nat.le_trans hS.1 (by rw [e1]; exact hz), fun q h1 h2 => by rw [e1, hk q (Nat.lt_of_lt_of_le h1 hS.1) (fun z => h2 (hA q z))]; exact hS.2.1 q h1 h2, fun q hq => by
      rcases List.mem_append.mp hq with h | h
      · exact hS.2.2 q h
      · exact hA _ (hL q h)⟩ T' rfl X'
  exact ⟨t2, st t2 a1, b1⟩
theorem z_good {w : Cond} (h : w ∈ z_tbl) : ((w.onTables && w.keeps) = true ∨ ∃ ty, w = .arrayClass ty) := good_of_word (List.mem_filter.mp h).2
theorem z_goodIn {mi : z_MI} {ws : List Cond} (h : ∀ w ∈ ws, w ∈ z_tbl) : GoodIn (z_ws mi) ws := fun w hw => ⟨List.mem_cons_of_mem _ (h w hw), z_good (h w hw)⟩
def z_MB (mj : z_MI) (n : Nat) : Prop := plainName mj.1.cls = true ∧ Cond.initialized mj.1.cls ∈ z_tbl ∧ Cond.code mj.1 mj.2.1 mj.2.2.1 mj.2.2.2.1 ∈ z_tbl ∧ mj.1.cls ≠ "java/lang/invoke/MethodHandle" ∧ mj.1.cls ≠ "java/lang/invoke/VarHandle" ∧ (parseMethodDescriptor mj.1.desc).map (fun d => d.parameters.length) = some n ∧ mj.2.2.1 ≤ 13
def z_MV (mj : z_MI) (n : Nat) : Prop := z_MB mj n ∧ Cond.instanceMethod mj.1 ∈ z_tbl ∧ Cond.selects mj.1.cls mj.1 mj.1 ∈ z_tbl
def z_MS (mj : z_MI) (n : Nat) : Prop := z_MB mj n ∧ Cond.static mj.1 ∈ z_tbl
theorem z_ws_in {mj : z_MI} {n : Nat} (h : z_MB mj n) : ∀ w ∈ z_ws mj, w ∈ z_tbl := by
  intro w hw
  rcases List.mem_cons.mp hw with rfl | hw
  · exact h.2.2.1
  · exact hw
section ZCALL
variable {lay : z_Lay} {mi mj : z_MI} {pc : Nat} {L L' : z_Loc} {st st0 : List Value} {σ : z_Sto} {Φ Ψ : z_Post} {index n : Nat} {As : List Value}
theorem z_callV {b ci : Nat} {fs : List (Option Nat)} {T : u_T} {N : Nat} (hM : z_MV mj n) (hlk : Cond.methodLink mi.1.cls index mj.1 ∈ z_tbl) (hdp : mj.2.2.2.2 < mi.2.2.2.2)
    (hd : decode mi.2.1 pc = .ok (.invokevirtual index, 3)) (hb : b < lay.1) (hl : lay.2 b = .inr (ci, fs)) (hcl : vwCl[ci]? = some (mj.1.cls, T, N))
    (hs : st0 = As.reverse ++ .ref b :: st) (hc1 : z_c1 As = true) (hn : As.length = n) (hnn : n + 1 ≤ mj.2.2.1) (hst : (st.map (fun v => v.category)).sum ≤ 8)
    (hcal : z_R lay mj 0 L' [] σ Ψ) (hL' : L' = (.ref b :: As).map some ++ List.replicate (mj.2.2.1 - (n + 1)) none)
    (kk : ∀ r σ', Ψ r σ' → z_R lay mi (pc + 3) L (r.toList ++ st) σ' Φ) : z_R lay mi pc L st0 σ Φ := by
  intro l ad cI cZ D p e s m args below meth c A H locs ls hC hK hP hD hS hL
  subst hs
  subst hn
  subst hL'
  obtain ⟨hx, hbc, hml, hr, hown, hts, hlk', hA, hT⟩ := id hC
  have hG : GoodIn (z_ws mi) (wsV mi.1.cls index mj.1.cls mj.1 (z_ws mj)) := z_goodIn (fun w hw => by
    simp only [wsV, List.cons_append, List.nil_append, List.mem_cons] at hw
    rcases hw with rfl | rfl | rfl | rfl | hw
    · exact hlk
    · exact hM.2.1
    · exact hM.2.2
    · exact hM.1.2.1
    · exact z_ws_in hM.1 w hw)
  have hw := z_wd_at (ad := ad) (cI := cI) (cZ := cZ) (σ := σ) hb
  rw [hl] at hw
  have hF : ∀ q, va_A (z_wd lay ad cI cZ σ) H.size q → A q := fun q h => by
    rcases h with ⟨k, e, h⟩ | h
    · exact hD.2 k (q, e) h
    · exact hA q (Nat.le_trans hS.1 h)
  have hMet := z_met (l := l) (ad := ad) (cI := cI) (cZ := cZ) (D := D) (sz := H.size) (vs := .ref b :: As) hM.1.1 (by simp only [z_c1, List.all_cons] at hc1 ⊢; rw [hc1]; rfl) hnn hcal
  have hcat : ((st.map (z_v ad)).map (fun v => v.category)).sum ≤ 8 := by
    rw [List.map_map]
    have : ((fun v : Value => v.category) ∘ z_v ad) = (fun v : Value => v.category) := funext fun v => z_cat ad v
    rw [this]; exact hst
  refine z_callx (va_runV (As := As.map (z_v ad)) (rest := st.map (z_v ad)) (b := ad b) ⟨hx, hbc, hml, hown, hts⟩ hMet (cwV As.length hts hG rfl rfl rfl ⟨rfl, hM.1.2.2.2.1, hM.1.2.2.2.2.1, hM.1.2.2.2.2.2.1⟩ ⟨hdp, ?_⟩) ⟨fun a U g mk q => by obtain ⟨q0, q1, qP, qK, qD, qT⟩ := q; exact ⟨q0, q1, qP, va_K.moved (u := U) (U := U.calling g mk a) (Vm.Alike.refl U.vm) qK, qD, qT.calling⟩, va_recv hK hP hcl hw, fun U hU hW => ⟨rfl, by rw [hU], by rw [hU]; exact hP, va_K.moved hW.alike hK, hD.weaken (fun _ _ _ _ => trivial), hT.go hS hU hW.alike hF⟩⟩ rfl (by rw [List.length_map]) hL.1 ?_ (lv_room hcat) hd ⟨Nat.zero_le _, Nat.zero_le _⟩) hS hF (fun r σ' t H1 locs1 ht hvm hΨ hP1 hD1 hS1 => ?_)
  · have h13 := hM.1.2.2.2.2.2.2
    show 8 + (mj.2.2.1 + 11) + 32 * mj.2.2.2.2 ≤ 32 * mi.2.2.2.2
    omega
  · show List.map (z_v ad) (As.reverse ++ .ref b :: st) = _
    rw [List.map_append, List.map_reverse]
    rfl
  · have h1 := kk r σ' hΨ l ad cI cZ D p e s m args below meth c A H1 locs1 ls hC hK hP1 (hD1.weaken (fun k q _ h => hF q.1 h)) hS1 hL
    have h2 : (r.toList ++ st).map (z_v ad) = (r.map (z_v ad)).toList ++ st.map (z_v ad) := by
      rw [List.map_append]
      cases r <;> rfl
    rw [h2] at h1
    exact h1
theorem z_callS (hM : z_MS mj n) (hlk : Cond.methodLink mi.1.cls index mj.1 ∈ z_tbl) (hdp : mj.2.2.2.2 < mi.2.2.2.2)
    (hd : decode mi.2.1 pc = .ok (.invokestatic index, 3))
    (hs : st0 = As.reverse ++ st) (hc1 : z_c1 As = true) (hn : As.length = n) (hnn : n ≤ mj.2.2.1) (hst : (st.map (fun v => v.category)).sum ≤ 8)
    (hcal : z_R lay mj 0 L' [] σ Ψ) (hL' : L' = As.map some ++ List.replicate (mj.2.2.1 - n) none)
    (kk : ∀ r σ', Ψ r σ' → z_R lay mi (pc + 3) L (r.toList ++ st) σ' Φ) : z_R lay mi pc L st0 σ Φ := by
  intro l ad cI cZ D p e s m args below meth c A H locs ls hC hK hP hD hS hL
  subst hs
  subst hn
  subst hL'
  obtain ⟨hx, hbc, hml, hr, hown, hts, hlk', hA, hT⟩ := id hC
  have hG : GoodIn (z_ws mi) (va_wsS mi.1.cls index mj.1 (z_ws mj)) := z_goodIn (fun w hw => by
    simp only [va_wsS, List.cons_append, List.nil_append, List.mem_cons] at hw
    rcases hw with rfl | rfl | rfl | hw
    · exact hlk
    · exact hM.2
    · exact hM.1.2.1
    · exact z_ws_in hM.1 w hw)
  have hF : ∀ q, va_A (z_wd lay ad cI cZ σ) H.size q → A q := fun q h => by
    rcases h with ⟨k, e, h⟩ | h
    · exact hD.2 k (q, e) h
    · exact hA q (Nat.le_trans hS.1 h)
  have hMet := z_met (l := l) (ad := ad) (cI := cI) (cZ := cZ) (D := D) (sz := H.size) (vs := As) hM.1.1 hc1 hnn hcal
  have hcat : ((st.map (z_v ad)).map (fun v => v.category)).sum ≤ 8 := by
    rw [List.map_map]
    have : ((fun v : Value => v.category) ∘ z_v ad) = (fun v : Value => v.category) := funext fun v => z_cat ad v
    rw [this]; exact hst
  refine z_callx (va_runS (As := As.map (z_v ad)) (rest := st.map (z_v ad)) ⟨hx, hbc, hml, hown, hts⟩ hMet (va_cwS As.length hts hG rfl rfl rfl ⟨hM.1.2.2.2.1, hM.1.2.2.2.2.1, hM.1.2.2.2.2.2.1⟩ ⟨hdp, ?_⟩) ⟨fun a U g mk q => by obtain ⟨q0, q1, qP, qK, qD, qT⟩ := q; exact ⟨q0, q1, qP, va_K.moved (u := U) (U := U.calling g mk a) (Vm.Alike.refl U.vm) qK, qD, qT.calling⟩, fun U hU hW => ⟨rfl, by rw [hU], by rw [hU]; exact hP, va_K.moved hW.alike hK, hD.weaken (fun _ _ _ _ => trivial), hT.go hS hU hW.alike hF⟩⟩ rfl (by rw [List.length_map]) hL.1 ?_ (lv_room hcat) hd ⟨Nat.zero_le _, Nat.zero_le _⟩) hS hF (fun r σ' t H1 locs1 ht hvm hΨ hP1 hD1 hS1 => ?_)
  · have h13 := hM.1.2.2.2.2.2.2
    show 8 + (mj.2.2.1 + 11) + 32 * mj.2.2.2.2 ≤ 32 * mi.2.2.2.2
    omega
  · show List.map (z_v ad) (As.reverse ++ st) = _
    rw [List.map_append, List.map_reverse]
  · have h1 := kk r σ' hΨ l ad cI cZ D p e s m args below meth c A H1 locs1 ls hC hK hP1 (hD1.weaken (fun k q _ h => hF q.1 h)) hS1 hL
    have h2 : (r.toList ++ st).map (z_v ad) = (r.map (z_v ad)).toList ++ st.map (z_v ad) := by
      rw [List.map_append]
      cases r <;> rfl
    rw [h2] at h1
    exact h1
end ZCALL
theorem z_w_max : Cond.static Lib.Math.max.name ∈ z_tbl ∧ Cond.initialized "java/lang/Math" ∈ z_tbl ∧ Cond.code Lib.Math.max.name Lib.Math.max.code 2 (some .int) ∈ z_tbl := ⟨by decide +kernel, by decide +kernel, by decide +kernel⟩
theorem z_w_min : Cond.static Lib.Math.min.name ∈ z_tbl ∧ Cond.initialized "java/lang/Math" ∈ z_tbl ∧ Cond.code Lib.Math.min.name Lib.Math.min.code 2 (some .int) ∈ z_tbl := ⟨by decide +kernel, by decide +kernel, by decide +kernel⟩
theorem z_w_copy : Cond.native arraycopyName ∈ z_tbl ∧ Cond.static arraycopyName ∈ z_tbl ∧ Cond.initialized "java/lang/System" ∈ z_tbl := ⟨by decide +kernel, by decide +kernel, by decide +kernel⟩
section ZLIB
variable {lay : z_Lay} {mi : z_MI} {pc : Nat} {L : z_Loc} {st : List Value} {σ : z_Sto} {Φ : z_Post} {index : Nat}
theorem z_catmap (ad : Nat → Nat) (st : List Value) : ((st.map (z_v ad)).map (fun v => v.category)).sum = (st.map (fun v => v.category)).sum := by
  rw [List.map_map]
  have : ((fun v : Value => v.category) ∘ z_v ad) = (fun v : Value => v.category) := funext fun v => z_cat ad v
  rw [this]
theorem z_max {x y : Int32} (hlk : Cond.methodLink mi.1.cls index Lib.Math.max.name ∈ z_tbl) (hdp : 1 ≤ mi.2.2.2.2) (hst : (st.map (fun v => v.category)).sum ≤ 8) (hd : decode mi.2.1 pc = .ok (.invokestatic index, 3)) (k : z_R lay mi (pc + 3) L (.int (if x < y then y else x) :: st) σ Φ) : z_R lay mi pc L (.int y :: .int x :: st) σ Φ := by
  intro l ad cI cZ D p e s m args below meth c A H locs ls hC hK hP hD hS hL
  have hw : ∀ w ∈ z_tbl, w.before args s = true := fun w h => hC.2.2.2.2.2.1 w (List.mem_cons_of_mem _ h)
  refine va_mmax hC.1 hC.2.1 (hC.2.2.1.trans hL.1.symm) hC.2.2.2.2.1 (hw _ hlk) (hw _ z_w_max.1) (hw _ z_w_max.2.1) (hw _ z_w_max.2.2) hdp ?_ (Nat.zero_le _) (Nat.zero_le _) hd (k l ad cI cZ D p e s m args below meth c A H locs ls hC hK hP hD hS hL)
  rw [z_catmap]
  show _ ≤ 32 * mi.2.2.2.2
  omega
theorem z_min {x y : Int32} (hlk : Cond.methodLink mi.1.cls index Lib.Math.min.name ∈ z_tbl) (hdp : 1 ≤ mi.2.2.2.2) (hst : (st.map (fun v => v.category)).sum ≤ 8) (hd : decode mi.2.1 pc = .ok (.invokestatic index, 3)) (k : z_R lay mi (pc + 3) L (.int (if y < x then y else x) :: st) σ Φ) : z_R lay mi pc L (.int y :: .int x :: st) σ Φ := by
  intro l ad cI cZ D p e s m args below meth c A H locs ls hC hK hP hD hS hL
  have hw : ∀ w ∈ z_tbl, w.before args s = true := fun w h => hC.2.2.2.2.2.1 w (List.mem_cons_of_mem _ h)
  refine va_mmin hC.1 hC.2.1 (hC.2.2.1.trans hL.1.symm) hC.2.2.2.2.1 (hw _ hlk) (hw _ z_w_min.1) (hw _ z_w_min.2.1) (hw _ z_w_min.2.2) hdp ?_ (Nat.zero_le _) (Nat.zero_le _) hd (k l ad cI cZ D p e s m args below meth c A H locs ls hC hK hP hD hS hL)
  rw [z_catmap]
  show _ ≤ 32 * mi.2.2.2.2
  omega
/-- the whole of one int array over another of the same length 8 -/
theorem z_copy8 {a b : Nat} (hlk : Cond.methodLink mi.1.cls index arraycopyName ∈ z_tbl) (hdp : 1 ≤ mi.2.2.2.2) (hst : (st.map (fun v => v.category)).sum ≤ 8) (ha : a < lay.1) (hb : b < lay.1) (hla : lay.2 a = .inl (false, 8)) (hlb : lay.2 b = .inl (false, 8)) (hd : decode mi.2.1 pc = .ok (.invokestatic index, 3))
    (k : z_R lay mi (pc + 3) L st (fun c => if c = b then (fun j => if j < 8 then σ a j else σ b j) else σ c) Φ) : z_R lay mi pc L (.int 8 :: .int 0 :: .ref b :: .int 0 :: .ref a :: st) σ Φ := by
  intro l ad cI cZ D p e s m args below meth c A H locs ls hC hK hP hD hS hL
  have hw : ∀ w ∈ z_tbl, w.before args s = true := fun w h => hC.2.2.2.2.2.1 w (List.mem_cons_of_mem _ h)
  have wa := z_wd_at (ad := ad) (cI := cI) (cZ := cZ) (σ := σ) ha
  have wb := z_wd_at (ad := ad) (cI := cI) (cZ := cZ) (σ := σ) hb
  have e0 : (0 : Int32).toNatClampNeg = 0 := by decide
  have e8 : (8 : Int32).toNatClampNeg = 8 := by decide
  have hcp : va_cpy (σ a) (σ b) 0 0 8 = (fun j => if j < 8 then σ a j else σ b j) := by
    funext j
    simp [va_cpy]
  have hset : (z_wd lay ad cI cZ σ).set b (ad b, .inl (cI, 8, .inl (va_cpy (σ a) (σ b) 0 0 8))) = z_wd lay ad cI cZ (fun c => if c = b then (fun j => if j < 8 then σ a j else σ b j) else σ c) := by
    rw [← z_wd_set (σ := σ) (σ' := fun c => if c = b then (fun j => if j < 8 then σ a j else σ b j) else σ c) hb (fun c' h => by simp [h]), hlb, hcp]
    simp [z_ent]
  rw [hla] at wa
  rw [hlb] at wb
  refine va_copyi (ty := .int) hC.1 hC.2.1 (hC.2.2.1.trans hL.1.symm) hC.2.2.2.2.1 (hw _ hlk) (hw _ z_w_copy.1) (hw _ z_w_copy.2.1) (hw _ z_w_copy.2.2) hK hP hD hS a b 0 0 wa wb rfl rfl rfl (by decide) (by decide) (by decide) (by decide) (by decide) (fun i _ => rfl) hdp ?_ hd (fun H1 locs1 hP1 hD1 hS1 => ?_)
  · rw [z_catmap]
    show _ + (nativeFrameWords "java/lang/System" "arraycopy" 5 + 11) ≤ 32 * mi.2.2.2.2
    have : nativeFrameWords "java/lang/System" "arraycopy" 5 = 7 := by decide
    omega
  · rw [e0, e8] at hP1 hD1
    exact k l ad cI cZ D p e s m args below meth c A H1 locs1 ls hC hK (by rw [← hset]; exact hP1) (by rw [← hset]; exact hD1) hS1 hL
/-- a static row of numbers, read at a local's place, or at a constant one -/
theorem z_stl {n : String} {f : Nat → Int32} {x : Int32} {kf : Fin 4} (hT : ∀ A s, z_T A s → z_T1 n f A s) (hlk : Cond.fieldLink mi.1.cls index "CalmLines$Rules" n "[I" ∈ z_tbl) (h1 : decode mi.2.1 pc = .ok (.getstatic index, 3)) (h2 : decode mi.2.1 (pc + 3) = .ok (.iload_n kf, 1)) (h3 : decode mi.2.1 (pc + 3 + 1) = .ok (.iaload, 1)) (hl : L[(kf : Nat)]? = some (some (.int x))) (hin : vp_in x 8) (k : z_R lay mi (pc + 3 + 1 + 1) L (.int (f x.toNatClampNeg) :: st) σ Φ) : z_R lay mi pc L st σ Φ := by
  intro l ad cI cZ D p e s m args below meth c A H locs ls hC hK hP hD hS hL
  have hw : ∀ w ∈ z_tbl, w.before args s = true := fun w h => hC.2.2.2.2.2.1 w (List.mem_cons_of_mem _ h)
  obtain ⟨t, hZ, hTt⟩ := hT A s hC.2.2.2.2.2.2.2.2
  refine va_gets hC.1 hC.2.1 hZ hS hC.2.2.2.2.1 (hw _ hlk) (fun _ h => h) h1 ?_
  refine lv_iload_n hC.1 hC.2.1 h2 rfl (hL.2.2 _ _ hl) ?_
  exact va_ti hC.1 hC.2.1 hTt hS hin rfl h3 (k l ad cI cZ D p e s m args below meth c A H locs ls hC hK hP hD hS hL)
theorem z_stc {n : String} {f : Nat → Int32} {x : Int32} {v : Int} (hT : ∀ A s, z_T A s → z_T1 n f A s) (hlk : Cond.fieldLink mi.1.cls index "CalmLines$Rules" n "[I" ∈ z_tbl) (h1 : decode mi.2.1 pc = .ok (.getstatic index, 3)) (h2 : decode mi.2.1 (pc + 3) = .ok (.iconst v, 1)) (h3 : decode mi.2.1 (pc + 3 + 1) = .ok (.iaload, 1)) (hv : Int32.ofInt v = x) (hin : vp_in x 8) (k : z_R lay mi (pc + 3 + 1 + 1) L (.int (f x.toNatClampNeg) :: st) σ Φ) : z_R lay mi pc L st σ Φ := by
  intro l ad cI cZ D p e s m args below meth c A H locs ls hC hK hP hD hS hL
  have hw : ∀ w ∈ z_tbl, w.before args s = true := fun w h => hC.2.2.2.2.2.1 w (List.mem_cons_of_mem _ h)
  obtain ⟨t, hZ, hTt⟩ := hT A s hC.2.2.2.2.2.2.2.2
  refine va_gets hC.1 hC.2.1 hZ hS hC.2.2.2.2.1 (hw _ hlk) (fun _ h => h) h1 ?_
  refine lv_iconst hC.1 hC.2.1 h2 hv ?_
  exact va_ti hC.1 hC.2.1 hTt hS hin rfl h3 (k l ad cI cZ D p e s m args below meth c A H locs ls hC hK hP hD hS hL)
end ZLIB
