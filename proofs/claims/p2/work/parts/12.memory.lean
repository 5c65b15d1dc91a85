/-! stores into locals, cells, calls, returns -/
theorem z_Lh.lv {ad : Nat → Nat} {nL : Nat} {ls : Array Slot} {L : z_Loc} (h : z_Lh ad nL ls L) : lv_has ls nL ((List.range L.length).filterMap fun i => (L[i]?).join.map fun v => (i, z_v ad v)) := by
  refine ⟨h.1, h.2.1, fun q hq => ?_⟩
  obtain ⟨i, -, hi⟩ := List.mem_filterMap.mp hq
  cases hL : L[i]? with
  | none => rw [hL] at hi; cases hi
  | some o =>
    cases o with
    | none => rw [hL] at hi; cases hi
    | some v =>
      rw [hL] at hi
      cases hi
      exact h.2.2 i v hL
theorem z_cat (ad : Nat → Nat) (v : Value) : (z_v ad v).category = v.category := by cases v <;> rfl
/-- no value of two words ahead of place i -/
def z_no2 (L : z_Loc) (i : Nat) : Prop := ∀ j v, j + 1 = i → L[j]? = some (some v) → v.category = 1
theorem z_Lh.st1 {ad : Nat → Nat} {nL : Nat} {ls : Array Slot} {L : z_Loc} {i : Nat} {v : Value} {lv' : List (Nat × Value)} (hv : lv' = (i, z_v ad v) :: ((List.range L.length).filterMap fun i => (L[i]?).join.map fun v => (i, z_v ad v)).filter (fun q => !(q.1 == i) && !(q.1 + 1 == i && q.2.category == 2))) (h2 : z_no2 L i) (h : lv_has ls nL lv') : z_Lh ad nL ls (L.set i (some v)) := by
  refine ⟨h.1, h.2.1, fun j w hj => ?_⟩
  rw [List.getElem?_set] at hj
  by_cases hij : i = j
  · subst hij
    rw [if_pos rfl] at hj
    split at hj
    · cases hj
      exact h.2.2 (i, z_v ad v) (by rw [hv]; exact List.mem_cons_self)
    · cases hj
  · rw [if_neg hij] at hj
    refine h.2.2 (j, z_v ad w) ?_
    rw [hv]
    refine List.mem_cons_of_mem _ (List.mem_filter.mpr ⟨List.mem_filterMap.mpr ⟨j, List.mem_range.mpr (List.getElem?_eq_some_iff.mp hj).1, by rw [hj]; rfl⟩, ?_⟩)
    have h3 : (j == i) = false := by simp; exact Ne.symm hij
    have h4 : (j + 1 == i && (z_v ad w).category == 2) = false := by
      by_cases h5 : j + 1 = i
      · have := h2 j w h5 hj
        rw [z_cat, this]
        simp
      · simp [h5]
    simp [h3, h4]
theorem z_Lh.st2 {ad : Nat → Nat} {nL : Nat} {ls : Array Slot} {L : z_Loc} {i : Nat} {v : Value} {lv' : List (Nat × Value)} (hv : lv' = (i, z_v ad v) :: ((List.range L.length).filterMap fun i => (L[i]?).join.map fun v => (i, z_v ad v)).filter (fun q => !(q.1 == i) && (!(q.1 == i + 1) && !(q.1 + 1 == i && q.2.category == 2)))) (h2 : z_no2 L i) (h : lv_has ls nL lv') : z_Lh ad nL ls ((L.set i (some v)).set (i + 1) none) := by
  refine ⟨h.1, h.2.1, fun j w hj => ?_⟩
  rw [List.getElem?_set] at hj
  by_cases hij1 : i + 1 = j
  · subst hij1
    rw [if_pos rfl] at hj
    split at hj <;> cases hj
  · rw [if_neg hij1, List.getElem?_set] at hj
    by_cases hij : i = j
    · subst hij
      rw [if_pos rfl] at hj
      split at hj
      · cases hj
        exact h.2.2 (i, z_v ad v) (by rw [hv]; exact List.mem_cons_self)
      · cases hj
    · rw [if_neg hij] at hj
      refine h.2.2 (j, z_v ad w) ?_
      rw [hv]
      refine List.mem_cons_of_mem _ (List.mem_filter.mpr ⟨List.mem_filterMap.mpr ⟨j, List.mem_range.mpr (List.getElem?_eq_some_iff.mp hj).1, by rw [hj]; rfl⟩, ?_⟩)
      have h3 : (j == i) = false := by simp; exact Ne.symm hij
      have h3' : (j == i + 1) = false := by simp; exact Ne.symm hij1
      have h4 : (j + 1 == i && (z_v ad w).category == 2) = false := by
        by_cases h5 : j + 1 = i
        · have := h2 j w h5 hj
          rw [z_cat, this]
          simp
        · simp [h5]
      simp [h3, h3', h4]
section ZM
variable {lay : z_Lay} {mi : z_MI} {pc : Nat} {L L' : z_Loc} {st : List Value} {σ : z_Sto} {Φ : z_Post}
/-- the value ahead of a place takes one word: decided by looking -/
def z_ok1 (L : z_Loc) (i : Nat) : Bool := match i with
  | 0 => true
  | j + 1 => match L[j]? with
    | some (some (.long _)) => false
    | some (some (.double _)) => false
    | _ => true
theorem z_ok1.no2 {L : z_Loc} {i : Nat} (h : z_ok1 L i = true) : z_no2 L i := by
  intro j v hj hL
  subst hj
  rw [z_ok1, hL] at h
  cases v <;> first | rfl | cases h
theorem z_istore_n {k : Fin 4} {x : Int32} (hd : decode mi.2.1 pc = .ok (.istore_n k, 1)) (hn : (k : Nat) < mi.2.2.1) (h2 : z_ok1 L k = true) (hL' : L.set k (some (.int x)) = L') (kk : z_R lay mi (pc + 1) L' st σ Φ) : z_R lay mi pc L (.int x :: st) σ Φ := by
  intro l ad cI cZ D p e s m args below meth c A H locs ls hC hK hP hD hS hL
  subst hL'
  exact lv_istore_n hC.1 hC.2.1 hd rfl hL.lv hn rfl (fun ls' h' => kk l ad cI cZ D p e s m args below meth c A H locs ls' hC hK hP hD hS (z_Lh.st1 (v := .int x) rfl (z_ok1.no2 h2) h'))
theorem z_istore {k : Nat} {x : Int32} (hd : decode mi.2.1 pc = .ok (.istore k, 2)) (hn : k < mi.2.2.1) (h2 : z_ok1 L k = true) (hL' : L.set k (some (.int x)) = L') (kk : z_R lay mi (pc + 2) L' st σ Φ) : z_R lay mi pc L (.int x :: st) σ Φ := by
  intro l ad cI cZ D p e s m args below meth c A H locs ls hC hK hP hD hS hL
  subst hL'
  exact lv_istore hC.1 hC.2.1 hd hL.lv hn rfl (fun ls' h' => kk l ad cI cZ D p e s m args below meth c A H locs ls' hC hK hP hD hS (z_Lh.st1 (v := .int x) rfl (z_ok1.no2 h2) h'))
theorem z_lstore_n {k : Fin 4} {x : Int64} (hd : decode mi.2.1 pc = .ok (.lstore_n k, 1)) (hn : (k : Nat) + 1 < mi.2.2.1) (h2 : z_ok1 L k = true) (hL' : (L.set k (some (.long x))).set (k + 1) none = L') (kk : z_R lay mi (pc + 1) L' st σ Φ) : z_R lay mi pc L (.long x :: st) σ Φ := by
  intro l ad cI cZ D p e s m args below meth c A H locs ls hC hK hP hD hS hL
  subst hL'
  exact lv_lstore_n hC.1 hC.2.1 hd rfl hL.lv hn rfl (fun ls' h' => kk l ad cI cZ D p e s m args below meth c A H locs ls' hC hK hP hD hS (z_Lh.st2 (v := .long x) rfl (z_ok1.no2 h2) h'))
theorem z_lvk {ad : Nat → Nat} {i : Nat} {x : Int32} (h : L[i]? = some (some (.int x))) : ∃ k : Nat, ((List.range L.length).filterMap fun i => (L[i]?).join.map fun v => (i, z_v ad v))[k]? = some (i, .int x) := by
  have hm : (i, Value.int x) ∈ ((List.range L.length).filterMap fun i => (L[i]?).join.map fun v => (i, z_v ad v)) :=
    List.mem_filterMap.mpr ⟨i, List.mem_range.mpr (List.getElem?_eq_some_iff.mp h).1, by rw [h]; rfl⟩
  exact List.mem_iff_getElem?.mp hm
theorem z_iinc {i : Nat} {n : Int} {x : Int32} (hd : decode mi.2.1 pc = .ok (.iinc i n, 3)) (hx : L[i]? = some (some (.int x))) (hn : i < mi.2.2.1) (h2 : z_ok1 L i = true) (hL' : L.set i (some (.int (x + Int32.ofInt n))) = L') (kk : z_R lay mi (pc + 3) L' st σ Φ) : z_R lay mi pc L st σ Φ := by
  intro l ad cI cZ D p e s m args below meth c A H locs ls hC hK hP hD hS hL
  subst hL'
  obtain ⟨k, hk⟩ := z_lvk (ad := ad) hx
  exact lv_iinc hC.1 hC.2.1 hd hL.lv hk rfl hn rfl (fun ls' h' => kk l ad cI cZ D p e s m args below meth c A H locs ls' hC hK hP hD hS (z_Lh.st1 (v := .int (x + Int32.ofInt n)) rfl (z_ok1.no2 h2) h'))
/-- a switch: in the table, or out of it -/
theorem z_tabIn {dflt lo hi : Int} {offs : Array Int} {len : Nat} {x : Int32} {off : Int} {tgt : Nat} (hd : decode mi.2.1 pc = .ok (.tableswitch dflt lo hi offs, len)) (h1 : ¬ x.toInt < lo) (h2 : ¬ hi < x.toInt) (ho : offs[(x.toInt - lo).toNat]? = some off) (ht : (pc : Int) + off = (tgt : Int)) (k : z_R lay mi tgt L st σ Φ) : z_R lay mi pc L (.int x :: st) σ Φ :=
  fun l ad cI cZ D p e s m args below meth c A H locs ls hC hK hP hD hS hL => lv_tableIn hC.1 hC.2.1 hd h1 h2 ho ht (k l ad cI cZ D p e s m args below meth c A H locs ls hC hK hP hD hS hL)
theorem z_tabOut {dflt lo hi : Int} {offs : Array Int} {len : Nat} {x : Int32} {tgt : Nat} (hd : decode mi.2.1 pc = .ok (.tableswitch dflt lo hi offs, len)) (h : x.toInt < lo ∨ hi < x.toInt) (ht : (pc : Int) + dflt = (tgt : Int)) (k : z_R lay mi tgt L st σ Φ) : z_R lay mi pc L (.int x :: st) σ Φ :=
  fun l ad cI cZ D p e s m args below meth c A H locs ls hC hK hP hD hS hL => lv_tableOut hC.1 hC.2.1 hd h ht (k l ad cI cZ D p e s m args below meth c A H locs ls hC hK hP hD hS hL)
theorem z_look {dflt : Int} {ps : Array (Int × Int)} {len : Nat} {x : Int32} {off : Int} {tgt : Nat} (hd : decode mi.2.1 pc = .ok (.lookupswitch dflt ps, len)) (hp : (ps.toList.zip (ps.toList.drop 1)).all (fun (a, next) => a.1 < next.1) = true) (ho : Op.lookupswitch.offset ps.toList dflt x.toInt = off) (ht : (pc : Int) + off = (tgt : Int)) (k : z_R lay mi tgt L st σ Φ) : z_R lay mi pc L (.int x :: st) σ Φ :=
  fun l ad cI cZ D p e s m args below meth c A H locs ls hC hK hP hD hS hL => lv_lookup hC.1 hC.2.1 hd hp ho ht (k l ad cI cZ D p e s m args below meth c A H locs ls hC hK hP hD hS hL)
/-- what a class's fields are, by its number -/
def z_F (own : String) (ci k index : Nat) (C : String) (T : u_T) (N : Nat) : Prop := vwCl[ci]? = some (C, T, N) ∧ k < N ∧ (∀ w ∈ u_ws C T N, w ∈ z_tbl) ∧ (T k).1 = C ∧ Cond.fieldLink own index C (T k).2.1 (T k).2.2.1 ∈ z_tbl
theorem z_getA {c k j ci index : Nat} {fs : List (Option Nat)} {C : String} {T : u_T} {N : Nat} (hF : z_F mi.1.cls ci k index C T N) (hd : decode mi.2.1 pc = .ok (.getfield index, 3)) (hc : c < lay.1) (hl : lay.2 c = .inr (ci, fs)) (hk : fs[k]? = some (some j)) (kk : z_R lay mi (pc + 3) L (.ref j :: st) σ Φ) : z_R lay mi pc L (.ref c :: st) σ Φ := by
  intro l ad cI cZ D p e s m args below meth cc A H locs ls hC hK hP hD hS hL
  have hw := z_wd_at (ad := ad) (cI := cI) (cZ := cZ) (σ := σ) hc
  rw [hl] at hw
  refine va_get (v := .ref (ad j)) hC.1 hC.2.1 hC.2.2.2.2.2.1 (fun w h => List.mem_cons_of_mem _ (hF.2.2.1 w h)) hC.2.2.2.2.1 hK hP c hw hF.1 k hF.2.1 (hC.2.2.2.2.2.1 _ (List.mem_cons_of_mem _ hF.2.2.2.2)) (fun _ h9 => by rw [hF.2.2.2.1] at h9; exact h9) (by rw [z_fs_at, hk]; rfl) hd ?_
  exact kk l ad cI cZ D p e s m args below meth cc A H locs ls hC hK hP hD hS hL
theorem z_getI {c k ci index : Nat} {fs : List (Option Nat)} {C : String} {T : u_T} {N : Nat} (hF : z_F mi.1.cls ci k index C T N) (hd : decode mi.2.1 pc = .ok (.getfield index, 3)) (hc : c < lay.1) (hl : lay.2 c = .inr (ci, fs)) (hk : fs[k]? = some none) (kk : z_R lay mi (pc + 3) L (.int (σ c k) :: st) σ Φ) : z_R lay mi pc L (.ref c :: st) σ Φ := by
  intro l ad cI cZ D p e s m args below meth cc A H locs ls hC hK hP hD hS hL
  have hw := z_wd_at (ad := ad) (cI := cI) (cZ := cZ) (σ := σ) hc
  rw [hl] at hw
  refine va_get (v := .int (σ c k)) hC.1 hC.2.1 hC.2.2.2.2.2.1 (fun w h => List.mem_cons_of_mem _ (hF.2.2.1 w h)) hC.2.2.2.2.1 hK hP c hw hF.1 k hF.2.1 (hC.2.2.2.2.2.1 _ (List.mem_cons_of_mem _ hF.2.2.2.2)) (fun _ h9 => by rw [hF.2.2.2.1] at h9; exact h9) (by rw [z_fs_at, hk]; rfl) hd ?_
  exact kk l ad cI cZ D p e s m args below meth cc A H locs ls hC hK hP hD hS hL
theorem z_putI {c k ci index : Nat} {fs : List (Option Nat)} {C : String} {T : u_T} {N : Nat} {ty : FieldType} {v : Int32} {ty0 : Nat → FieldType} (hF : z_F mi.1.cls ci k index C T N) (hty : ∀ k, k < N → parseFieldDescriptor (T k).2.2.1 = some (ty0 k)) (hnm : ∀ a, a < N → ∀ b, b < N → a ≠ b → (T a).2.1 ≠ (T b).2.1) (hfin : (T k).2.2.2 = false) (hpd : ty0 k = ty) (hn : narrow ty (.int v) = .int v) (hfit : fits ty (.int v) = true)
    (hd : decode mi.2.1 pc = .ok (.putfield index, 3)) (hc : c < lay.1) (hl : lay.2 c = .inr (ci, fs)) (hk : fs[k]? = some none) (kk : z_R lay mi (pc + 3) L st (z_up σ c k v) Φ) : z_R lay mi pc L (.int v :: .ref c :: st) σ Φ := by
  intro l ad cI cZ D p e s m args below meth cc A H locs ls hC hK hP hD hS hL
  have hw := z_wd_at (ad := ad) (cI := cI) (cZ := cZ) (σ := σ) hc
  rw [hl] at hw
  have hset : (z_wd lay ad cI cZ σ).set c (ad c, .inr (ci, (z_fs ad (σ c) fs).set k (.int v))) = z_wd lay ad cI cZ (z_up σ c k v) := by
    rw [← z_wd_set (σ := σ) (σ' := z_up σ c k v) hc (fun c' h => z_up_ne σ k v h), hl, z_up_same, z_fs_set ad (σ c) hk]
    rfl
  refine va_put (v := .int v) (ty := ty) hC.1 hC.2.1 hC.2.2.2.2.2.1 (fun w h => List.mem_cons_of_mem _ (hF.2.2.1 w h)) ty0 hty hnm hC.2.2.2.2.1 hK hP hD hS c hw hF.1 k hF.2.1 (hC.2.2.2.2.2.1 _ (List.mem_cons_of_mem _ hF.2.2.2.2)) (fun _ h9 => by rw [hF.2.2.2.1] at h9; exact h9) hfin (by rw [hty k hF.2.1, hpd]) hn hfit (by simp [z_fs]; exact (List.getElem?_eq_some_iff.mp hk).1) hd (fun H1 locs1 hP1 hD1 hS1 => ?_)
  rw [hset] at hP1 hD1
  exact kk l ad cI cZ D p e s m args below meth cc A H1 locs1 ls hC hK hP1 hD1 hS1 hL
theorem z_iald {c n : Nat} {i : Int32} (hd : decode mi.2.1 pc = .ok (.iaload, 1)) (hc : c < lay.1) (hl : lay.2 c = .inl (false, n)) (hin : vp_in i n) (kk : z_R lay mi (pc + 1) L (.int (σ c i.toNatClampNeg) :: st) σ Φ) : z_R lay mi pc L (.int i :: .ref c :: st) σ Φ := by
  intro l ad cI cZ D p e s m args below meth cc A H locs ls hC hK hP hD hS hL
  have hw := z_wd_at (ad := ad) (cI := cI) (cZ := cZ) (σ := σ) hc
  rw [hl] at hw
  exact va_iald hC.1 hC.2.1 hK hP c 0 hw rfl hin hd (kk l ad cI cZ D p e s m args below meth cc A H locs ls hC hK hP hD hS hL)
theorem z_zald {c n : Nat} {i : Int32} (hd : decode mi.2.1 pc = .ok (.baload, 1)) (hc : c < lay.1) (hl : lay.2 c = .inl (true, n)) (hin : vp_in i n) (kk : z_R lay mi (pc + 1) L (.int (σ c i.toNatClampNeg) :: st) σ Φ) : z_R lay mi pc L (.int i :: .ref c :: st) σ Φ := by
  intro l ad cI cZ D p e s m args below meth cc A H locs ls hC hK hP hD hS hL
  have hw := z_wd_at (ad := ad) (cI := cI) (cZ := cZ) (σ := σ) hc
  rw [hl] at hw
  exact va_zald hC.1 hC.2.1 hK hP c 1 hw rfl hin hd (kk l ad cI cZ D p e s m args below meth cc A H locs ls hC hK hP hD hS hL)
theorem z_iast {c n : Nat} {i x : Int32} (hd : decode mi.2.1 pc = .ok (.iastore, 1)) (hc : c < lay.1) (hl : lay.2 c = .inl (false, n)) (hin : vp_in i n) (kk : z_R lay mi (pc + 1) L st (z_up σ c i.toNatClampNeg x) Φ) : z_R lay mi pc L (.int x :: .int i :: .ref c :: st) σ Φ := by
  intro l ad cI cZ D p e s m args below meth cc A H locs ls hC hK hP hD hS hL
  have hw := z_wd_at (ad := ad) (cI := cI) (cZ := cZ) (σ := σ) hc
  have hset : (z_wd lay ad cI cZ σ).set c (ad c, .inl (cI, n, .inl (upd (σ c) i.toNatClampNeg x))) = z_wd lay ad cI cZ (z_up σ c i.toNatClampNeg x) := by
    rw [← z_wd_set (σ := σ) (σ' := z_up σ c i.toNatClampNeg x) hc (fun c' h => z_up_ne σ _ x h), hl, z_up_same]
    rfl
  rw [hl] at hw
  refine va_iast hC.1 hC.2.1 hK hP hD hS c 0 hw rfl hin hd (fun H1 locs1 hP1 hD1 hS1 => ?_)
  have e1 := hset
  exact kk l ad cI cZ D p e s m args below meth cc A H1 locs1 ls hC hK (by rw [← hset]; exact hP1) (by rw [← hset]; exact hD1) hS1 hL
theorem z_zast {c n : Nat} {i x : Int32} (hd : decode mi.2.1 pc = .ok (.bastore, 1)) (hc : c < lay.1) (hl : lay.2 c = .inl (true, n)) (hin : vp_in i n) (hx : x = 0 ∨ x = 1) (kk : z_R lay mi (pc + 1) L st (z_up σ c i.toNatClampNeg x) Φ) : z_R lay mi pc L (.int x :: .int i :: .ref c :: st) σ Φ := by
  intro l ad cI cZ D p e s m args below meth cc A H locs ls hC hK hP hD hS hL
  have hw := z_wd_at (ad := ad) (cI := cI) (cZ := cZ) (σ := σ) hc
  have hset : (z_wd lay ad cI cZ σ).set c (ad c, .inl (cZ, n, .inl (upd (σ c) i.toNatClampNeg x))) = z_wd lay ad cI cZ (z_up σ c i.toNatClampNeg x) := by
    rw [← z_wd_set (σ := σ) (σ' := z_up σ c i.toNatClampNeg x) hc (fun c' h => z_up_ne σ _ x h), hl, z_up_same]
    rfl
  have hnar : vp_nar .boolean x = x := by rcases hx with rfl | rfl <;> decide
  rw [hl] at hw
  refine va_zast hC.1 hC.2.1 hK hP hD hS c 1 hw rfl hin hd (fun H1 locs1 hP1 hD1 hS1 => ?_)
  rw [hnar] at hP1 hD1
  exact kk l ad cI cZ D p e s m args below meth cc A H1 locs1 ls hC hK (by rw [← hset]; exact hP1) (by rw [← hset]; exact hD1) hS1 hL
theorem z_alenI {c n : Nat} (hd : decode mi.2.1 pc = .ok (.arraylength, 1)) (hc : c < lay.1) (hl : lay.2 c = .inl (false, n)) (kk : z_R lay mi (pc + 1) L (.int (Int32.ofNat n) :: st) σ Φ) : z_R lay mi pc L (.ref c :: st) σ Φ := by
  intro l ad cI cZ D p e s m args below meth cc A H locs ls hC hK hP hD hS hL
  have hw := z_wd_at (ad := ad) (cI := cI) (cZ := cZ) (σ := σ) hc
  rw [hl] at hw
  exact va_alen hC.1 hC.2.1 hK hP c 0 hw (ty := .int) rfl rfl hd (kk l ad cI cZ D p e s m args below meth cc A H locs ls hC hK hP hD hS hL)
/-- returns -/
theorem z_ireturn {x : Int32} {ty : FieldType} (hd : decode mi.2.1 pc = .ok (.ireturn, 1)) (ht : mi.2.2.2.1 = some ty) (hn : narrow ty (.int x) = .int x) (k : Φ (some (.int x)) σ) : z_R lay mi pc L [.int x] σ Φ := by
  intro l ad cI cZ D p e s m args below meth cc A H locs ls hC hK hP hD hS hL
  refine W.zret hC.1 hC.2.1 (hC.2.2.2.1.trans ht) hn (fun t ht' hW => ⟨⟨some (.int x), σ, rfl, k, by rw [ht']; exact hP, va_K.moved hW.alike hK, hD⟩, hS.F ht'⟩) hS.2.2 hd hC.2.2.2.2.2.2.1
theorem z_lreturn {x : Int64} (hd : decode mi.2.1 pc = .ok (.lreturn, 1)) (ht : mi.2.2.2.1 = some .long) (k : Φ (some (.long x)) σ) : z_R lay mi pc L [.long x] σ Φ := by
  intro l ad cI cZ D p e s m args below meth cc A H locs ls hC hK hP hD hS hL
  refine W.lret hC.1 hC.2.1 (hC.2.2.2.1.trans ht) (fun t ht' hW => ⟨⟨some (.long x), σ, rfl, k, by rw [ht']; exact hP, va_K.moved hW.alike hK, hD⟩, hS.F ht'⟩) hS.2.2 hd hC.2.2.2.2.2.2.1
theorem z_return (hd : decode mi.2.1 pc = .ok (.return_, 1)) (ht : mi.2.2.2.1 = none) (k : Φ none σ) : z_R lay mi pc L [] σ Φ := by
  intro l ad cI cZ D p e s m args below meth cc A H locs ls hC hK hP hD hS hL
  refine W.vret hC.1 hC.2.1 (hC.2.2.2.1.trans ht) (fun t ht' hW => ⟨⟨none, σ, rfl, k, by rw [ht']; exact hP, va_K.moved hW.alike hK, hD⟩, hS.F ht'⟩) hS.2.2 hd hC.2.2.2.2.2.2.1
end ZM
