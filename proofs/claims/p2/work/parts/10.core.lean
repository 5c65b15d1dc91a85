/-! the judgement of a method's body over a fixed set of cells: what each cell is (lay), what it holds (σ) -/
abbrev z_Sto : Type := Nat → Nat → Int32
abbrev z_Cel : Type := (Bool × Nat) ⊕ (Nat × List (Option Nat))
abbrev z_Lay : Type := Nat × (Nat → z_Cel)
abbrev z_MI : Type := MethodName × ByteArray × Nat × Option FieldType × Nat
abbrev z_Loc : Type := List (Option Value)
abbrev z_Post : Type := Option Value → z_Sto → Prop
def z_up (σ : z_Sto) (k j : Nat) (v : Int32) : z_Sto := fun c => if c = k then upd (σ k) j v else σ c
def z_v (ad : Nat → Nat) (v : Value) : Value := match v with
  | .ref k => .ref (ad k)
  | w => w
def z_f1 (ad : Nat → Nat) (f : Nat → Int32) (i : Nat) (o : Option Nat) : Value := match o with
  | some j => .ref (ad j)
  | none => .int (f i)
def z_fs (ad : Nat → Nat) (f : Nat → Int32) (fs : List (Option Nat)) : List Value := fs.mapIdx (z_f1 ad f)
def z_ent (ad : Nat → Nat) (cI cZ : ClassId) (f : Nat → Int32) (c : z_Cel) : va_E := match c with
  | .inl (b, n) => .inl (if b then cZ else cI, n, .inl f)
  | .inr (ci, fs) => .inr (ci, z_fs ad f fs)
def z_wd (lay : z_Lay) (ad : Nat → Nat) (cI cZ : ClassId) (σ : z_Sto) : va_W := (List.range lay.1).map fun c => (ad c, z_ent ad cI cZ (σ c) (lay.2 c))
theorem z_up_same (σ : z_Sto) (k j : Nat) (v : Int32) : z_up σ k j v k = upd (σ k) j v := by simp [z_up]
theorem z_up_ne (σ : z_Sto) {k c : Nat} (j : Nat) (v : Int32) (h : c ≠ k) : z_up σ k j v c = σ c := by simp [z_up, h]
theorem z_wd_at {lay : z_Lay} {ad : Nat → Nat} {cI cZ : ClassId} {σ : z_Sto} {c : Nat} (h : c < lay.1) : (z_wd lay ad cI cZ σ)[c]? = some (ad c, z_ent ad cI cZ (σ c) (lay.2 c)) := by
  simp [z_wd, h]
theorem z_wd_out {lay : z_Lay} {ad : Nat → Nat} {cI cZ : ClassId} {σ : z_Sto} {c : Nat} (h : ¬ c < lay.1) : (z_wd lay ad cI cZ σ)[c]? = none := by
  simp [z_wd]; omega
theorem z_wd_set {lay : z_Lay} {ad : Nat → Nat} {cI cZ : ClassId} {σ σ' : z_Sto} {c : Nat} (hc : c < lay.1) (h : ∀ c', c' ≠ c → σ' c' = σ c') : (z_wd lay ad cI cZ σ).set c (ad c, z_ent ad cI cZ (σ' c) (lay.2 c)) = z_wd lay ad cI cZ σ' := by
  apply List.ext_getElem?
  intro i
  rw [List.getElem?_set]
  by_cases hi : c = i
  · subst hi
    rw [if_pos rfl, z_wd_at hc]
    simp [z_wd, hc]
  · rw [if_neg hi]
    by_cases h2 : i < lay.1
    · rw [z_wd_at h2, z_wd_at h2, h i (Ne.symm hi)]
    · rw [z_wd_out h2, z_wd_out h2]
theorem z_fs_at (ad : Nat → Nat) (f : Nat → Int32) (fs : List (Option Nat)) (k : Nat) : (z_fs ad f fs)[k]? = (fs[k]?).map (z_f1 ad f k) := by
  simp [z_fs]
theorem z_fs_set (ad : Nat → Nat) (f : Nat → Int32) {fs : List (Option Nat)} {k : Nat} {v : Int32} (h : fs[k]? = some none) : (z_fs ad f fs).set k (.int v) = z_fs ad (upd f k v) fs := by
  apply List.ext_getElem?
  intro i
  rw [List.getElem?_set]
  have hl : k < fs.length := (List.getElem?_eq_some_iff.mp h).1
  by_cases hi : k = i
  · subst hi
    rw [if_pos rfl, if_pos (by simp [z_fs]; exact hl), z_fs_at, h]
    simp [z_f1, upd]
  · rw [if_neg hi, z_fs_at, z_fs_at]
    cases hq : fs[i]? with
    | none => rfl
    | some o =>
      cases o with
      | none => simp [z_f1, upd, Ne.symm hi]
      | some j => rfl
/-- the statics that hold rows of numbers -/
def z_T1 (n : String) (f : Nat → Int32) (A : Nat → Prop) (s : State) : Prop := ∃ t : Nat, va_Z "CalmLines$Rules" n "[I" (.ref t) A s s.heap ∧ va_T .int t 8 (fun j => .int (f j)) A s s.heap
def z_first (k : Nat) : Int32 := ([1000, 0, 500, 60, 3000, 750, 12000, 120] : List Int32).getD k 0
def z_least (k : Nat) : Int32 := ([0, 0, 0, 1, 1, 1, 1, 0] : List Int32).getD k 0
def z_most (k : Nat) : Int32 := ([10000, 10000, 10000, 500, 20000, 20000, 100000, 1000] : List Int32).getD k 0
def z_T (A : Nat → Prop) (s : State) : Prop := z_T1 "FIRST" z_first A s ∧ z_T1 "LEAST" z_least A s ∧ z_T1 "MOST" z_most A s
theorem z_T1.go {n : String} {f : Nat → Int32} {A B : Nat → Prop} {s U : State} {H : Heap} {locs : List Loc} (h : z_T1 n f A s) (hS : va_S A s.heap H locs) (hU : U.heap = H) (hvm : s.vm.Alike U.vm) (hAB : ∀ q, B q → A q) : z_T1 n f B U := by
  obtain ⟨t, h1, h2⟩ := h
  refine ⟨t, ?_, ?_⟩
  · rw [hU]; exact ((h1.moved hvm).kept hS.2.1).narrow hAB
  · rw [hU]; exact ((h2.moved hvm).kept hS.2.1).narrow hAB
theorem z_T.go {A B : Nat → Prop} {s U : State} {H : Heap} {locs : List Loc} (h : z_T A s) (hS : va_S A s.heap H locs) (hU : U.heap = H) (hvm : s.vm.Alike U.vm) (hAB : ∀ q, B q → A q) : z_T B U :=
  ⟨h.1.go hS hU hvm hAB, h.2.1.go hS hU hvm hAB, h.2.2.go hS hU hvm hAB⟩
theorem z_T1.calling {n : String} {f : Nat → Int32} {A : Nat → Prop} {U : State} {g : JFrame} {mk : MethodId} {a : Array Value} (h : z_T1 n f A U) : z_T1 n f A (U.calling g mk a) := by
  obtain ⟨t, h1, h2⟩ := h
  exact ⟨t, va_Z.moved (u := U) (U := U.calling g mk a) (Vm.Alike.refl U.vm) h1, va_T.moved (u := U) (U := U.calling g mk a) (Vm.Alike.refl U.vm) h2⟩
theorem z_T.calling {A : Nat → Prop} {U : State} {g : JFrame} {mk : MethodId} {a : Array Value} (h : z_T A U) : z_T A (U.calling g mk a) := ⟨h.1.calling, h.2.1.calling, h.2.2.calling⟩
/-- the words, the room, the context of a body -/
def z_tbl : List Cond := lw_tbl.filter goodWord
theorem z_in {w : Cond} (h : w ∈ lw_tbl) (hg : goodWord w = true) : w ∈ z_tbl := List.mem_filter.mpr ⟨h, hg⟩
theorem z_out {w : Cond} (h : w ∈ z_tbl) : w ∈ lw_tbl := (List.mem_filter.mp h).1
theorem z_tb {n : Nat} {w : Cond} (h : tables_1[n]? = some w) (hg : goodWord w = true) : w ∈ z_tbl := z_in (List.mem_append_right _ (List.mem_of_getElem? h)) hg
def z_ws (mi : z_MI) : List Cond := Cond.code mi.1 mi.2.1 mi.2.2.1 mi.2.2.2.1 :: z_tbl
abbrev z_rm (d : Nat) : Room := { frames := d, cells := 0, slots := 0, locals := 32 * d }
def z_C (mi : z_MI) (p : Program) (s : State) (m : MethodId) (args : Array Value) (meth : Method) (c : Code) (A : Nat → Prop) : Prop :=
  p.tables.exec = Jvm.exec ∧ c.code = mi.2.1 ∧ c.maxLocals = mi.2.2.1 ∧ meth.sig.returnType = mi.2.2.2.1 ∧ s.vm.findClass mi.1.cls = some m.cls ∧ (∀ w ∈ z_ws mi, w.before args s = true) ∧ meth.locks = false ∧ (∀ q, s.heap.size ≤ q → A q) ∧ z_T A s
def z_Lh (ad : Nat → Nat) (nL : Nat) (ls : Array Slot) (L : z_Loc) : Prop := ls.size = nL ∧ lv_wf ls ∧ ∀ (i : Nat) (v : Value), L[i]? = some (some v) → ls[i]? = some (.val (z_v ad v))
abbrev z_tys (cI cZ : ClassId) : List (ClassId × FieldType) := [(cI, .int), (cZ, .boolean)]
def z_Q (lay : z_Lay) (ad : Nat → Nat) (cI cZ : ClassId) (D : va_G) (A : Nat → Prop) (Φ : z_Post) : Array Value → State → Outcome → State → Prop := fun _ st oc t =>
  (∃ (r : Option Value) (σ : z_Sto), oc = .returned (r.map (z_v ad)) ∧ Φ r σ ∧ va_P D vwCl (z_wd lay ad cI cZ σ) t.heap ∧ va_K D vwCl (z_tys cI cZ) t ∧ va_D A (z_wd lay ad cI cZ σ)) ∧ va_F A st t
def z_R (lay : z_Lay) (mi : z_MI) (pc : Nat) (L : z_Loc) (st : List Value) (σ : z_Sto) (Φ : z_Post) : Prop :=
  ∀ (l : Launch) (ad : Nat → Nat) (cI cZ : ClassId) (D : va_G) (p : Program) (e : Env) (s : State) (m : MethodId) (args : Array Value) (below : List Frame) (meth : Method) (c : Code) (A : Nat → Prop) (H : Heap) (locs : List Loc) (ls : Array Slot),
    z_C mi p s m args meth c A → va_K D vwCl (z_tys cI cZ) s → va_P D vwCl (z_wd lay ad cI cZ σ) H → va_D A (z_wd lay ad cI cZ σ) → va_S A s.heap H locs → z_Lh ad mi.2.2.1 ls L →
    W p l e (z_rm mi.2.2.2.2) s m args below meth c H locs 0 0 (MQ below (z_Q lay ad cI cZ D A Φ) args s 0 0 A) (F0 m pc ls (st.map (z_v ad)))
theorem z_R.mono {lay : z_Lay} {mi : z_MI} {pc : Nat} {L : z_Loc} {st : List Value} {σ : z_Sto} {Φ Ψ : z_Post} (h : z_R lay mi pc L st σ Φ) (hi : ∀ r σ', Φ r σ' → Ψ r σ') : z_R lay mi pc L st σ Ψ := by
  intro l ad cI cZ D p e s m args below meth c A H locs ls hC hK hP hD hS hL T hT X
  obtain ⟨t, h1, o, h2, h3, ⟨⟨r, σ', e1, e2, e3⟩, hF⟩, h5⟩ := h l ad cI cZ D p e s m args below meth c A H locs ls hC hK hP hD hS hL T hT X
  exact ⟨t, h1, o, h2, h3, ⟨⟨r, σ', e1, hi r σ' e2, e3⟩, hF⟩, h5⟩
section ZR
variable {lay : z_Lay} {mi : z_MI} {pc : Nat} {L : z_Loc} {st : List Value} {σ : z_Sto} {Φ : z_Post}
theorem z_iconst {n : Int} {v : Int32} (hd : decode mi.2.1 pc = .ok (.iconst n, 1)) (hv : Int32.ofInt n = v) (k : z_R lay mi (pc + 1) L (.int v :: st) σ Φ) : z_R lay mi pc L st σ Φ :=
  fun l ad cI cZ D p e s m args below meth c A H locs ls hC hK hP hD hS hL => lv_iconst hC.1 hC.2.1 hd hv (k l ad cI cZ D p e s m args below meth c A H locs ls hC hK hP hD hS hL)
theorem z_bipush {n : Int} {v : Int32} (hd : decode mi.2.1 pc = .ok (.bipush n, 2)) (hv : (Int8.ofInt n).toInt32 = v) (k : z_R lay mi (pc + 2) L (.int v :: st) σ Φ) : z_R lay mi pc L st σ Φ :=
  fun l ad cI cZ D p e s m args below meth c A H locs ls hC hK hP hD hS hL => lv_bipush hC.1 hC.2.1 hd hv (k l ad cI cZ D p e s m args below meth c A H locs ls hC hK hP hD hS hL)
theorem z_sipush {n : Int} {v : Int32} (hd : decode mi.2.1 pc = .ok (.sipush n, 3)) (hv : (Int16.ofInt n).toInt32 = v) (k : z_R lay mi (pc + 3) L (.int v :: st) σ Φ) : z_R lay mi pc L st σ Φ :=
  fun l ad cI cZ D p e s m args below meth c A H locs ls hC hK hP hD hS hL => lv_sipush hC.1 hC.2.1 hd hv (k l ad cI cZ D p e s m args below meth c A H locs ls hC hK hP hD hS hL)
theorem z_ldc {i : Nat} {v : Int32} (hw : Cond.constant mi.1.cls i v ∈ z_tbl) (hd : decode mi.2.1 pc = .ok (.ldc i, 2)) (k : z_R lay mi (pc + 2) L (.int v :: st) σ Φ) : z_R lay mi pc L st σ Φ :=
  fun l ad cI cZ D p e s m args below meth c A H locs ls hC hK hP hD hS hL => lv_ldc hC.1 hC.2.1 hC.2.2.2.2.1 (hC.2.2.2.2.2.1 _ (List.mem_cons_of_mem _ hw)) hd (k l ad cI cZ D p e s m args below meth c A H locs ls hC hK hP hD hS hL)
theorem z_ldc2 {i : Nat} {v : Int64} (hw : Cond.constantLong mi.1.cls i v ∈ z_tbl) (hd : decode mi.2.1 pc = .ok (.ldc2_w i, 3)) (k : z_R lay mi (pc + 3) L (.long v :: st) σ Φ) : z_R lay mi pc L st σ Φ :=
  fun l ad cI cZ D p e s m args below meth c A H locs ls hC hK hP hD hS hL => lv_ldc2 hC.1 hC.2.1 hC.2.2.2.2.1 (hC.2.2.2.2.2.1 _ (List.mem_cons_of_mem _ hw)) hd (k l ad cI cZ D p e s m args below meth c A H locs ls hC hK hP hD hS hL)
theorem z_iload_n {k : Fin 4} {x : Int32} (hd : decode mi.2.1 pc = .ok (.iload_n k, 1)) (hl : L[(k : Nat)]? = some (some (.int x))) (kk : z_R lay mi (pc + 1) L (.int x :: st) σ Φ) : z_R lay mi pc L st σ Φ :=
  fun l ad cI cZ D p e s m args below meth c A H locs ls hC hK hP hD hS hL => lv_iload_n hC.1 hC.2.1 hd rfl (hL.2.2 _ _ hl) (kk l ad cI cZ D p e s m args below meth c A H locs ls hC hK hP hD hS hL)
theorem z_iload {k : Nat} {x : Int32} (hd : decode mi.2.1 pc = .ok (.iload k, 2)) (hl : L[k]? = some (some (.int x))) (kk : z_R lay mi (pc + 2) L (.int x :: st) σ Φ) : z_R lay mi pc L st σ Φ :=
  fun l ad cI cZ D p e s m args below meth c A H locs ls hC hK hP hD hS hL => lv_iload hC.1 hC.2.1 hd (hL.2.2 _ _ hl) (kk l ad cI cZ D p e s m args below meth c A H locs ls hC hK hP hD hS hL)
theorem z_lload_n {k : Fin 4} {x : Int64} (hd : decode mi.2.1 pc = .ok (.lload_n k, 1)) (hl : L[(k : Nat)]? = some (some (.long x))) (kk : z_R lay mi (pc + 1) L (.long x :: st) σ Φ) : z_R lay mi pc L st σ Φ :=
  fun l ad cI cZ D p e s m args below meth c A H locs ls hC hK hP hD hS hL => lv_lload_n hC.1 hC.2.1 hd rfl (hL.2.2 _ _ hl) (kk l ad cI cZ D p e s m args below meth c A H locs ls hC hK hP hD hS hL)
theorem z_aload_n {k : Fin 4} {x : Nat} (hd : decode mi.2.1 pc = .ok (.aload_n k, 1)) (hl : L[(k : Nat)]? = some (some (.ref x))) (kk : z_R lay mi (pc + 1) L (.ref x :: st) σ Φ) : z_R lay mi pc L st σ Φ :=
  fun l ad cI cZ D p e s m args below meth c A H locs ls hC hK hP hD hS hL => lv_aload_n hC.1 hC.2.1 hd rfl (hL.2.2 _ _ hl) (kk l ad cI cZ D p e s m args below meth c A H locs ls hC hK hP hD hS hL)
theorem z_iadd {x y : Int32} (hd : decode mi.2.1 pc = .ok (.iadd, 1)) (k : z_R lay mi (pc + 1) L (.int (x + y) :: st) σ Φ) : z_R lay mi pc L (.int y :: .int x :: st) σ Φ :=
  fun l ad cI cZ D p e s m args below meth c A H locs ls hC hK hP hD hS hL => lv_iadd hC.1 hC.2.1 hd (k l ad cI cZ D p e s m args below meth c A H locs ls hC hK hP hD hS hL)
theorem z_isub {x y : Int32} (hd : decode mi.2.1 pc = .ok (.isub, 1)) (k : z_R lay mi (pc + 1) L (.int (x - y) :: st) σ Φ) : z_R lay mi pc L (.int y :: .int x :: st) σ Φ :=
  fun l ad cI cZ D p e s m args below meth c A H locs ls hC hK hP hD hS hL => lv_isub hC.1 hC.2.1 hd (k l ad cI cZ D p e s m args below meth c A H locs ls hC hK hP hD hS hL)
theorem z_imul {x y : Int32} (hd : decode mi.2.1 pc = .ok (.imul, 1)) (k : z_R lay mi (pc + 1) L (.int (x * y) :: st) σ Φ) : z_R lay mi pc L (.int y :: .int x :: st) σ Φ :=
  fun l ad cI cZ D p e s m args below meth c A H locs ls hC hK hP hD hS hL => lv_imul hC.1 hC.2.1 hd (k l ad cI cZ D p e s m args below meth c A H locs ls hC hK hP hD hS hL)
theorem z_iand {x y : Int32} (hd : decode mi.2.1 pc = .ok (.iand, 1)) (k : z_R lay mi (pc + 1) L (.int (x &&& y) :: st) σ Φ) : z_R lay mi pc L (.int y :: .int x :: st) σ Φ :=
  fun l ad cI cZ D p e s m args below meth c A H locs ls hC hK hP hD hS hL => lv_iand hC.1 hC.2.1 hd (k l ad cI cZ D p e s m args below meth c A H locs ls hC hK hP hD hS hL)
theorem z_ior {x y : Int32} (hd : decode mi.2.1 pc = .ok (.ior, 1)) (k : z_R lay mi (pc + 1) L (.int (x ||| y) :: st) σ Φ) : z_R lay mi pc L (.int y :: .int x :: st) σ Φ :=
  fun l ad cI cZ D p e s m args below meth c A H locs ls hC hK hP hD hS hL => lv_ior hC.1 hC.2.1 hd (k l ad cI cZ D p e s m args below meth c A H locs ls hC hK hP hD hS hL)
theorem z_ishl {x y : Int32} (hd : decode mi.2.1 pc = .ok (.ishl, 1)) (k : z_R lay mi (pc + 1) L (.int (x <<< (y &&& 31)) :: st) σ Φ) : z_R lay mi pc L (.int y :: .int x :: st) σ Φ :=
  fun l ad cI cZ D p e s m args below meth c A H locs ls hC hK hP hD hS hL => lv_ishl hC.1 hC.2.1 hd (k l ad cI cZ D p e s m args below meth c A H locs ls hC hK hP hD hS hL)
theorem z_ishr {x y : Int32} (hd : decode mi.2.1 pc = .ok (.ishr, 1)) (k : z_R lay mi (pc + 1) L (.int (x >>> (y &&& 31)) :: st) σ Φ) : z_R lay mi pc L (.int y :: .int x :: st) σ Φ :=
  fun l ad cI cZ D p e s m args below meth c A H locs ls hC hK hP hD hS hL => lv_ishr hC.1 hC.2.1 hd (k l ad cI cZ D p e s m args below meth c A H locs ls hC hK hP hD hS hL)
theorem z_idiv {x y : Int32} (hd : decode mi.2.1 pc = .ok (.idiv, 1)) (hy : ¬ y = 0) (k : z_R lay mi (pc + 1) L (.int (x / y) :: st) σ Φ) : z_R lay mi pc L (.int y :: .int x :: st) σ Φ :=
  fun l ad cI cZ D p e s m args below meth c A H locs ls hC hK hP hD hS hL => lv_idiv hC.1 hC.2.1 hd hy (k l ad cI cZ D p e s m args below meth c A H locs ls hC hK hP hD hS hL)
theorem z_irem {x y : Int32} (hd : decode mi.2.1 pc = .ok (.irem, 1)) (hy : ¬ y = 0) (k : z_R lay mi (pc + 1) L (.int (x - x / y * y) :: st) σ Φ) : z_R lay mi pc L (.int y :: .int x :: st) σ Φ :=
  fun l ad cI cZ D p e s m args below meth c A H locs ls hC hK hP hD hS hL => lv_irem hC.1 hC.2.1 hd hy (k l ad cI cZ D p e s m args below meth c A H locs ls hC hK hP hD hS hL)
theorem z_i2l {x : Int32} (hd : decode mi.2.1 pc = .ok (.i2l, 1)) (k : z_R lay mi (pc + 1) L (.long x.toInt64 :: st) σ Φ) : z_R lay mi pc L (.int x :: st) σ Φ :=
  fun l ad cI cZ D p e s m args below meth c A H locs ls hC hK hP hD hS hL => lv_i2l hC.1 hC.2.1 hd rfl (k l ad cI cZ D p e s m args below meth c A H locs ls hC hK hP hD hS hL)
theorem z_ladd {x y : Int64} (hd : decode mi.2.1 pc = .ok (.ladd, 1)) (k : z_R lay mi (pc + 1) L (.long (x + y) :: st) σ Φ) : z_R lay mi pc L (.long y :: .long x :: st) σ Φ :=
  fun l ad cI cZ D p e s m args below meth c A H locs ls hC hK hP hD hS hL => lv_ladd hC.1 hC.2.1 hd (k l ad cI cZ D p e s m args below meth c A H locs ls hC hK hP hD hS hL)
theorem z_lmul {x y : Int64} (hd : decode mi.2.1 pc = .ok (.lmul, 1)) (k : z_R lay mi (pc + 1) L (.long (x * y) :: st) σ Φ) : z_R lay mi pc L (.long y :: .long x :: st) σ Φ :=
  fun l ad cI cZ D p e s m args below meth c A H locs ls hC hK hP hD hS hL => lv_lmul hC.1 hC.2.1 hd (k l ad cI cZ D p e s m args below meth c A H locs ls hC hK hP hD hS hL)
theorem z_dup_i {x : Int32} (hd : decode mi.2.1 pc = .ok (.dup, 1)) (k : z_R lay mi (pc + 1) L (.int x :: .int x :: st) σ Φ) : z_R lay mi pc L (.int x :: st) σ Φ :=
  fun l ad cI cZ D p e s m args below meth c A H locs ls hC hK hP hD hS hL => lv_dup hC.1 hC.2.1 hd rfl (k l ad cI cZ D p e s m args below meth c A H locs ls hC hK hP hD hS hL)
theorem z_dup_a {x : Nat} (hd : decode mi.2.1 pc = .ok (.dup, 1)) (k : z_R lay mi (pc + 1) L (.ref x :: .ref x :: st) σ Φ) : z_R lay mi pc L (.ref x :: st) σ Φ :=
  fun l ad cI cZ D p e s m args below meth c A H locs ls hC hK hP hD hS hL => lv_dup hC.1 hC.2.1 hd rfl (k l ad cI cZ D p e s m args below meth c A H locs ls hC hK hP hD hS hL)
theorem z_pop_i {x : Int32} (hd : decode mi.2.1 pc = .ok (.pop, 1)) (k : z_R lay mi (pc + 1) L st σ Φ) : z_R lay mi pc L (.int x :: st) σ Φ :=
  fun l ad cI cZ D p e s m args below meth c A H locs ls hC hK hP hD hS hL => lv_pop hC.1 hC.2.1 hd rfl (k l ad cI cZ D p e s m args below meth c A H locs ls hC hK hP hD hS hL)
theorem z_dup2 {x : Nat} {i : Int32} (hd : decode mi.2.1 pc = .ok (.dup2, 1)) (k : z_R lay mi (pc + 1) L (.int i :: .ref x :: .int i :: .ref x :: st) σ Φ) : z_R lay mi pc L (.int i :: .ref x :: st) σ Φ :=
  fun l ad cI cZ D p e s m args below meth c A H locs ls hC hK hP hD hS hL => lv_dup2_11 hC.1 hC.2.1 hd rfl rfl (k l ad cI cZ D p e s m args below meth c A H locs ls hC hK hP hD hS hL)
theorem z_goto {off : Int} {tgt : Nat} (hd : decode mi.2.1 pc = .ok (.goto off, 3)) (ht : (pc : Int) + off = (tgt : Int)) (k : z_R lay mi tgt L st σ Φ) : z_R lay mi pc L st σ Φ :=
  fun l ad cI cZ D p e s m args below meth c A H locs ls hC hK hP hD hS hL => lv_goto hC.1 hC.2.1 hd ht (k l ad cI cZ D p e s m args below meth c A H locs ls hC hK hP hD hS hL)
end ZR
