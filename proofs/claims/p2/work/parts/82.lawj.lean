/-! the law's body: its own judgement, over both sides' cells -/
abbrev lw_A (s : State) : Nat → Prop := fun q => s.heap.size ≤ q
def lw_X (p : Program) (s : State) (m : MethodId) (meth : Method) (c : Code) (b L : Nat) (xs : Nat → Int32) (D : va_G) (cI cZ : ClassId) (KC KS : Nat) : Prop :=
  p.tables.exec = Jvm.exec ∧ c.code = code ∧ meth.sig.returnType = ret ∧ c.maxLocals = 4 ∧ s.vm.findClass R_law = some m.cls ∧ (∀ w ∈ lw_tbl, w.before #[Value.ref b] s = true) ∧ va_X b L xs s s.heap ∧ b < s.heap.size ∧ meth.locks = false ∧ va_K D vwCl (z_tys cI cZ) s ∧ z_T (lw_A s) s ∧ L ≤ 2560 ∧ KC ≤ 600000 ∧ KS ≤ 7302250
def lw_J (p : Program) (l : Launch) (e : Env) (s : State) (m : MethodId) (below : List Frame) (meth : Method) (c : Code) (b : Nat) (adX adM : Nat → Nat) (D : va_G) (cI cZ : ClassId) (KC KS : Nat) (pc i : Nat) (st : List Value) (σ μ : z_Sto) : Prop :=
  ∀ (H : Heap) (locs : List Loc) (ls : Array Slot), va_P D vwCl (z_wd layX adX cI cZ σ) H → va_D (lw_A s) (z_wd layX adX cI cZ σ) → va_P D vwCl (z_wd layM adM cI cZ μ) H → va_D (lw_A s) (z_wd layM adM cI cZ μ) → z_sep (z_wd layX adX cI cZ σ) (z_wd layM adM cI cZ μ) → va_S (lw_A s) s.heap H locs → lv_has ls 4 [(0, .ref b), (1, .ref (adX 0)), (2, .ref (adM 0)), (3, .int (nI i))] → W p l e room_1 s m #[Value.ref b] below meth c H locs KC KS (lw_Z below #[Value.ref b] s) (F0 m pc ls st)
section LWJ
variable {p : Program} {l : Launch} {e : Env} {s : State} {m : MethodId} {below : List Frame} {meth : Method} {c : Code} {b L : Nat} {xs : Nat → Int32} {adX adM : Nat → Nat} {D : va_G} {cI cZ : ClassId} {KC KS : Nat} {pc i : Nat} {st : List Value} {σ μ : z_Sto}
theorem j_ax (X : lw_X p s m meth c b L xs D cI cZ KC KS) (d : decode code pc = .ok (.aload_n 1, 1)) (k : lw_J p l e s m below meth c b adX adM D cI cZ KC KS (pc + 1) i (.ref (adX 0) :: st) σ μ) : lw_J p l e s m below meth c b adX adM D cI cZ KC KS pc i st σ μ :=
  fun H locs ls h1 h2 h3 h4 h5 h6 hl => lv_aload_n X.1 X.2.1 d rfl (lv_at hl 1 rfl) (k H locs ls h1 h2 h3 h4 h5 h6 hl)
theorem j_am (X : lw_X p s m meth c b L xs D cI cZ KC KS) (d : decode code pc = .ok (.aload_n 2, 1)) (k : lw_J p l e s m below meth c b adX adM D cI cZ KC KS (pc + 1) i (.ref (adM 0) :: st) σ μ) : lw_J p l e s m below meth c b adX adM D cI cZ KC KS pc i st σ μ :=
  fun H locs ls h1 h2 h3 h4 h5 h6 hl => lv_aload_n X.1 X.2.1 d rfl (lv_at hl 2 rfl) (k H locs ls h1 h2 h3 h4 h5 h6 hl)
theorem j_sc {k : Nat} (X : lw_X p s m meth c b L xs D cI cZ KC KS) (d0 : decode code pc = .ok (.aload_n 0, 1)) (d1 : decode code (pc + 1) = .ok (.iload_n 3, 1)) {kI : Int} (d2 : decode code (pc + 1 + 1) = .ok (.iconst kI, 1)) (hk : Int32.ofInt kI = nI k) (d3 : decode code (pc + 1 + 1 + 1) = .ok (.iadd, 1)) (d4 : decode code (pc + 1 + 1 + 1 + 1) = .ok (.iaload, 1)) (hL : i + k < L) (kk : lw_J p l e s m below meth c b adX adM D cI cZ KC KS (pc + 1 + 1 + 1 + 1 + 1) i (.int (xs (i + k)) :: st) σ μ) : lw_J p l e s m below meth c b adX adM D cI cZ KC KS pc i st σ μ := by
  intro H locs ls h1 h2 h3 h4 h5 h6 hl
  obtain ⟨x1, x2, x3, x4, x5, x6, x7, x8, x9, x10, x11, x12, x13, x14⟩ := id X
  refine lv_aload_n x1 x2 d0 rfl (lv_at hl 0 rfl) ?_
  refine lv_iload_n x1 x2 d1 rfl (lv_at hl 3 rfl) ?_
  refine lv_iconst (v := nI k) x1 x2 d2 hk ?_
  refine lv_iadd x1 x2 d3 ?_
  rw [nI_add]
  refine va_sld x1 x2 x7 x8 (Nat.not_le.mpr x8) h6 (vp_in_nI hL (by omega)) d4 ?_
  rw [nI_clamp (by omega)]
  exact kk H locs ls h1 h2 h3 h4 h5 h6 hl
theorem j_pop {x : Int32} (X : lw_X p s m meth c b L xs D cI cZ KC KS) (d : decode code pc = .ok (.pop, 1)) (k : lw_J p l e s m below meth c b adX adM D cI cZ KC KS (pc + 1) i st σ μ) : lw_J p l e s m below meth c b adX adM D cI cZ KC KS pc i (.int x :: st) σ μ :=
  fun H locs ls h1 h2 h3 h4 h5 h6 hl => lv_pop X.1 X.2.1 d rfl (k H locs ls h1 h2 h3 h4 h5 h6 hl)
theorem j_pop2 {x : Int64} (X : lw_X p s m meth c b L xs D cI cZ KC KS) (d : decode code pc = .ok (.pop2, 1)) (k : lw_J p l e s m below meth c b adX adM D cI cZ KC KS (pc + 1) i st σ μ) : lw_J p l e s m below meth c b adX adM D cI cZ KC KS pc i (.long x :: st) σ μ :=
  fun H locs ls h1 h2 h3 h4 h5 h6 hl => lv_pop2_2 X.1 X.2.1 d rfl (k H locs ls h1 h2 h3 h4 h5 h6 hl)
theorem j_iconst {n : Int} {v : Int32} (X : lw_X p s m meth c b L xs D cI cZ KC KS) (d : decode code pc = .ok (.iconst n, 1)) (hv : Int32.ofInt n = v) (k : lw_J p l e s m below meth c b adX adM D cI cZ KC KS (pc + 1) i (.int v :: st) σ μ) : lw_J p l e s m below meth c b adX adM D cI cZ KC KS pc i st σ μ :=
  fun H locs ls h1 h2 h3 h4 h5 h6 hl => lv_iconst X.1 X.2.1 d hv (k H locs ls h1 h2 h3 h4 h5 h6 hl)
theorem j_goto {off : Int} {tgt : Nat} (X : lw_X p s m meth c b L xs D cI cZ KC KS) (d : decode code pc = .ok (.goto off, 3)) (ht : (pc : Int) + off = (tgt : Int)) (k : lw_J p l e s m below meth c b adX adM D cI cZ KC KS tgt i st σ μ) : lw_J p l e s m below meth c b adX adM D cI cZ KC KS pc i st σ μ :=
  fun H locs ls h1 h2 h3 h4 h5 h6 hl => lv_goto X.1 X.2.1 d ht (k H locs ls h1 h2 h3 h4 h5 h6 hl)
theorem j_if_eq {x : Int32} {off : Int} {tgt : Nat} (X : lw_X p s m meth c b L xs D cI cZ KC KS) (d : decode code pc = .ok (.ifCond .eq off, 3)) (ht : (pc : Int) + off = (tgt : Int)) (kt : x = 0 → lw_J p l e s m below meth c b adX adM D cI cZ KC KS tgt i st σ μ) (kf : ¬ x = 0 → lw_J p l e s m below meth c b adX adM D cI cZ KC KS (pc + 3) i st σ μ) : lw_J p l e s m below meth c b adX adM D cI cZ KC KS pc i (.int x :: st) σ μ :=
  fun H locs ls h1 h2 h3 h4 h5 h6 hl => lv_if_eq X.1 X.2.1 d ht (fun q => kt q H locs ls h1 h2 h3 h4 h5 h6 hl) (fun q => kf q H locs ls h1 h2 h3 h4 h5 h6 hl)
theorem j_icmp_eq {x y : Int32} {off : Int} {tgt : Nat} (X : lw_X p s m meth c b L xs D cI cZ KC KS) (d : decode code pc = .ok (.if_icmp .eq off, 3)) (ht : (pc : Int) + off = (tgt : Int)) (hxy : x = y) (kt : lw_J p l e s m below meth c b adX adM D cI cZ KC KS tgt i st σ μ) : lw_J p l e s m below meth c b adX adM D cI cZ KC KS pc i (.int y :: .int x :: st) σ μ :=
  fun H locs ls h1 h2 h3 h4 h5 h6 hl => lv_icmp_eq X.1 X.2.1 d ht (fun _ => kt H locs ls h1 h2 h3 h4 h5 h6 hl) (fun q => absurd hxy q)
/-- a call of the class's object, with ints -/
theorem j_cx {mj : z_MI} {n index : Nat} {ns : List Int32} {Ψ : z_Post} {L' : z_Loc} (X : lw_X p s m meth c b L xs D cI cZ KC KS) (hM : z_MV mj n) (hlk : Cond.methodLink R_law index mj.1 ∈ z_tbl) (hdp : mj.2.2.2.2 ≤ 7) (hdg : decode code pc = .ok (.invokevirtual index, 3)) (hcl : RX6 = mj.1.cls) (hn : ns.length = n) (hnn : n + 1 ≤ mj.2.2.1) (hrest : (st.map (fun v => v.category)).sum ≤ 8)
    (hcal : z_R layX mj 0 L' [] σ Ψ) (hL' : L' = (.ref 0 :: ns.map Value.int).map some ++ List.replicate (mj.2.2.1 - (n + 1)) none) (hlong : ∀ r σ', Ψ r σ' → r.map (z_v adX) = r)
    (kk : ∀ r σ', Ψ r σ' → lw_J p l e s m below meth c b adX adM D cI cZ KC KS (pc + 3) i (r.toList ++ st) σ' μ) : lw_J p l e s m below meth c b adX adM D cI cZ KC KS pc i ((ns.map Value.int).reverse ++ .ref (adX 0) :: st) σ μ := by
  intro H locs ls h1 h2 h3 h4 h5 h6 hl
  obtain ⟨x1, x2, x3, x4, x5, x6, x7, x8, x9, x10, x11, x12, x13, x14⟩ := id X
  have hmap : (ns.map Value.int).map (z_v adX) = ns.map Value.int := by rw [List.map_map]; rfl
  refine z_lawV (As := ns.map Value.int) (w2 := z_wd layM adM cI cZ μ) (T := TX6) (N := 7) x1 x2 (x4.trans hl.1.symm) x5 x6 hM hlk hdp hdg (show 0 < 42 by decide) rfl (by rw [← hcl]; rfl) (by simp [z_c1, Value.category]) (by rw [List.length_map]; exact hn) hnn hrest (by rw [hmap]) hcal hL' x13 x14 x11 (fun q h => h) x10 h1 h2 h3 h5 h6 (fun r σ' H1 locs1 hΨ g1 g2 g3 g4 g5 => ?_)
  rw [hlong r σ' hΨ]
  exact kk r σ' hΨ H1 locs1 ls g1 g2 g3 h4 g4 g5 hl
theorem j_cm {mj : z_MI} {n index : Nat} {ns : List Int32} {Ψ : z_Post} {L' : z_Loc} (X : lw_X p s m meth c b L xs D cI cZ KC KS) (hM : z_MV mj n) (hlk : Cond.methodLink R_law index mj.1 ∈ z_tbl) (hdp : mj.2.2.2.2 ≤ 7) (hdg : decode code pc = .ok (.invokevirtual index, 3)) (hcl : RX7 = mj.1.cls) (hn : ns.length = n) (hnn : n + 1 ≤ mj.2.2.1) (hrest : (st.map (fun v => v.category)).sum ≤ 8)
    (hcal : z_R layM mj 0 L' [] μ Ψ) (hL' : L' = (.ref 0 :: ns.map Value.int).map some ++ List.replicate (mj.2.2.1 - (n + 1)) none) (hlong : ∀ r μ', Ψ r μ' → r.map (z_v adM) = r)
    (kk : ∀ r μ', Ψ r μ' → lw_J p l e s m below meth c b adX adM D cI cZ KC KS (pc + 3) i (r.toList ++ st) σ μ') : lw_J p l e s m below meth c b adX adM D cI cZ KC KS pc i ((ns.map Value.int).reverse ++ .ref (adM 0) :: st) σ μ := by
  intro H locs ls h1 h2 h3 h4 h5 h6 hl
  obtain ⟨x1, x2, x3, x4, x5, x6, x7, x8, x9, x10, x11, x12, x13, x14⟩ := id X
  have hmap : (ns.map Value.int).map (z_v adM) = ns.map Value.int := by rw [List.map_map]; rfl
  refine z_lawV (As := ns.map Value.int) (w2 := z_wd layX adX cI cZ σ) (T := TX7) (N := 37) x1 x2 (x4.trans hl.1.symm) x5 x6 hM hlk hdp hdg (show 0 < 32 by decide) rfl (by rw [← hcl]; rfl) (by simp [z_c1, Value.category]) (by rw [List.length_map]; exact hn) hnn hrest (by rw [hmap]) hcal hL' x13 x14 x11 (fun q h => h) x10 h3 h4 h1 h5.sym h6 (fun r μ' H1 locs1 hΨ g1 g2 g3 g4 g5 => ?_)
  rw [hlong r μ' hΨ]
  exact kk r μ' hΨ H1 locs1 ls g3 h2 g1 g2 g4.sym g5 hl
end LWJ
