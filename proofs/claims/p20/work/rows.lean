section
/-! THE STATEMENT IS FALSE AS WRITTEN: another start that meets every premise, in which the law never returns.
It is the printed witness start (start1) with one kind of array more, and the static row FIRST in a cell of that kind: its components are ints, its length and
its eight numbers are as they should be; but the kind is not the one that is called "[I", and it has a clone() of its own, at which the machine halts. -/
def rf_odd : Class := { start1.cArr "rows" 13 .int with methods := #[Lib.HandJ.method "clone" "()Ljava/lang/Object;" [] (some (.object "java/lang/Object")) 0x1 1 ⟨#[0xff]⟩] }
def rf_row : Cell := { cls := 17, slots := #[.int 1000, .int 0, .int 500, .int 60, .int 3000, .int 750, .int 12000, .int 120], vm := .none }
def rf_s : State := { start1.about with vm := { start1.about.vm with classes := start1.about.vm.classes.push rf_odd }, heap := start1.about.heap.setIfInBounds 2 rf_row }
/-! what was there of classes and methods is there still -/
theorem rf_find {n : String} {c : ClassId} (h : start1.about.vm.findClass n = some c) : rf_s.vm.findClass n = some c := by
  unfold Vm.findClass at h ⊢
  show (start1.about.vm.classes.push rf_odd).findIdx? _ = some c
  rw [Array.findIdx?_push, h]
  rfl
theorem rf_cls {c : ClassId} {k : Class} (h : start1.about.vm.classes[c]? = some k) : rf_s.vm.classes[c]? = some k := by
  show (start1.about.vm.classes.push rf_odd)[c]? = some k
  have hc : c < start1.about.vm.classes.size := (Array.getElem?_eq_some_iff.mp h).1
  rw [Array.getElem?_push, if_neg (Nat.ne_of_lt hc)]
  exact h
theorem rf_meth {x : MethodName} {meth : Method} (h : (start1.about.methodNamed? x).bind start1.about.vm.method? = some meth) : (rf_s.methodNamed? x).bind rf_s.vm.method? = some meth := by
  obtain ⟨m, h1, h2⟩ := Option.bind_eq_some_iff.mp h
  unfold State.methodNamed? at h1
  obtain ⟨c, f1, h1⟩ := Option.bind_eq_some_iff.mp h1
  obtain ⟨k, f2, h1⟩ := Option.bind_eq_some_iff.mp h1
  obtain ⟨i, f3, h1⟩ := Option.bind_eq_some_iff.mp h1
  cases h1
  unfold Vm.method? at h2
  obtain ⟨k2, g2, h2⟩ := Option.bind_eq_some_iff.mp h2
  refine Option.bind_eq_some_iff.mpr ⟨⟨c, i⟩, ?_, ?_⟩
  · unfold State.methodNamed?
    exact Option.bind_eq_some_iff.mpr ⟨c, rf_find f1, Option.bind_eq_some_iff.mpr ⟨k, rf_cls f2, Option.bind_eq_some_iff.mpr ⟨i, f3, rfl⟩⟩⟩
  · unfold Vm.method?
    exact Option.bind_eq_some_iff.mpr ⟨k2, rf_cls g2, h2⟩
theorem rf_code {c : Cond} (hc : su_isCode c = true) (h : c.before start1.args0 start1.about = true) : c.before start1.args0 rf_s = true := by
  cases c with
  | code y b n r =>
    simp only [Cond.before, Cond.holds, Cond.value] at h ⊢
    cases q : (start1.about.methodNamed? y).bind start1.about.vm.method? with
    | none => rw [q] at h; cases h
    | some meth =>
      rw [q] at h
      rw [rf_meth q]
      exact h
  | _ => exact absurd hc Bool.false_ne_true
/-! every other word, looked at -/
def rf_ok (c : Cond) : Bool := su_isCode c || c.before start1.args0 rf_s
theorem rf_cut (f : Cond → Bool) (l : List Cond) (n : Nat) (h1 : (l.take n).all f = true) (h2 : (l.drop n).all f = true) : l.all f = true := by
  rw [← List.take_append_drop n l, List.all_append, h1, h2]
  rfl
set_option maxRecDepth 16384 in
theorem rf_o_1_0 : ((tables_1_1.drop 0).take 40).all rf_ok = true := by decide +kernel
set_option maxRecDepth 16384 in
theorem rf_o_1_1 : ((tables_1_1.drop 40).take 40).all rf_ok = true := by decide +kernel
set_option maxRecDepth 16384 in
theorem rf_o_1_2 : ((tables_1_1.drop 80).take 40).all rf_ok = true := by decide +kernel
set_option maxRecDepth 16384 in
theorem rf_o_1_3 : ((tables_1_1.drop 120).take 40).all rf_ok = true := by decide +kernel
set_option maxRecDepth 16384 in
theorem rf_o_1_4 : ((tables_1_1.drop 160).take 40).all rf_ok = true := by decide +kernel
set_option maxRecDepth 16384 in
theorem rf_o_1_5 : ((tables_1_1.drop 200).take 40).all rf_ok = true := by decide +kernel
set_option maxRecDepth 16384 in
theorem rf_o_1_6 : ((tables_1_1.drop 240).take 40).all rf_ok = true := by decide +kernel
set_option maxRecDepth 16384 in
theorem rf_o_1_7 : ((tables_1_1.drop 280).take 40).all rf_ok = true := by decide +kernel
set_option maxRecDepth 16384 in
theorem rf_o_1_8 : (tables_1_1.drop 320).all rf_ok = true := by decide +kernel
theorem rf_o_1 : tables_1_1.all rf_ok = true := by
  refine rf_cut _ _ 40 rf_o_1_0 ?_
  refine rf_cut _ _ 40 rf_o_1_1 ?_
  rw [List.drop_drop]
  refine rf_cut _ _ 40 rf_o_1_2 ?_
  rw [List.drop_drop]
  refine rf_cut _ _ 40 rf_o_1_3 ?_
  rw [List.drop_drop]
  refine rf_cut _ _ 40 rf_o_1_4 ?_
  rw [List.drop_drop]
  refine rf_cut _ _ 40 rf_o_1_5 ?_
  rw [List.drop_drop]
  refine rf_cut _ _ 40 rf_o_1_6 ?_
  rw [List.drop_drop]
  refine rf_cut _ _ 40 rf_o_1_7 ?_
  rw [List.drop_drop]
  exact rf_o_1_8
set_option maxRecDepth 16384 in
theorem rf_o_2_0 : ((tables_1_2.drop 0).take 40).all rf_ok = true := by decide +kernel
set_option maxRecDepth 16384 in
theorem rf_o_2_1 : ((tables_1_2.drop 40).take 40).all rf_ok = true := by decide +kernel
set_option maxRecDepth 16384 in
theorem rf_o_2_2 : ((tables_1_2.drop 80).take 40).all rf_ok = true := by decide +kernel
set_option maxRecDepth 16384 in
theorem rf_o_2_3 : ((tables_1_2.drop 120).take 40).all rf_ok = true := by decide +kernel
set_option maxRecDepth 16384 in
theorem rf_o_2_4 : ((tables_1_2.drop 160).take 40).all rf_ok = true := by decide +kernel
set_option maxRecDepth 16384 in
theorem rf_o_2_5 : ((tables_1_2.drop 200).take 40).all rf_ok = true := by decide +kernel
set_option maxRecDepth 16384 in
theorem rf_o_2_6 : ((tables_1_2.drop 240).take 40).all rf_ok = true := by decide +kernel
set_option maxRecDepth 16384 in
theorem rf_o_2_7 : ((tables_1_2.drop 280).take 40).all rf_ok = true := by decide +kernel
set_option maxRecDepth 16384 in
theorem rf_o_2_8 : (tables_1_2.drop 320).all rf_ok = true := by decide +kernel
theorem rf_o_2 : tables_1_2.all rf_ok = true := by
  refine rf_cut _ _ 40 rf_o_2_0 ?_
  refine rf_cut _ _ 40 rf_o_2_1 ?_
  rw [List.drop_drop]
  refine rf_cut _ _ 40 rf_o_2_2 ?_
  rw [List.drop_drop]
  refine rf_cut _ _ 40 rf_o_2_3 ?_
  rw [List.drop_drop]
  refine rf_cut _ _ 40 rf_o_2_4 ?_
  rw [List.drop_drop]
  refine rf_cut _ _ 40 rf_o_2_5 ?_
  rw [List.drop_drop]
  refine rf_cut _ _ 40 rf_o_2_6 ?_
  rw [List.drop_drop]
  refine rf_cut _ _ 40 rf_o_2_7 ?_
  rw [List.drop_drop]
  exact rf_o_2_8
set_option maxRecDepth 16384 in
theorem rf_o_3_0 : ((tables_1_3.drop 0).take 40).all rf_ok = true := by decide +kernel
set_option maxRecDepth 16384 in
theorem rf_o_3_1 : ((tables_1_3.drop 40).take 40).all rf_ok = true := by decide +kernel
set_option maxRecDepth 16384 in
theorem rf_o_3_2 : ((tables_1_3.drop 80).take 40).all rf_ok = true := by decide +kernel
set_option maxRecDepth 16384 in
theorem rf_o_3_3 : ((tables_1_3.drop 120).take 40).all rf_ok = true := by decide +kernel
set_option maxRecDepth 16384 in
theorem rf_o_3_4 : ((tables_1_3.drop 160).take 40).all rf_ok = true := by decide +kernel
set_option maxRecDepth 16384 in
theorem rf_o_3_5 : ((tables_1_3.drop 200).take 40).all rf_ok = true := by decide +kernel
set_option maxRecDepth 16384 in
theorem rf_o_3_6 : ((tables_1_3.drop 240).take 40).all rf_ok = true := by decide +kernel
set_option maxRecDepth 16384 in
theorem rf_o_3_7 : ((tables_1_3.drop 280).take 40).all rf_ok = true := by decide +kernel
set_option maxRecDepth 16384 in
theorem rf_o_3_8 : (tables_1_3.drop 320).all rf_ok = true := by decide +kernel
theorem rf_o_3 : tables_1_3.all rf_ok = true := by
  refine rf_cut _ _ 40 rf_o_3_0 ?_
  refine rf_cut _ _ 40 rf_o_3_1 ?_
  rw [List.drop_drop]
  refine rf_cut _ _ 40 rf_o_3_2 ?_
  rw [List.drop_drop]
  refine rf_cut _ _ 40 rf_o_3_3 ?_
  rw [List.drop_drop]
  refine rf_cut _ _ 40 rf_o_3_4 ?_
  rw [List.drop_drop]
  refine rf_cut _ _ 40 rf_o_3_5 ?_
  rw [List.drop_drop]
  refine rf_cut _ _ 40 rf_o_3_6 ?_
  rw [List.drop_drop]
  refine rf_cut _ _ 40 rf_o_3_7 ?_
  rw [List.drop_drop]
  exact rf_o_3_8
set_option maxRecDepth 16384 in
theorem rf_o_4_0 : ((tables_1_4.drop 0).take 40).all rf_ok = true := by decide +kernel
set_option maxRecDepth 16384 in
theorem rf_o_4_1 : ((tables_1_4.drop 40).take 40).all rf_ok = true := by decide +kernel
set_option maxRecDepth 16384 in
theorem rf_o_4_2 : ((tables_1_4.drop 80).take 40).all rf_ok = true := by decide +kernel
set_option maxRecDepth 16384 in
theorem rf_o_4_3 : ((tables_1_4.drop 120).take 40).all rf_ok = true := by decide +kernel
set_option maxRecDepth 16384 in
theorem rf_o_4_4 : ((tables_1_4.drop 160).take 40).all rf_ok = true := by decide +kernel
set_option maxRecDepth 16384 in
theorem rf_o_4_5 : ((tables_1_4.drop 200).take 40).all rf_ok = true := by decide +kernel
set_option maxRecDepth 16384 in
theorem rf_o_4_6 : ((tables_1_4.drop 240).take 40).all rf_ok = true := by decide +kernel
set_option maxRecDepth 16384 in
theorem rf_o_4_7 : ((tables_1_4.drop 280).take 40).all rf_ok = true := by decide +kernel
set_option maxRecDepth 16384 in
theorem rf_o_4_8 : (tables_1_4.drop 320).all rf_ok = true := by decide +kernel
theorem rf_o_4 : tables_1_4.all rf_ok = true := by
  refine rf_cut _ _ 40 rf_o_4_0 ?_
  refine rf_cut _ _ 40 rf_o_4_1 ?_
  rw [List.drop_drop]
  refine rf_cut _ _ 40 rf_o_4_2 ?_
  rw [List.drop_drop]
  refine rf_cut _ _ 40 rf_o_4_3 ?_
  rw [List.drop_drop]
  refine rf_cut _ _ 40 rf_o_4_4 ?_
  rw [List.drop_drop]
  refine rf_cut _ _ 40 rf_o_4_5 ?_
  rw [List.drop_drop]
  refine rf_cut _ _ 40 rf_o_4_6 ?_
  rw [List.drop_drop]
  refine rf_cut _ _ 40 rf_o_4_7 ?_
  rw [List.drop_drop]
  exact rf_o_4_8
theorem rf_words : ∀ c ∈ (Cond.code x code maxLocals ret :: tables_1), c.before start1.args0 rf_s = true := by
  intro c hc
  have old := start1.words c hc
  cases hq : su_isCode c with
  | true => exact rf_code hq old
  | false =>
    have key : rf_ok c = true := by
      rcases List.mem_cons.mp hc with h | h
      · rw [h] at hq; cases hq
      · have h1 : c ∈ tables_1_1 ++ (tables_1_2 ++ (tables_1_3 ++ tables_1_4)) := h
        rcases List.mem_append.mp h1 with h2 | h1
        · exact List.all_eq_true.mp rf_o_1 c h2
        rcases List.mem_append.mp h1 with h2 | h1
        · exact List.all_eq_true.mp rf_o_2 c h2
        rcases List.mem_append.mp h1 with h2 | h1
        · exact List.all_eq_true.mp rf_o_3 c h2
        exact List.all_eq_true.mp rf_o_4 c h1
    unfold rf_ok at key
    rw [hq] at key
    exact key
/-! this start meets every premise -/
set_option maxRecDepth 16384 in
theorem rf_args : argsFit rf_s.vm ⟨0, 0⟩ start1.args0 = true := by decide +kernel
set_option maxRecDepth 16384 in
theorem rf_heap : heapFits rf_s = true := by decide +kernel
set_option maxRecDepth 16384 in
theorem rf_rest : rest_1_c.before start1.args0 rf_s = true := by decide +kernel
set_option maxRecDepth 16384 in
theorem rf_pre : (Cond.and given_1 narrow_1).before start1.args0 rf_s = true := by decide +kernel
set_option maxRecDepth 16384 in
theorem rf_applies : (headSpec (Cond.code x code maxLocals ret :: tables_1) room_1).applies x start1.e0.platform rf_s = true :=
  (Spec.applies_iff rfl).mpr ⟨rfl, rfl, rfl, by decide +kernel, by decide +kernel, by decide +kernel, launch0.hasRoom_least _ room_1 (by decide +kernel) (by decide +kernel) (by decide +kernel) (by decide +kernel) (by decide +kernel) (by decide +kernel), atoms_intro rf_words⟩
/-! and there the law comes to no end: behind 18 steps the machine has halted, inside that clone() -/
set_option maxRecDepth 100000 in
theorem rf_at18 : decide ((stepsAlone start1.p0.tables start1.e0 18 rf_s).status = .running) = false := by decide +kernel
set_option maxRecDepth 100000 in
theorem rf_before : (List.range 18).all (fun n => decide (1 < (stepsAlone start1.p0.tables start1.e0 n rf_s).frames.length)) = true := by decide +kernel
theorem rf_never (n : Nat) (o : Outcome) (ho : ∀ a, o ≠ .threw a) (hr : (stepsAlone start1.p0.tables start1.e0 n rf_s).status = .running) (he : Ended (stepsAlone start1.p0.tables start1.e0 n rf_s) Lib.HandBits.below0 o) : False := by
  by_cases h : n < 18
  · have h2 := of_decide_eq_true (List.all_eq_true.mp rf_before n (List.mem_range.mpr h))
    cases o with
    | threw a => exact ho a rfl
    | returned v =>
      have h3 : (stepsAlone start1.p0.tables start1.e0 n rf_s).frames.length = 1 := by
        have he' : (stepsAlone start1.p0.tables start1.e0 n rf_s).frames = _ := he
        rw [he']
        rfl
      omega
  · obtain ⟨k, rfl⟩ : ∃ k, n = 18 + k := ⟨n - 18, by omega⟩
    have h18 := of_decide_eq_false rf_at18
    rw [stepsAlone_add, stepsAlone_of_not_goesOn _ _ (fun g => h18 g.1)] at hr
    exact h18 hr
theorem rf_refuted_1 : ¬ Claimed_1_1 := by
  intro h
  obtain ⟨n, o, hw, hr, he, hp, -⟩ := h launch0 rfl lists_1 trivial start1.p0 start1.e0 (launch0.admits_env _ _ _) fairChoices_fair.cas fairChoices_fair.clock rf_s ⟨0, 0⟩ start1.args0 Lib.HandBits.below0 rfl rf_args rf_heap rf_applies ⟨trivial, rf_rest, rf_pre⟩
  refine rf_never n o (fun a ha => ?_) hr he
  subst ha
  have : (limb_1_1).after start1.args0 rf_s (.threw a) (stepsAlone start1.p0.tables start1.e0 n rf_s) = true := hp
  simp [limb_1_1, Cond.after, Cond.holds, Cond.value] at this
theorem rf_refuted : ¬ (Claimed_1_1 ∧ Claimed_1_2) := fun h => rf_refuted_1 h.1
end
