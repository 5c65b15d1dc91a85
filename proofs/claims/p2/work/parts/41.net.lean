/-! Net: rows, letters -/
set_option maxRecDepth 20000 in
theorem c_X2_lenl {σ : z_Sto} {l : List Nat} {k : Nat} (hl : y_ok l) (hk : k ≤ l.length) : z_R layX iX2_lengthOf 2 [some (.int (nI (y_code l))), some (.int (nI k))] [] σ (fun r σ' => r = some (.int (nI l.length)) ∧ σ' = σ) := by
  have h5 := y_len hl
  have hb := y_code_b hl
  generalize hf : l.length - k = f
  induction f using Nat.strongRecOn generalizing k
  rename_i f ih
  refine z_iload_n (pc := 2) dX2_lengthOf_2 rfl ?_
  refine z_iconst (pc := 3) (v := (nI 5)) dX2_lengthOf_3 (by decide) ?_
  refine z_icmp_ge (pc := 4) (tgt := 21) dX2_lengthOf_4 (by decide) (fun h4 => ?_) (fun h4 => ?_)
  · have q4 : k = l.length := by have := (nI_leI (by decide) (by omega)).mp h4; omega
    refine z_iload_n (pc := 21) dX2_lengthOf_21 rfl ?_
    exact z_ireturn (pc := 22) dX2_lengthOf_22 rfl rfl (⟨by rw [q4], rfl⟩)
  · have q4 : k < 5 := by have : ¬ 5 ≤ k := fun q => h4 ((nI_leI (by decide) (by omega)).mpr q); omega
    refine z_iload_n (pc := 7) dX2_lengthOf_7 rfl ?_
    refine z_iconst (pc := 8) (v := (nI 3)) dX2_lengthOf_8 (by decide) ?_
    refine z_iload_n (pc := 9) dX2_lengthOf_9 rfl ?_
    refine z_imulN (pc := 10) dX2_lengthOf_10 ?_
    refine z_ishr (pc := 11) dX2_lengthOf_11 ?_
    rw [x_shr3 (by omega) q4, y_code_drop k l hl.2]
    refine z_if_eq (pc := 12) (tgt := 21) dX2_lengthOf_12 (by decide) (fun h12 => ?_) (fun h12 => ?_)
    · have q4 : k = l.length := by have e : y_code (l.drop k) = 0 := z_nI_inj (Nat.lt_of_le_of_lt (by rw [← y_code_drop k l hl.2]; exact Nat.div_le_self _ _) (show y_code l < 2 ^ 31 by omega)) (by decide) h12; have := List.drop_eq_nil_iff.mp (y_code_0.mp e); omega
      refine z_iload_n (pc := 21) dX2_lengthOf_21 rfl ?_
      exact z_ireturn (pc := 22) dX2_lengthOf_22 rfl rfl (⟨by rw [q4], rfl⟩)
    · have q12 : k < l.length := by rcases Nat.lt_or_ge k l.length with g | g; exact g; exact absurd (by rw [List.drop_eq_nil_iff.mpr g]; rfl) h12
      refine z_iincN (pc := 15) dX2_lengthOf_15 rfl (by decide) rfl rfl ?_
      refine z_goto (pc := 18) (tgt := 2) dX2_lengthOf_18 (by decide) ?_
      exact ih _ (by omega) (k := k + 1) (by omega) rfl
set_option maxRecDepth 20000 in
theorem c_X2_lengthOf {σ : z_Sto} {l : List Nat} (hl : y_ok l) : z_R layX iX2_lengthOf 0 [some (.int (nI (y_code l))), none] [] σ (fun r σ' => r = some (.int (nI l.length)) ∧ σ' = σ) := by
  refine z_iconst (pc := 0) (v := (nI 0)) dX2_lengthOf_0 (by decide) ?_
  refine z_istore_n (pc := 1) dX2_lengthOf_1 (by decide) rfl rfl ?_
  exact c_X2_lenl (k := 0) hl (by omega)
set_option maxRecDepth 20000 in
theorem c_X2_hol {σ : z_Sto} {l : List Nat} {h k : Nat} (hl : y_ok l) (hh : h < 5) (hk : k ≤ 5) (hno : ∀ j, j < k → l[j]? ≠ some h) : z_R layX iX2_holds 2 [some (.int (nI (y_code l))), some (.int (nI h)), some (.int (nI k))] [] σ (fun r σ' => r = some (.int (if h ∈ l then nI 1 else nI 0)) ∧ σ' = σ) := by
  have h5 := y_len hl
  have hb := y_code_b hl
  generalize hf : 5 - k = f
  induction f using Nat.strongRecOn generalizing k
  rename_i f ih
  refine z_iload_n (pc := 2) dX2_holds_2 rfl ?_
  refine z_iconst (pc := 3) (v := (nI 5)) dX2_holds_3 (by decide) ?_
  refine z_icmp_ge (pc := 4) (tgt := 29) dX2_holds_4 (by decide) (fun h4 => ?_) (fun h4 => ?_)
  · have q4 : h ∉ l := fun g => by obtain ⟨j, hj⟩ := List.mem_iff_getElem?.mp g; have := (nI_leI (by decide) (by omega)).mp h4; exact hno j (by have := (List.getElem?_eq_some_iff.mp hj).1; omega) hj
    refine z_iconst (pc := 29) (v := (nI 0)) dX2_holds_29 (by decide) ?_
    exact z_ireturn (pc := 30) dX2_holds_30 rfl (by decide) (⟨by rw [if_neg q4], rfl⟩)
  · have q4 : k < 5 := by have : ¬ 5 ≤ k := fun q => h4 ((nI_leI (by decide) (by omega)).mpr q); omega
    refine z_iload_n (pc := 7) dX2_holds_7 rfl ?_
    refine z_iconst (pc := 8) (v := (nI 3)) dX2_holds_8 (by decide) ?_
    refine z_iload_n (pc := 9) dX2_holds_9 rfl ?_
    refine z_imulN (pc := 10) dX2_holds_10 ?_
    refine z_ishr (pc := 11) dX2_holds_11 ?_
    rw [x_shr3 (by omega) q4]
    refine z_bipush (pc := 12) (v := (nI 7)) dX2_holds_12 (by decide) ?_
    refine z_iand (pc := 14) dX2_holds_14 ?_
    rw [x_and7 (Nat.lt_of_le_of_lt (Nat.div_le_self _ _) (show y_code l < 2 ^ 31 by omega))]
    refine z_iload_n (pc := 15) dX2_holds_15 rfl ?_
    refine z_iconst (pc := 16) (v := (nI 1)) dX2_holds_16 (by decide) ?_
    refine z_iaddN (pc := 17) dX2_holds_17 ?_
    refine z_icmp_ne (pc := 18) (tgt := 23) dX2_holds_18 (by decide) (fun h18 => ?_) (fun h18 => ?_)
    · have q18 : l[k]? ≠ some h := fun g => h18 (by rw [(y_mem_drop hl.2 hh k).mpr g])
      refine z_iincN (pc := 23) dX2_holds_23 rfl (by decide) rfl rfl ?_
      refine z_goto (pc := 26) (tgt := 2) dX2_holds_26 (by decide) ?_
      exact ih _ (by omega) (k := k + 1) (by omega) (fun j hj => by rcases Nat.lt_or_ge j k with g | g; exact hno j g; rw [show j = k by omega]; exact q18) rfl
    · have q18 : l[k]? = some h := (y_mem_drop hl.2 hh k).mp (z_nI_inj (by omega) (by omega) h18)
      refine z_iconst (pc := 21) (v := (nI 1)) dX2_holds_21 (by decide) ?_
      exact z_ireturn (pc := 22) dX2_holds_22 rfl (by decide) (⟨by rw [if_pos (List.mem_of_getElem? q18)], rfl⟩)
set_option maxRecDepth 20000 in
theorem c_X2_holds {σ : z_Sto} {l : List Nat} {h : Nat} (hl : y_ok l) (hh : h < 5) : z_R layX iX2_holds 0 [some (.int (nI (y_code l))), some (.int (nI h)), none] [] σ (fun r σ' => r = some (.int (if h ∈ l then nI 1 else nI 0)) ∧ σ' = σ) := by
  refine z_iconst (pc := 0) (v := (nI 0)) dX2_holds_0 (by decide) ?_
  refine z_istore_n (pc := 1) dX2_holds_1 (by decide) rfl rfl ?_
  exact c_X2_hol (k := 0) hl hh (by omega) (fun j hj => absurd hj (by omega))
set_option maxRecDepth 20000 in
theorem c_X2_goalRow {σ : z_Sto} : z_R layX iX2_goalRow 0 [some (.ref 35)] [] σ (fun r σ' => r = some (.int (nI (y_code (if σ 35 10 = 0 then [0] else [])))) ∧ σ' = σ) := by
  refine z_aload_n (pc := 0) dX2_goalRow_0 rfl ?_
  refine z_getI (pc := 1) f_X2_44 dX2_goalRow_1 (by decide) rfl rfl ?_
  refine z_if_eq (pc := 4) (tgt := 11) dX2_goalRow_4 (by decide) (fun h4 => ?_) (fun h4 => ?_)
  · refine z_iconst (pc := 11) (v := (nI 1)) dX2_goalRow_11 (by decide) ?_
    exact z_ireturn (pc := 12) dX2_goalRow_12 rfl rfl (⟨by first | (rw [if_pos h4]; rfl) | (rw [if_neg h4]; rfl), rfl⟩)
  · refine z_iconst (pc := 7) (v := (nI 0)) dX2_goalRow_7 (by decide) ?_
    refine z_goto (pc := 8) (tgt := 12) dX2_goalRow_8 (by decide) ?_
    exact z_ireturn (pc := 12) dX2_goalRow_12 rfl rfl (⟨by first | (rw [if_pos h4]; rfl) | (rw [if_neg h4]; rfl), rfl⟩)
set_option maxRecDepth 20000 in
theorem c_X2_sho63 {σ : z_Sto} {h i : Nat} {b : List Nat} {v4 : Option Value} (hh : h < 5) (hb : y_ok b) : z_R layX iX2_shortestRow 63 [some (.ref 35), some (.int (nI h)), some (.int (nI (y_code b))), some (.int (nI i)), v4] [] σ (fun r σ' => r = some (.int (nI (y_code (y_put h b)))) ∧ σ' = σ) := by
  have hc := y_code_b hb
  refine z_iload_n (pc := 63) dX2_shortestRow_63 rfl ?_
  refine z_if_ne (pc := 64) (tgt := 71) dX2_shortestRow_64 (by decide) (fun h64 => ?_) (fun h64 => ?_)
  · have q64 : b ≠ [] := fun g => h64 (by rw [g]; rfl)
    refine z_iload_n (pc := 71) dX2_shortestRow_71 rfl ?_
    refine z_iconst (pc := 72) (v := (nI 3)) dX2_shortestRow_72 (by decide) ?_
    refine z_ishl (pc := 73) dX2_shortestRow_73 ?_
    rw [x_shl8 hc]
    refine z_iload_n (pc := 74) dX2_shortestRow_74 rfl ?_
    refine z_iconst (pc := 75) (v := (nI 1)) dX2_shortestRow_75 (by decide) ?_
    refine z_iaddN (pc := 76) dX2_shortestRow_76 ?_
    refine z_ior (pc := 77) dX2_shortestRow_77 ?_
    rw [x_or8 hh]
    exact z_ireturn (pc := 78) dX2_shortestRow_78 rfl rfl (⟨by first | (rw [y_put, if_pos q64]; rfl) | (rw [y_put, if_neg q64]; rfl), rfl⟩)
  · have q64 : b = [] := y_code_0.mp (z_nI_inj (by omega) (by decide) h64)
    refine z_iconst (pc := 67) (v := (nI 0)) dX2_shortestRow_67 (by decide) ?_
    refine z_goto (pc := 68) (tgt := 78) dX2_shortestRow_68 (by decide) ?_
    exact z_ireturn (pc := 78) dX2_shortestRow_78 rfl rfl (⟨by first | (rw [y_put, if_pos q64]; rfl) | (rw [y_put, if_neg q64]; rfl), rfl⟩)
set_option maxRecDepth 20000 in
theorem c_X2_shol {σ : z_Sto} {T : Nat → List Nat} {h i : Nat} {b : List Nat} {v4 : Option Value} (hT : x_told_ok σ T) (hh : h < 5) (hi : i ≤ 5) (hb : y_ok b ∧ h ∉ b) : z_R layX iX2_shortestRow 4 [some (.ref 35), some (.int (nI h)), some (.int (nI (y_code b))), some (.int (nI i)), v4] [] σ (fun r σ' => r = some (.int (nI (y_code (y_put h (y_best T h (5 - i) i b))))) ∧ σ' = σ) := by
  generalize hf : 5 - i = f
  induction f using Nat.strongRecOn generalizing i b v4
  rename_i f ih
  refine z_iload_n (pc := 4) dX2_shortestRow_4 rfl ?_
  refine z_iconst (pc := 5) (v := (nI 5)) dX2_shortestRow_5 (by decide) ?_
  refine z_icmp_ge (pc := 6) (tgt := 63) dX2_shortestRow_6 (by decide) (fun h6 => ?_) (fun h6 => ?_)
  · have q6 : f = 0 := by have := (nI_leI (by decide) (by omega)).mp h6; omega
    exact (c_X2_sho63 hh hb.1).mono (fun r σ' k => ⟨k.1.trans (by rw [q6]; rfl), k.2⟩)
  · have q6 : i < 5 := by have : ¬ 5 ≤ i := fun q => h6 ((nI_leI (by decide) (by omega)).mpr q); omega
    have hf1 : f = (5 - (i + 1)) + 1 := by omega
    have hTp := hT.1 (h * 5 + i) (by omega)
    have hcp := y_code_b hTp
    have hcb := y_code_b hb.1
    have hb' := y_b1_ok hT.1 hh q6 hb
    refine z_aload_n (pc := 9) dX2_shortestRow_9 rfl ?_
    refine z_getA (pc := 10) f_X2_15 dX2_shortestRow_10 (by decide) rfl rfl ?_
    refine z_iload_n (pc := 13) dX2_shortestRow_13 rfl ?_
    refine z_iload_n (pc := 14) dX2_shortestRow_14 rfl ?_
    refine z_cS2 (pc := 15) mX2_place l_X2_48 (by decide) dX2_shortestRow_15 (by decide) (Nat.le_of_ble_eq_true rfl) (c_X2_place) rfl (fun r15 σ15 hr15 => ?_)
    obtain ⟨rfl, rfl⟩ := hr15
    refine z_ialdN (pc := 18) dX2_shortestRow_18 (by decide) rfl (by decide) (by omega) ?_
    rw [hT.2 _ (by omega)]
    refine z_istore (pc := 19) dX2_shortestRow_19 (by decide) rfl rfl ?_
    refine z_iload (pc := 21) dX2_shortestRow_21 rfl ?_
    refine z_if_eq (pc := 23) (tgt := 57) dX2_shortestRow_23 (by decide) (fun h23 => ?_) (fun h23 => ?_)
    · have q23 : y_b1 T h i b = b := by rw [y_b1, if_pos (Or.inl (y_code_0.mp (z_nI_inj (by omega) (by decide) h23)))]
      refine z_iincN (pc := 57) dX2_shortestRow_57 rfl (by decide) rfl rfl ?_
      refine z_goto (pc := 60) (tgt := 4) dX2_shortestRow_60 (by decide) ?_
      exact (ih _ (by omega) (i := i + 1) (b := y_b1 T h i b) (by omega) hb' rfl) |> fun g => by rw [q23] at g; exact g.mono (fun r σ' k => ⟨k.1.trans (by rw [hf1, y_best, q23]), k.2⟩)
    · have q23 : ¬ T (h * 5 + i) = [] := fun g => h23 (by rw [g]; rfl)
      refine z_iload (pc := 26) dX2_shortestRow_26 rfl ?_
      refine z_iload_n (pc := 28) dX2_shortestRow_28 rfl ?_
      refine z_cS2 (pc := 29) mX2_holds l_X2_72 (by decide) dX2_shortestRow_29 (by decide) (Nat.le_of_ble_eq_true rfl) (c_X2_holds hTp hh) rfl (fun r29 σ29 hr29 => ?_)
      obtain ⟨rfl, rfl⟩ := hr29
      refine z_if_eq (pc := 32) (tgt := 38) dX2_shortestRow_32 (by decide) (fun h32 => ?_) (fun h32 => ?_)
      · have q32 : h ∉ T (h * 5 + i) := fun g => absurd (by rw [if_pos g] at h32; exact h32) (by decide)
        have q3 : ¬ (T (h * 5 + i) = [] ∨ h ∈ T (h * 5 + i)) := fun g => g.elim q23 q32
        refine z_iload_n (pc := 38) dX2_shortestRow_38 rfl ?_
        refine z_if_eq (pc := 39) (tgt := 54) dX2_shortestRow_39 (by decide) (fun h39 => ?_) (fun h39 => ?_)
        · have q39 : b = [] := y_code_0.mp (z_nI_inj (by omega) (by decide) h39)
          have q23 : y_b1 T h i b = T (h * 5 + i) := by rw [y_b1, if_neg q3, if_pos (Or.inl q39)]
          refine z_iload (pc := 54) dX2_shortestRow_54 rfl ?_
          refine z_istore_n (pc := 56) dX2_shortestRow_56 (by decide) rfl rfl ?_
          refine z_iincN (pc := 57) dX2_shortestRow_57 rfl (by decide) rfl rfl ?_
          refine z_goto (pc := 60) (tgt := 4) dX2_shortestRow_60 (by decide) ?_
          exact (ih _ (by omega) (i := i + 1) (b := y_b1 T h i b) (by omega) hb' rfl) |> fun g => by rw [q23] at g; exact g.mono (fun r σ' k => ⟨k.1.trans (by rw [hf1, y_best, q23]), k.2⟩)
        · have q39 : ¬ b = [] := fun g => h39 (by rw [g]; rfl)
          have hl1 := y_len hTp
          have hl2 := y_len hb.1
          refine z_iload (pc := 42) dX2_shortestRow_42 rfl ?_
          refine z_cS1 (pc := 44) mX2_lengthOf l_X2_76 (by decide) dX2_shortestRow_44 (by decide) (Nat.le_of_ble_eq_true rfl) (c_X2_lengthOf hTp) rfl (fun r44 σ44 hr44 => ?_)
          obtain ⟨rfl, rfl⟩ := hr44
          refine z_iload_n (pc := 47) dX2_shortestRow_47 rfl ?_
          refine z_cS1 (pc := 48) mX2_lengthOf l_X2_76 (by decide) dX2_shortestRow_48 (by decide) (Nat.le_of_ble_eq_true rfl) (c_X2_lengthOf hb.1) rfl (fun r48 σ48 hr48 => ?_)
          obtain ⟨rfl, rfl⟩ := hr48
          refine z_icmp_ge (pc := 51) (tgt := 57) dX2_shortestRow_51 (by decide) (fun h51 => ?_) (fun h51 => ?_)
          · have q51 : ¬ (T (h * 5 + i)).length < b.length := by have := (nI_leI (by omega) (by omega)).mp h51; omega
            have q23 : y_b1 T h i b = b := by rw [y_b1, if_neg q3, if_neg (fun g => g.elim q39 q51)]
            refine z_iincN (pc := 57) dX2_shortestRow_57 rfl (by decide) rfl rfl ?_
            refine z_goto (pc := 60) (tgt := 4) dX2_shortestRow_60 (by decide) ?_
            exact (ih _ (by omega) (i := i + 1) (b := y_b1 T h i b) (by omega) hb' rfl) |> fun g => by rw [q23] at g; exact g.mono (fun r σ' k => ⟨k.1.trans (by rw [hf1, y_best, q23]), k.2⟩)
          · have q51 : (T (h * 5 + i)).length < b.length := by have : ¬ b.length ≤ (T (h * 5 + i)).length := fun q => h51 ((nI_leI (by omega) (by omega)).mpr q); omega
            have q23 : y_b1 T h i b = T (h * 5 + i) := by rw [y_b1, if_neg q3, if_pos (Or.inr q51)]
            refine z_iload (pc := 54) dX2_shortestRow_54 rfl ?_
            refine z_istore_n (pc := 56) dX2_shortestRow_56 (by decide) rfl rfl ?_
            refine z_iincN (pc := 57) dX2_shortestRow_57 rfl (by decide) rfl rfl ?_
            refine z_goto (pc := 60) (tgt := 4) dX2_shortestRow_60 (by decide) ?_
            exact (ih _ (by omega) (i := i + 1) (b := y_b1 T h i b) (by omega) hb' rfl) |> fun g => by rw [q23] at g; exact g.mono (fun r σ' k => ⟨k.1.trans (by rw [hf1, y_best, q23]), k.2⟩)
      · have q32 : h ∈ T (h * 5 + i) := by (by_cases g : h ∈ T (h * 5 + i); exact g; exact absurd (by rw [if_neg g]; rfl) h32)
        have q23 : y_b1 T h i b = b := by rw [y_b1, if_pos (Or.inr q32)]
        refine z_goto (pc := 35) (tgt := 57) dX2_shortestRow_35 (by decide) ?_
        refine z_iincN (pc := 57) dX2_shortestRow_57 rfl (by decide) rfl rfl ?_
        refine z_goto (pc := 60) (tgt := 4) dX2_shortestRow_60 (by decide) ?_
        exact (ih _ (by omega) (i := i + 1) (b := y_b1 T h i b) (by omega) hb' rfl) |> fun g => by rw [q23] at g; exact g.mono (fun r σ' k => ⟨k.1.trans (by rw [hf1, y_best, q23]), k.2⟩)
set_option maxRecDepth 20000 in
theorem c_X2_shortestRow {σ : z_Sto} {T : Nat → List Nat} {h : Nat} (hT : x_told_ok σ T) (hh : h < 5) : z_R layX iX2_shortestRow 0 [some (.ref 35), some (.int (nI h)), none, none, none] [] σ (fun r σ' => r = some (.int (nI (y_code (y_own T h)))) ∧ σ' = σ) := by
  refine z_iconst (pc := 0) (v := (nI 0)) dX2_shortestRow_0 (by decide) ?_
  refine z_istore_n (pc := 1) dX2_shortestRow_1 (by decide) rfl rfl ?_
  refine z_iconst (pc := 2) (v := (nI 0)) dX2_shortestRow_2 (by decide) ?_
  refine z_istore_n (pc := 3) dX2_shortestRow_3 (by decide) rfl rfl ?_
  exact c_X2_shol (b := []) (i := 0) hT hh (by decide) ⟨y_ok_nil, fun g => by cases g⟩
theorem x_que_push {σ : z_Sto} {q : y_Q × Nat} {p : Nat} {row : List Nat} (hq : x_que σ q) (h2 : q.2 < 2000) (hp : p < 25) (hr : y_ok row) : x_que (z_up (z_up σ 41 q.2 (nI (y_code row * 25 + p))) 35 6 (nI (q.2 + 1))) (va_up q.1 q.2 (p, row), q.2 + 1) := by
  refine ⟨fun j hj => ?_, by rw [z_up_same, z_upd_s], by show q.2 + 1 ≤ 2000; omega⟩
  have hj' : j < q.2 + 1 := hj
  rw [z_up_ne _ _ _ (by decide), z_up_same]
  by_cases e : j = q.2
  · subst e
    rw [z_upd_s]
    simp only [va_up, if_true]
    exact ⟨trivial, hp, hr⟩
  · rw [z_upd_n e]
    simp only [va_up, if_neg e]
    exact hq.1 j (by omega)
set_option maxRecDepth 20000 in
theorem c_X2_sndl {σ : z_Sto} {wy : Nat → Int32} {q : y_Q × Nat} {h i : Nat} {row : List Nat} (hw : x_way_ok σ) (hwy : σ 36 = wy) (hq : x_que σ q) (hh : h < 5) (hr : y_ok row) (hi : i ≤ 5) : z_R layX iX2_send 2 [some (.ref 35), some (.int (nI h)), some (.int (nI (y_code row))), some (.int (nI i))] [] σ (fun r σ' => r = none ∧ x_que σ' (y_send wy h row (5 - i) i q) ∧ (∀ c, c ≠ 41 → c ≠ 35 → σ' c = σ c) ∧ (∀ k, k ≠ 6 → σ' 35 k = σ 35 k)) := by
  have hc := y_code_b hr
  generalize hf : 5 - i = f
  induction f using Nat.strongRecOn generalizing i σ q
  rename_i f ih
  refine z_iload_n (pc := 2) dX2_send_2 rfl ?_
  refine z_iconst (pc := 3) (v := (nI 5)) dX2_send_3 (by decide) ?_
  refine z_icmp_ge (pc := 4) (tgt := 61) dX2_send_4 (by decide) (fun h4 => ?_) (fun h4 => ?_)
  · have q4 : f = 0 := by have := (nI_leI (by decide) (by omega)).mp h4; omega
    exact z_return (pc := 61) dX2_send_61 rfl (⟨rfl, by rw [q4]; exact hq, fun c _ _ => rfl, fun k _ => rfl⟩)
  · have q4 : i < 5 := by have : ¬ 5 ≤ i := fun q => h4 ((nI_leI (by decide) (by omega)).mpr q); omega
    have hf1 : f = (5 - (i + 1)) + 1 := by omega
    refine z_aload_n (pc := 7) dX2_send_7 rfl ?_
    refine z_iload_n (pc := 8) dX2_send_8 rfl ?_
    refine z_iload_n (pc := 9) dX2_send_9 rfl ?_
    refine z_cV2 (pc := 10) mX2_hasWay l_X2_79 (by decide) dX2_send_10 (by decide) rfl rfl (by decide) (Nat.le_of_ble_eq_true rfl) (c_X2_hasWay hh q4 hw) rfl (fun r10 σ10 hr10 => ?_)
    obtain ⟨rfl, rfl⟩ := hr10
    refine z_if_eq (pc := 13) (tgt := 55) dX2_send_13 (by decide) (fun h13 => ?_) (fun h13 => ?_)
    · have es : y_s1 wy h row i q = q := by rw [y_s1, if_neg (fun g => g.1 (by rw [← hwy]; exact h13))]
      refine z_iincN (pc := 55) dX2_send_55 rfl (by decide) rfl rfl ?_
      refine z_goto (pc := 58) (tgt := 2) dX2_send_58 (by decide) ?_
      exact by first | exact (ih _ (by omega) (i := i + 1) hw hwy hq (by omega) rfl).mono (fun r σ' k => ⟨k.1, by rw [hf1, y_send, es]; exact k.2.1, k.2.2⟩) | exact (ih _ (by omega) (i := i + 1) (q := (va_up q.1 q.2 (i * 5 + h, row), q.2 + 1)) (fun k hk => by rw [z_up_ne _ _ _ (by decide), z_up_ne _ _ _ (by decide)]; exact hw k hk) (by rw [z_up_ne _ _ _ (by decide), z_up_ne _ _ _ (by decide)]; exact hwy) (x_que_push hq q23 (by omega) hr) (by omega) rfl).mono (fun r σ' k => ⟨k.1, by rw [hf1, y_send, es]; exact k.2.1, fun c h1 h2 => by rw [k.2.2.1 c h1 h2, z_up_ne _ _ _ h2, z_up_ne _ _ _ h1], fun c h1 => by rw [k.2.2.2 c h1, z_up_at]; simp [h1, z_up_at]⟩)
    · refine z_aload_n (pc := 16) dX2_send_16 rfl ?_
      refine z_getI (pc := 17) f_X2_31 dX2_send_17 (by decide) rfl rfl ?_
      rw [hq.2.1]
      refine z_sipush (pc := 20) (v := (nI 2000)) dX2_send_20 (by decide) ?_
      refine z_icmp_ge (pc := 23) (tgt := 55) dX2_send_23 (by decide) (fun h23 => ?_) (fun h23 => ?_)
      · have es : y_s1 wy h row i q = q := by rw [y_s1, if_neg (fun g => by have := (nI_leI (by decide) (by have := hq.2.2; omega)).mp h23; omega)]
        refine z_iincN (pc := 55) dX2_send_55 rfl (by decide) rfl rfl ?_
        refine z_goto (pc := 58) (tgt := 2) dX2_send_58 (by decide) ?_
        exact by first | exact (ih _ (by omega) (i := i + 1) hw hwy hq (by omega) rfl).mono (fun r σ' k => ⟨k.1, by rw [hf1, y_send, es]; exact k.2.1, k.2.2⟩) | exact (ih _ (by omega) (i := i + 1) (q := (va_up q.1 q.2 (i * 5 + h, row), q.2 + 1)) (fun k hk => by rw [z_up_ne _ _ _ (by decide), z_up_ne _ _ _ (by decide)]; exact hw k hk) (by rw [z_up_ne _ _ _ (by decide), z_up_ne _ _ _ (by decide)]; exact hwy) (x_que_push hq q23 (by omega) hr) (by omega) rfl).mono (fun r σ' k => ⟨k.1, by rw [hf1, y_send, es]; exact k.2.1, fun c h1 h2 => by rw [k.2.2.1 c h1 h2, z_up_ne _ _ _ h2, z_up_ne _ _ _ h1], fun c h1 => by rw [k.2.2.2 c h1, z_up_at]; simp [h1, z_up_at]⟩)
      · have q23 : q.2 < 2000 := by have : ¬ 2000 ≤ q.2 := fun g => h23 ((nI_leI (by decide) (by have := hq.2.2; omega)).mpr g); omega
        have es : y_s1 wy h row i q = (va_up q.1 q.2 (i * 5 + h, row), q.2 + 1) := by rw [y_s1, if_pos ⟨fun g => h13 (by rw [hwy]; exact g), q23⟩]
        refine z_aload_n (pc := 26) dX2_send_26 rfl ?_
        refine z_getA (pc := 27) f_X2_28 dX2_send_27 (by decide) rfl rfl ?_
        refine z_aload_n (pc := 30) dX2_send_30 rfl ?_
        refine z_getI (pc := 31) f_X2_31 dX2_send_31 (by decide) rfl rfl ?_
        rw [hq.2.1]
        refine z_iload_n (pc := 34) dX2_send_34 rfl ?_
        refine z_bipush (pc := 35) (v := (nI 25)) dX2_send_35 (by decide) ?_
        refine z_imulN (pc := 37) dX2_send_37 ?_
        refine z_iload_n (pc := 38) dX2_send_38 rfl ?_
        refine z_iload_n (pc := 39) dX2_send_39 rfl ?_
        refine z_cS2 (pc := 40) mX2_place l_X2_48 (by decide) dX2_send_40 (by decide) (Nat.le_of_ble_eq_true rfl) (c_X2_place) rfl (fun r40 σ40 hr40 => ?_)
        obtain ⟨rfl, rfl⟩ := hr40
        refine z_iaddN (pc := 43) dX2_send_43 ?_
        refine z_iastN (pc := 44) dX2_send_44 (by decide) rfl (by decide) (q23) ?_
        refine z_aload_n (pc := 45) dX2_send_45 rfl ?_
        refine z_dup_a (pc := 46) dX2_send_46 ?_
        refine z_getI (pc := 47) f_X2_31 dX2_send_47 (by decide) rfl rfl ?_
        simp only [z_up_at, reduceIte, Nat.reduceEqDiff, hq.2.1]
        refine z_iconst (pc := 50) (v := (nI 1)) dX2_send_50 (by decide) ?_
        refine z_iaddN (pc := 51) dX2_send_51 ?_
        refine z_putI (pc := 52) f_X2_31 tyX2_ok nmX2 (by decide) rfl rfl rfl dX2_send_52 (by decide) rfl rfl ?_
        refine z_iincN (pc := 55) dX2_send_55 rfl (by decide) rfl rfl ?_
        refine z_goto (pc := 58) (tgt := 2) dX2_send_58 (by decide) ?_
        exact by first | exact (ih _ (by omega) (i := i + 1) hw hwy hq (by omega) rfl).mono (fun r σ' k => ⟨k.1, by rw [hf1, y_send, es]; exact k.2.1, k.2.2⟩) | exact (ih _ (by omega) (i := i + 1) (q := (va_up q.1 q.2 (i * 5 + h, row), q.2 + 1)) (fun k hk => by rw [z_up_ne _ _ _ (by decide), z_up_ne _ _ _ (by decide)]; exact hw k hk) (by rw [z_up_ne _ _ _ (by decide), z_up_ne _ _ _ (by decide)]; exact hwy) (x_que_push hq q23 (by omega) hr) (by omega) rfl).mono (fun r σ' k => ⟨k.1, by rw [hf1, y_send, es]; exact k.2.1, fun c h1 h2 => by rw [k.2.2.1 c h1 h2, z_up_ne _ _ _ h2, z_up_ne _ _ _ h1], fun c h1 => by rw [k.2.2.2 c h1, z_up_at]; simp [h1, z_up_at]⟩)
set_option maxRecDepth 20000 in
theorem c_X2_send {σ : z_Sto} {q : y_Q × Nat} {h : Nat} {row : List Nat} (hw : x_way_ok σ) (hq : x_que σ q) (hh : h < 5) (hr : y_ok row) : z_R layX iX2_send 0 [some (.ref 35), some (.int (nI h)), some (.int (nI (y_code row))), none] [] σ (fun r σ' => r = none ∧ x_que σ' (y_send (σ 36) h row 5 0 q) ∧ (∀ c, c ≠ 41 → c ≠ 35 → σ' c = σ c) ∧ (∀ k, k ≠ 6 → σ' 35 k = σ 35 k)) := by
  refine z_iconst (pc := 0) (v := (nI 0)) dX2_send_0 (by decide) ?_
  refine z_istore_n (pc := 1) dX2_send_1 (by decide) rfl rfl ?_
  exact c_X2_sndl (i := 0) hw rfl hq hh hr (by decide)
def y_row (cut : Int32) (T : Nat → List Nat) (h : Nat) : List Nat := if h = 0 then (if cut = 0 then [0] else []) else y_own T h
theorem y_row_ok {cut : Int32} {T : Nat → List Nat} {h : Nat} (hT : y_good T) (hh : h < 5) : y_ok (y_row cut T h) := by
  unfold y_row
  split
  · split
    · exact ⟨by decide, by decide⟩
    · exact y_ok_nil
  · exact y_own_ok hT hh
abbrev y_S : Type := (Nat → List Nat) × (y_Q × Nat)
def y_fo (cut : Int32) (wy : Nat → Int32) (T : Nat → List Nat) (h : Nat) (s : y_S) : y_S := if y_row cut T h = s.1 h then s else (va_up s.1 h (y_row cut T h), y_send wy h (y_row cut T h) 5 0 s.2)
set_option maxRecDepth 20000 in
theorem c_X2_fo17 {σ : z_Sto} {O : Nat → List Nat} {q : y_Q × Nat} {h : Nat} {row : List Nat} (hw : x_way_ok σ) (hO : x_own_ok σ O) (hq : x_que σ q) (hh : h < 5) (hr : y_ok row) : z_R layX iX2_findOwn 17 [some (.ref 35), some (.int (nI h)), some (.int (nI (y_code row)))] [] σ (fun r σ' => r = none ∧ (x_own_ok σ' (if row = O h then O else va_up O h row) ∧ x_que σ' (if row = O h then q else y_send (σ 36) h row 5 0 q)) ∧ (∀ c, c ≠ 41 → c ≠ 35 → c ≠ 39 → σ' c = σ c) ∧ (∀ k, k ≠ 6 → σ' 35 k = σ 35 k)) := by
  refine z_iload_n (pc := 17) dX2_findOwn_17 rfl ?_
  refine z_aload_n (pc := 18) dX2_findOwn_18 rfl ?_
  refine z_getA (pc := 19) f_X2_22 dX2_findOwn_19 (by decide) rfl rfl ?_
  refine z_iload_n (pc := 22) dX2_findOwn_22 rfl ?_
  refine z_ialdN (pc := 23) dX2_findOwn_23 (by decide) rfl (by decide) (hh) ?_
  rw [(hO h hh).2]
  refine z_icmp_eq (pc := 24) (tgt := 40) dX2_findOwn_24 (by decide) (fun h24 => ?_) (fun h24 => ?_)
  · have q24 : row = O h := (y_code_ne hr (hO h hh).1).mp h24
    exact z_return (pc := 40) dX2_findOwn_40 rfl (by first | exact ⟨rfl, by rw [if_pos q24, if_pos q24]; exact ⟨hO, hq⟩, fun c _ _ _ => rfl, fun k _ => rfl⟩ | exact ⟨rfl, by rw [if_neg q24, if_neg q24]; exact ⟨fun j hj => by rw [g2 39 (by decide) (by decide), z_up_same]; by_cases e : j = h; subst e; rw [z_upd_s]; simp only [va_up, if_true]; exact ⟨hr, trivial⟩; rw [z_upd_n e]; simp only [va_up, if_neg e]; exact hO j hj, by rw [z_up_ne _ _ _ (by decide)] at g1; exact g1⟩, fun c a1 a2 a3 => by rw [g2 c a1 a2, z_up_ne _ _ _ a3], fun k hk => by rw [g3 k hk, z_up_ne _ _ _ (by decide)]⟩)
  · have q24 : ¬ row = O h := fun g => h24 ((y_code_ne hr (hO h hh).1).mpr g)
    refine z_aload_n (pc := 27) dX2_findOwn_27 rfl ?_
    refine z_getA (pc := 28) f_X2_22 dX2_findOwn_28 (by decide) rfl rfl ?_
    refine z_iload_n (pc := 31) dX2_findOwn_31 rfl ?_
    refine z_iload_n (pc := 32) dX2_findOwn_32 rfl ?_
    refine z_iastN (pc := 33) dX2_findOwn_33 (by decide) rfl (by decide) (hh) ?_
    refine z_aload_n (pc := 34) dX2_findOwn_34 rfl ?_
    refine z_iload_n (pc := 35) dX2_findOwn_35 rfl ?_
    refine z_iload_n (pc := 36) dX2_findOwn_36 rfl ?_
    refine z_cV2 (pc := 37) mX2_send l_X2_68 (by decide) dX2_findOwn_37 (by decide) rfl rfl (by decide) (Nat.le_of_ble_eq_true rfl) (c_X2_send (σ := z_up σ 39 h (nI (y_code row))) (q := q) (fun k hk => by rw [z_up_ne _ _ _ (by decide)]; exact hw k hk) ⟨fun j hj => by rw [z_up_ne _ _ _ (by decide)]; exact hq.1 j hj, by rw [z_up_ne _ _ _ (by decide)]; exact hq.2.1, hq.2.2⟩ hh hr) rfl (fun r37 σ37 hr37 => ?_)
    obtain ⟨rfl, g1, g2, g3⟩ := hr37
    exact z_return (pc := 40) dX2_findOwn_40 rfl (by first | exact ⟨rfl, by rw [if_pos q24, if_pos q24]; exact ⟨hO, hq⟩, fun c _ _ _ => rfl, fun k _ => rfl⟩ | exact ⟨rfl, by rw [if_neg q24, if_neg q24]; exact ⟨fun j hj => by rw [g2 39 (by decide) (by decide), z_up_same]; by_cases e : j = h; subst e; rw [z_upd_s]; simp only [va_up, if_true]; exact ⟨hr, trivial⟩; rw [z_upd_n e]; simp only [va_up, if_neg e]; exact hO j hj, by rw [z_up_ne _ _ _ (by decide)] at g1; exact g1⟩, fun c a1 a2 a3 => by rw [g2 c a1 a2, z_up_ne _ _ _ a3], fun k hk => by rw [g3 k hk, z_up_ne _ _ _ (by decide)]⟩)
set_option maxRecDepth 20000 in
theorem c_X2_findOwn {σ : z_Sto} {T : Nat → List Nat} {s : y_S} {h : Nat} (hw : x_way_ok σ) (hT : x_told_ok σ T) (hO : x_own_ok σ s.1) (hq : x_que σ s.2) (hh : h < 5) : z_R layX iX2_findOwn 0 [some (.ref 35), some (.int (nI h)), none] [] σ (fun r σ' => r = none ∧ (x_own_ok σ' (y_fo (σ 35 10) (σ 36) T h s).1 ∧ x_que σ' (y_fo (σ 35 10) (σ 36) T h s).2) ∧ (∀ c, c ≠ 41 → c ≠ 35 → c ≠ 39 → σ' c = σ c) ∧ (∀ k, k ≠ 6 → σ' 35 k = σ 35 k)) := by
  have ef : ∀ row, y_row (σ 35 10) T h = row → ((y_fo (σ 35 10) (σ 36) T h s).1 = (if row = s.1 h then s.1 else va_up s.1 h row) ∧ (y_fo (σ 35 10) (σ 36) T h s).2 = (if row = s.1 h then s.2 else y_send (σ 36) h row 5 0 s.2)) := fun row e => by subst e; unfold y_fo; constructor <;> split <;> rfl
  have hok := y_row_ok (cut := σ 35 10) hT.1 hh
  refine z_iload_n (pc := 0) dX2_findOwn_0 rfl ?_
  refine z_if_ne (pc := 1) (tgt := 11) dX2_findOwn_1 (by decide) (fun h1 => ?_) (fun h1 => ?_)
  · have er : y_row (σ 35 10) T h = y_own T h := by rw [y_row, if_neg (fun g => h1 (by rw [g]; rfl))]
    refine z_aload_n (pc := 11) dX2_findOwn_11 rfl ?_
    refine z_iload_n (pc := 12) dX2_findOwn_12 rfl ?_
    refine z_cV1 (pc := 13) mX2_shortestRow l_X2_64 (by decide) dX2_findOwn_13 (by decide) rfl rfl (by decide) (Nat.le_of_ble_eq_true rfl) (c_X2_shortestRow hT hh) rfl (fun r13 σ13 hr13 => ?_)
    obtain ⟨rfl, rfl⟩ := hr13
    refine z_istore_n (pc := 16) dX2_findOwn_16 (by decide) rfl rfl ?_
    obtain ⟨e1, e2⟩ := ef _ er
    rw [er] at hok
    rw [e1, e2]
    exact c_X2_fo17 hw hO hq hh hok
  · have er : y_row (σ 35 10) T h = (if σ 35 10 = 0 then [0] else []) := by rw [y_row, if_pos (z_nI_inj (by omega) (by decide) h1)]
    refine z_aload_n (pc := 4) dX2_findOwn_4 rfl ?_
    refine z_cV0 (pc := 5) mX2_goalRow l_X2_60 (by decide) dX2_findOwn_5 (by decide) rfl rfl (by decide) (Nat.le_of_ble_eq_true rfl) (c_X2_goalRow) rfl (fun r5 σ5 hr5 => ?_)
    obtain ⟨rfl, rfl⟩ := hr5
    refine z_goto (pc := 8) (tgt := 16) dX2_findOwn_8 (by decide) ?_
    refine z_istore_n (pc := 16) dX2_findOwn_16 (by decide) rfl rfl ?_
    obtain ⟨e1, e2⟩ := ef _ er
    rw [er] at hok
    rw [e1, e2]
    exact c_X2_fo17 hw hO hq hh hok
set_option maxRecDepth 20000 in
theorem c_X2_hasLetter {σ : z_Sto} {tk sn : Nat} (ht : σ 35 7 = nI tk) (hs : σ 35 6 = nI sn) (h2 : sn ≤ 2000) (h1 : tk ≤ sn) : z_R layX iX2_hasLetter 0 [some (.ref 35)] [] σ (fun r σ' => r = some (.int (if tk < sn then nI 1 else nI 0)) ∧ σ' = σ) := by
  refine z_aload_n (pc := 0) dX2_hasLetter_0 rfl ?_
  refine z_getI (pc := 1) f_X2_35 dX2_hasLetter_1 (by decide) rfl rfl ?_
  rw [ht]
  refine z_aload_n (pc := 4) dX2_hasLetter_4 rfl ?_
  refine z_getI (pc := 5) f_X2_31 dX2_hasLetter_5 (by decide) rfl rfl ?_
  rw [hs]
  refine z_icmp_ge (pc := 8) (tgt := 15) dX2_hasLetter_8 (by decide) (fun h8 => ?_) (fun h8 => ?_)
  · have q8 : ¬ tk < sn := by have := (nI_leI (by omega) (by omega)).mp h8; omega
    refine z_iconst (pc := 15) (v := (nI 0)) dX2_hasLetter_15 (by decide) ?_
    exact z_ireturn (pc := 16) dX2_hasLetter_16 rfl (by decide) (⟨by simp [q8], rfl⟩)
  · have q8 : tk < sn := by have : ¬ sn ≤ tk := fun g => h8 ((nI_leI (by omega) (by omega)).mpr g); omega
    refine z_iconst (pc := 11) (v := (nI 1)) dX2_hasLetter_11 (by decide) ?_
    refine z_goto (pc := 12) (tgt := 16) dX2_hasLetter_12 (by decide) ?_
    exact z_ireturn (pc := 16) dX2_hasLetter_16 rfl (by decide) (⟨by simp [q8], rfl⟩)
def y_fl (cut : Int32) (wy : Nat → Int32) (T : Nat → List Nat) : Nat → Nat → y_S → y_S
  | 0, _, s => s
  | f + 1, h, s => y_fl cut wy T f (h + 1) (y_fo cut wy T h s)
set_option maxRecDepth 20000 in
theorem c_X2_sf2 {σ : z_Sto} {T : Nat → List Nat} {s : y_S} {h : Nat} {cut ct : Int32} {wy : Nat → Int32} (hw : x_way_ok σ) (hwy : σ 36 = wy) (hct : σ 35 10 = ct) (hT : x_told_ok σ T) (hO : x_own_ok σ s.1) (hq : x_que σ s.2) (hh : h ≤ 5) : z_R layX iX2_startFlood 37 [some (.ref 35), some (.int cut), some (.int (nI h))] [] σ (fun r σ' => r = none ∧ (x_own_ok σ' (y_fl ct wy T (5 - h) h s).1 ∧ x_que σ' (y_fl ct wy T (5 - h) h s).2) ∧ (∀ c, c ≠ 41 → c ≠ 35 → c ≠ 39 → σ' c = σ c) ∧ (∀ k, k ≠ 6 → σ' 35 k = σ 35 k)) := by
  generalize hf : 5 - h = f
  induction f using Nat.strongRecOn generalizing h σ s
  rename_i f ih
  refine z_iload_n (pc := 37) dX2_startFlood_37 rfl ?_
  refine z_iconst (pc := 38) (v := (nI 5)) dX2_startFlood_38 (by decide) ?_
  refine z_icmp_ge (pc := 39) (tgt := 53) dX2_startFlood_39 (by decide) (fun h39 => ?_) (fun h39 => ?_)
  · have q39 : f = 0 := by have := (nI_leI (by decide) (by omega)).mp h39; omega
    exact z_return (pc := 53) dX2_startFlood_53 rfl (⟨rfl, by rw [q39]; exact ⟨hO, hq⟩, fun c _ _ _ => rfl, fun k _ => rfl⟩)
  · have q39 : h < 5 := by have : ¬ 5 ≤ h := fun g => h39 ((nI_leI (by decide) (by omega)).mpr g); omega
    have hf1 : f = (5 - (h + 1)) + 1 := by omega
    refine z_aload_n (pc := 42) dX2_startFlood_42 rfl ?_
    refine z_iload_n (pc := 43) dX2_startFlood_43 rfl ?_
    refine z_cV1 (pc := 44) mX2_findOwn l_X2_52 (by decide) dX2_startFlood_44 (by decide) rfl rfl (by decide) (Nat.le_of_ble_eq_true rfl) (c_X2_findOwn hw hT hO hq q39) rfl (fun r44 σ44 hr44 => ?_)
    obtain ⟨rfl, ⟨g1, g2⟩, g3, g4⟩ := hr44
    rw [hct, hwy] at g1 g2
    refine z_iincN (pc := 47) dX2_startFlood_47 rfl (by decide) rfl rfl ?_
    refine z_goto (pc := 50) (tgt := 37) dX2_startFlood_50 (by decide) ?_
    exact (ih _ (by omega) (h := h + 1) (fun k hk => by rw [g3 36 (by decide) (by decide) (by decide)]; exact hw k hk) ((g3 36 (by decide) (by decide) (by decide)).trans hwy) ((g4 10 (by decide)).trans hct) ⟨hT.1, fun p hp => by rw [g3 37 (by decide) (by decide) (by decide)]; exact hT.2 p hp⟩ g1 g2 (by omega) rfl).mono (fun r σ' k => ⟨k.1, by rw [hf1, y_fl]; exact k.2.1, fun c a1 a2 a3 => (k.2.2.1 c a1 a2 a3).trans (g3 c a1 a2 a3), fun c a1 => (k.2.2.2 c a1).trans (g4 c a1)⟩)
set_option maxRecDepth 20000 in
theorem c_X2_sf1 {σ : z_Sto} {i : Nat} {cut : Int32} {Φ : z_Post} (hi : i ≤ 5) (K : ∀ τ : z_Sto, (∀ c, c ≠ 40 → τ c = σ c) → (∀ k, k < 5 → τ 40 k = if k < i then σ 40 k else nI 0) → z_R layX iX2_startFlood 35 [some (.ref 35), some (.int cut), some (.int (nI 5))] [] τ Φ) : z_R layX iX2_startFlood 17 [some (.ref 35), some (.int cut), some (.int (nI i))] [] σ Φ := by
  generalize hf : 5 - i = f
  induction f using Nat.strongRecOn generalizing i σ
  rename_i f ih
  refine z_iload_n (pc := 17) dX2_startFlood_17 rfl ?_
  refine z_iconst (pc := 18) (v := (nI 5)) dX2_startFlood_18 (by decide) ?_
  refine z_icmp_ge (pc := 19) (tgt := 35) dX2_startFlood_19 (by decide) (fun h19 => ?_) (fun h19 => ?_)
  · have q19 : i = 5 := by have := (nI_leI (by decide) (by omega)).mp h19; omega
    subst q19
    exact K σ (fun c _ => rfl) (fun k hk => by rw [if_pos hk])
  · have q19 : i < 5 := by have : ¬ 5 ≤ i := fun g => h19 ((nI_leI (by decide) (by omega)).mpr g); omega
    refine z_aload_n (pc := 22) dX2_startFlood_22 rfl ?_
    refine z_getA (pc := 23) f_X2_25 dX2_startFlood_23 (by decide) rfl rfl ?_
    refine z_iload_n (pc := 26) dX2_startFlood_26 rfl ?_
    refine z_iconst (pc := 27) (v := (nI 0)) dX2_startFlood_27 (by decide) ?_
    refine z_iastN (pc := 28) dX2_startFlood_28 (by decide) rfl (by decide) (q19) ?_
    refine z_iincN (pc := 29) dX2_startFlood_29 rfl (by decide) rfl rfl ?_
    refine z_goto (pc := 32) (tgt := 17) dX2_startFlood_32 (by decide) ?_
    exact ih _ (by omega) (i := i + 1) (by omega) (fun τ h1 h2 => K τ (fun c hc => (h1 c hc).trans (z_up_ne _ _ _ hc)) (fun k hk => by rw [h2 k hk, z_up_same]; by_cases e : k = i; subst e; rw [z_upd_s, if_pos (by omega), if_neg (by omega)]; rw [z_upd_n e]; by_cases g : k < i; rw [if_pos g, if_pos (by omega)]; rw [if_neg g, if_neg (by omega)])) rfl
set_option maxRecDepth 20000 in
theorem c_X2_startFlood {σ : z_Sto} {T : Nat → List Nat} {O : Nat → List Nat} {Q : y_Q} {ct : Nat} (hct : ct < 2) (hw : x_way_ok σ) (hT : x_told_ok σ T) (hO : x_own_ok σ O) : z_R layX iX2_startFlood 0 [some (.ref 35), some (.int (nI ct)), none] [] σ (fun r σ' => r = none ∧ (x_own_ok σ' (y_fl (nI ct) (σ 36) T 5 0 (O, Q, 0)).1 ∧ x_que σ' (y_fl (nI ct) (σ 36) T 5 0 (O, Q, 0)).2) ∧ (∀ c, c ≠ 41 → c ≠ 35 → c ≠ 39 → c ≠ 40 → σ' c = σ c) ∧ (∀ k, k ≠ 6 → k ≠ 7 → k ≠ 10 → σ' 35 k = σ 35 k) ∧ σ' 35 7 = nI 0 ∧ σ' 35 10 = nI ct ∧ ∀ k, k < 5 → σ' 40 k = nI 0) := by
  have hz : narrow .boolean (.int (nI ct)) = .int (nI ct) ∧ fits .boolean (.int (nI ct)) = true := by rcases (show ct = 0 ∨ ct = 1 by omega) with rfl | rfl <;> exact ⟨by decide, by decide⟩
  refine z_aload_n (pc := 0) dX2_startFlood_0 rfl ?_
  refine z_iload_n (pc := 1) dX2_startFlood_1 rfl ?_
  refine z_putI (pc := 2) f_X2_44 tyX2_ok nmX2 (by decide) rfl hz.1 hz.2 dX2_startFlood_2 (by decide) rfl rfl ?_
  refine z_aload_n (pc := 5) dX2_startFlood_5 rfl ?_
  refine z_iconst (pc := 6) (v := (nI 0)) dX2_startFlood_6 (by decide) ?_
  refine z_putI (pc := 7) f_X2_31 tyX2_ok nmX2 (by decide) rfl rfl rfl dX2_startFlood_7 (by decide) rfl rfl ?_
  refine z_aload_n (pc := 10) dX2_startFlood_10 rfl ?_
  refine z_iconst (pc := 11) (v := (nI 0)) dX2_startFlood_11 (by decide) ?_
  refine z_putI (pc := 12) f_X2_35 tyX2_ok nmX2 (by decide) rfl rfl rfl dX2_startFlood_12 (by decide) rfl rfl ?_
  refine z_iconst (pc := 15) (v := (nI 0)) dX2_startFlood_15 (by decide) ?_
  refine z_istore_n (pc := 16) dX2_startFlood_16 (by decide) rfl rfl ?_
  exact c_X2_sf1 (i := 0) (by decide) (fun τ h1 h2 => z_iconst (pc := 35) (v := (nI 0)) dX2_startFlood_35 (by decide) (z_istore_n (pc := 36) dX2_startFlood_36 (by decide) rfl rfl ((c_X2_sf2 (s := (O, Q, 0)) (h := 0) (wy := σ 36) (ct := nI ct) (fun k hk => by rw [h1 36 (by decide), z_up_ne _ _ _ (by decide), z_up_ne _ _ _ (by decide), z_up_ne _ _ _ (by decide)]; exact hw k hk) (by rw [h1 36 (by decide), z_up_ne _ _ _ (by decide), z_up_ne _ _ _ (by decide), z_up_ne _ _ _ (by decide)]) (by rw [h1 35 (by decide)]; simp [z_up_at]) ⟨hT.1, fun p hp => by rw [h1 37 (by decide), z_up_ne _ _ _ (by decide), z_up_ne _ _ _ (by decide), z_up_ne _ _ _ (by decide)]; exact hT.2 p hp⟩ (fun j hj => by rw [h1 39 (by decide), z_up_ne _ _ _ (by decide), z_up_ne _ _ _ (by decide), z_up_ne _ _ _ (by decide)]; exact hO j hj) ⟨fun j hj => absurd hj (Nat.not_lt_zero j), by rw [h1 35 (by decide)]; simp [z_up_at], Nat.zero_le _⟩ (by decide)).mono (fun r σ' k => ⟨k.1, k.2.1, fun c a1 a2 a3 a4 => by rw [k.2.2.1 c a1 a2 a3, h1 c a4, z_up_ne _ _ _ a2, z_up_ne _ _ _ a2, z_up_ne _ _ _ a2], fun c a1 a2 a3 => by rw [k.2.2.2 c a1, h1 35 (by decide)]; simp [z_up_at, a1, a2, a3], by rw [k.2.2.2 7 (by decide), h1 35 (by decide)]; simp [z_up_at], by rw [k.2.2.2 10 (by decide), h1 35 (by decide)]; simp [z_up_at], fun c hc => by rw [k.2.2.1 40 (by decide) (by decide) (by decide), h2 c hc, if_neg (by omega)]⟩))))
