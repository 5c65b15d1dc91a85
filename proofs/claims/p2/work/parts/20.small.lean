/-! Rules, Roster, Log, Net: the short methods -/
set_option maxRecDepth 20000 in
theorem c_X5_get {σ : z_Sto} {k : Nat} (hk : k < 8) : z_R layX iX5_get 0 [some (.ref 1), some (.int (nI k))] [] σ (fun r σ' => r = some (.int (σ 2 k)) ∧ σ' = σ) := by
  refine z_aload_n (pc := 0) dX5_get_0 rfl ?_
  refine z_getA (pc := 1) f_X5_18 dX5_get_1 (by decide) rfl rfl ?_
  refine z_iload_n (pc := 4) dX5_get_4 rfl ?_
  refine z_ialdN (pc := 5) dX5_get_5 (by decide) rfl (by decide) (hk) ?_
  exact z_ireturn (pc := 6) dX5_get_6 rfl rfl (⟨rfl, rfl⟩)
set_option maxRecDepth 20000 in
theorem c_X5_getT {σ : z_Sto} {k : Nat} (hk : k < 8) : z_R layX iX5_get 0 [some (.ref 22), some (.int (nI k))] [] σ (fun r σ' => r = some (.int (σ 23 k)) ∧ σ' = σ) := by
  refine z_aload_n (pc := 0) dX5_get_0 rfl ?_
  refine z_getA (pc := 1) f_X5_18 dX5_get_1 (by decide) rfl rfl ?_
  refine z_iload_n (pc := 4) dX5_get_4 rfl ?_
  refine z_ialdN (pc := 5) dX5_get_5 (by decide) rfl (by decide) (hk) ?_
  exact z_ireturn (pc := 6) dX5_get_6 rfl rfl (⟨rfl, rfl⟩)
set_option maxRecDepth 20000 in
theorem c_X5_put {σ : z_Sto} {k : Nat} {v : Int32} (hk : k < 8) : z_R layX iX5_put 0 [some (.ref 1), some (.int (nI k)), some (.int v)] [] σ (fun r σ' => r = none ∧ σ' = z_up σ 2 k v) := by
  refine z_aload_n (pc := 0) dX5_put_0 rfl ?_
  refine z_getA (pc := 1) f_X5_18 dX5_put_1 (by decide) rfl rfl ?_
  refine z_iload_n (pc := 4) dX5_put_4 rfl ?_
  refine z_iload_n (pc := 5) dX5_put_5 rfl ?_
  refine z_iastN (pc := 6) dX5_put_6 (by decide) rfl (by decide) (hk) ?_
  exact z_return (pc := 7) dX5_put_7 rfl (⟨rfl, rfl⟩)
set_option maxRecDepth 20000 in
theorem c_X4_has {σ : z_Sto} {x : Int32} {n : Nat} (hn : σ 3 3 = nI n) (h12 : n ≤ 12) : z_R layX iX4_has 0 [some (.ref 3), some (.int x)] [] σ (fun r σ' => ((∃ k, k < n ∧ x = nI k ∧ r = some (.int (nI 1))) ∨ ((∀ k, k < n → x ≠ nI k) ∧ r = some (.int (nI 0)))) ∧ σ' = σ) := by
  refine z_iload_n (pc := 0) dX4_has_0 rfl ?_
  refine z_if_lt (pc := 1) (tgt := 16) dX4_has_1 (by decide) (fun h1 => ?_) (fun h1 => ?_)
  · refine z_iconst (pc := 16) (v := (nI 0)) dX4_has_16 (by decide) ?_
    exact z_ireturn (pc := 17) dX4_has_17 rfl (by decide) ⟨Or.inr ⟨z_no_neg (by omega) h1, rfl⟩, rfl⟩
  · refine z_iload_n (pc := 4) dX4_has_4 rfl ?_
    refine z_aload_n (pc := 5) dX4_has_5 rfl ?_
    refine z_getI (pc := 6) f_X4_21 dX4_has_6 (by decide) rfl rfl ?_
    refine z_icmp_ge (pc := 9) (tgt := 16) dX4_has_9 (by decide) (fun h9 => ?_) (fun h9 => ?_)
    · refine z_iconst (pc := 16) (v := (nI 0)) dX4_has_16 (by decide) ?_
      exact z_ireturn (pc := 17) dX4_has_17 rfl (by decide) ⟨Or.inr ⟨z_no_ge (n := n) (by omega) (hn ▸ h9), rfl⟩, rfl⟩
    · refine z_iconst (pc := 12) (v := (nI 1)) dX4_has_12 (by decide) ?_
      refine z_goto (pc := 13) (tgt := 17) dX4_has_13 (by decide) ?_
      exact z_ireturn (pc := 17) dX4_has_17 rfl (by decide) (by obtain ⟨k, hk, e⟩ := z_ix (n := n) (by omega) h1 (hn ▸ h9); exact ⟨Or.inl ⟨k, hk, e, rfl⟩, rfl⟩)
set_option maxRecDepth 20000 in
theorem c_X4_size {σ : z_Sto} : z_R layX iX4_size 0 [some (.ref 3)] [] σ (fun r σ' => r = some (.int (σ 3 3)) ∧ σ' = σ) := by
  refine z_aload_n (pc := 0) dX4_size_0 rfl ?_
  refine z_getI (pc := 1) f_X4_21 dX4_size_1 (by decide) rfl rfl ?_
  exact z_ireturn (pc := 4) dX4_size_4 rfl rfl (⟨rfl, rfl⟩)
set_option maxRecDepth 20000 in
theorem c_X4_isFull {σ : z_Sto} {n : Nat} (hn : σ 3 3 = nI n) (h12 : n ≤ 12) : z_R layX iX4_isFull 0 [some (.ref 3)] [] σ (fun r σ' => r = some (.int (if n < 12 then nI 0 else nI 1)) ∧ σ' = σ) := by
  refine z_aload_n (pc := 0) dX4_isFull_0 rfl ?_
  refine z_getI (pc := 1) f_X4_21 dX4_isFull_1 (by decide) rfl rfl ?_
  rw [hn]
  refine z_bipush (pc := 4) (v := (nI 12)) dX4_isFull_4 (by decide) ?_
  refine z_icmp_lt (pc := 6) (tgt := 13) dX4_isFull_6 (by decide) (fun h6 => ?_) (fun h6 => ?_)
  · have q6 : n < 12 := (nI_ltI (by omega) (by decide)).mp h6
    refine z_iconst (pc := 13) (v := (nI 0)) dX4_isFull_13 (by decide) ?_
    exact z_ireturn (pc := 14) dX4_isFull_14 rfl (by decide) (⟨by simp [q6], rfl⟩)
  · have q6 : ¬ n < 12 := fun q => h6 ((nI_ltI (by omega) (by decide)).mpr q)
    refine z_iconst (pc := 9) (v := (nI 1)) dX4_isFull_9 (by decide) ?_
    refine z_goto (pc := 10) (tgt := 14) dX4_isFull_10 (by decide) ?_
    exact z_ireturn (pc := 14) dX4_isFull_14 rfl (by decide) (⟨by simp [q6], rfl⟩)
set_option maxRecDepth 20000 in
theorem c_X4_kindOf {σ : z_Sto} {k : Nat} (hk : k < 12) : z_R layX iX4_kindOf 0 [some (.ref 3), some (.int (nI k))] [] σ (fun r σ' => r = some (.int (σ 4 k)) ∧ σ' = σ) := by
  refine z_aload_n (pc := 0) dX4_kindOf_0 rfl ?_
  refine z_getA (pc := 1) f_X4_9 dX4_kindOf_1 (by decide) rfl rfl ?_
  refine z_iload_n (pc := 4) dX4_kindOf_4 rfl ?_
  refine z_ialdN (pc := 5) dX4_kindOf_5 (by decide) rfl (by decide) (hk) ?_
  exact z_ireturn (pc := 6) dX4_kindOf_6 rfl rfl (⟨rfl, rfl⟩)
set_option maxRecDepth 20000 in
theorem c_X4_slotOf {σ : z_Sto} {k : Nat} (hk : k < 12) : z_R layX iX4_slotOf 0 [some (.ref 3), some (.int (nI k))] [] σ (fun r σ' => r = some (.int (σ 5 k)) ∧ σ' = σ) := by
  refine z_aload_n (pc := 0) dX4_slotOf_0 rfl ?_
  refine z_getA (pc := 1) f_X4_15 dX4_slotOf_1 (by decide) rfl rfl ?_
  refine z_iload_n (pc := 4) dX4_slotOf_4 rfl ?_
  refine z_ialdN (pc := 5) dX4_slotOf_5 (by decide) rfl (by decide) (hk) ?_
  exact z_ireturn (pc := 6) dX4_slotOf_6 rfl rfl (⟨rfl, rfl⟩)
set_option maxRecDepth 20000 in
theorem c_X4_markOf {σ : z_Sto} {k : Nat} (hk : k < 12) : z_R layX iX4_markOf 0 [some (.ref 3), some (.int (nI k))] [] σ (fun r σ' => r = some (.int (σ 6 k)) ∧ σ' = σ) := by
  refine z_aload_n (pc := 0) dX4_markOf_0 rfl ?_
  refine z_getA (pc := 1) f_X4_18 dX4_markOf_1 (by decide) rfl rfl ?_
  refine z_iload_n (pc := 4) dX4_markOf_4 rfl ?_
  refine z_ialdN (pc := 5) dX4_markOf_5 (by decide) rfl (by decide) (hk) ?_
  exact z_ireturn (pc := 6) dX4_markOf_6 rfl rfl (⟨rfl, rfl⟩)
set_option maxRecDepth 20000 in
theorem c_X4_putMark {σ : z_Sto} {k : Nat} {v : Int32} (hk : k < 12) : z_R layX iX4_putMark 0 [some (.ref 3), some (.int (nI k)), some (.int v), none] [] σ (fun r σ' => r = some (.int (σ 6 k)) ∧ σ' = z_up σ 6 k v) := by
  refine z_aload_n (pc := 0) dX4_putMark_0 rfl ?_
  refine z_getA (pc := 1) f_X4_18 dX4_putMark_1 (by decide) rfl rfl ?_
  refine z_iload_n (pc := 4) dX4_putMark_4 rfl ?_
  refine z_ialdN (pc := 5) dX4_putMark_5 (by decide) rfl (by decide) (hk) ?_
  refine z_istore_n (pc := 6) dX4_putMark_6 (by decide) rfl rfl ?_
  refine z_aload_n (pc := 7) dX4_putMark_7 rfl ?_
  refine z_getA (pc := 8) f_X4_18 dX4_putMark_8 (by decide) rfl rfl ?_
  refine z_iload_n (pc := 11) dX4_putMark_11 rfl ?_
  refine z_iload_n (pc := 12) dX4_putMark_12 rfl ?_
  refine z_iastN (pc := 13) dX4_putMark_13 (by decide) rfl (by decide) (hk) ?_
  refine z_iload_n (pc := 14) dX4_putMark_14 rfl ?_
  exact z_ireturn (pc := 15) dX4_putMark_15 rfl rfl (⟨rfl, rfl⟩)
set_option maxRecDepth 20000 in
theorem c_X4_enter {σ : z_Sto} {n : Nat} {kd g : Int32} (hn : σ 3 3 = nI n) (h12 : n < 12) : z_R layX iX4_enter 0 [some (.ref 3), some (.int kd), some (.int g), none] [] σ (fun r σ' => r = some (.int (nI n)) ∧ σ' = z_up (z_up (z_up σ 4 n kd) 5 n (if kd = nI 1 then nI 12 + g else nI n)) 3 3 (nI (n + 1))) := by
  refine z_aload_n (pc := 0) dX4_enter_0 rfl ?_
  refine z_getI (pc := 1) f_X4_21 dX4_enter_1 (by decide) rfl rfl ?_
  rw [hn]
  refine z_istore_n (pc := 4) dX4_enter_4 (by decide) rfl rfl ?_
  refine z_aload_n (pc := 5) dX4_enter_5 rfl ?_
  refine z_getA (pc := 6) f_X4_9 dX4_enter_6 (by decide) rfl rfl ?_
  refine z_iload_n (pc := 9) dX4_enter_9 rfl ?_
  refine z_iload_n (pc := 10) dX4_enter_10 rfl ?_
  refine z_iastN (pc := 11) dX4_enter_11 (by decide) rfl (by decide) (h12) ?_
  refine z_aload_n (pc := 12) dX4_enter_12 rfl ?_
  refine z_getA (pc := 13) f_X4_15 dX4_enter_13 (by decide) rfl rfl ?_
  refine z_iload_n (pc := 16) dX4_enter_16 rfl ?_
  refine z_iload_n (pc := 17) dX4_enter_17 rfl ?_
  refine z_iconst (pc := 18) (v := (nI 1)) dX4_enter_18 (by decide) ?_
  refine z_icmp_ne (pc := 19) (tgt := 29) dX4_enter_19 (by decide) (fun h19 => ?_) (fun h19 => ?_)
  · refine z_iload_n (pc := 29) dX4_enter_29 rfl ?_
    refine z_iastN (pc := 30) dX4_enter_30 (by decide) rfl (by decide) (h12) ?_
    refine z_aload_n (pc := 31) dX4_enter_31 rfl ?_
    refine z_dup_a (pc := 32) dX4_enter_32 ?_
    refine z_getI (pc := 33) f_X4_21 dX4_enter_33 (by decide) rfl rfl ?_
    simp only [z_up_at, hn, reduceIte, Nat.reduceEqDiff]
    refine z_iconst (pc := 36) (v := (nI 1)) dX4_enter_36 (by decide) ?_
    refine z_iaddN (pc := 37) dX4_enter_37 ?_
    refine z_putI (pc := 38) f_X4_21 tyX4_ok nmX4 (by decide) rfl rfl rfl dX4_enter_38 (by decide) rfl rfl ?_
    refine z_iload_n (pc := 41) dX4_enter_41 rfl ?_
    exact z_ireturn (pc := 42) dX4_enter_42 rfl rfl (⟨rfl, by simp [h19]⟩)
  · refine z_bipush (pc := 22) (v := (nI 12)) dX4_enter_22 (by decide) ?_
    refine z_iload_n (pc := 24) dX4_enter_24 rfl ?_
    refine z_iadd (pc := 25) dX4_enter_25 ?_
    refine z_goto (pc := 26) (tgt := 30) dX4_enter_26 (by decide) ?_
    refine z_iastN (pc := 30) dX4_enter_30 (by decide) rfl (by decide) (h12) ?_
    refine z_aload_n (pc := 31) dX4_enter_31 rfl ?_
    refine z_dup_a (pc := 32) dX4_enter_32 ?_
    refine z_getI (pc := 33) f_X4_21 dX4_enter_33 (by decide) rfl rfl ?_
    simp only [z_up_at, hn, reduceIte, Nat.reduceEqDiff]
    refine z_iconst (pc := 36) (v := (nI 1)) dX4_enter_36 (by decide) ?_
    refine z_iaddN (pc := 37) dX4_enter_37 ?_
    refine z_putI (pc := 38) f_X4_21 tyX4_ok nmX4 (by decide) rfl rfl rfl dX4_enter_38 (by decide) rfl rfl ?_
    refine z_iload_n (pc := 41) dX4_enter_41 rfl ?_
    exact z_ireturn (pc := 42) dX4_enter_42 rfl rfl (⟨rfl, by simp [h19]⟩)
set_option maxRecDepth 20000 in
theorem c_X1_size {σ : z_Sto} : z_R layX iX1_size 0 [some (.ref 7)] [] σ (fun r σ' => r = some (.int (σ 7 3)) ∧ σ' = σ) := by
  refine z_aload_n (pc := 0) dX1_size_0 rfl ?_
  refine z_getI (pc := 1) f_X1_21 dX1_size_1 (by decide) rfl rfl ?_
  exact z_ireturn (pc := 4) dX1_size_4 rfl rfl (⟨rfl, rfl⟩)
set_option maxRecDepth 20000 in
theorem c_X1_isFull {σ : z_Sto} {e : Nat} (he : σ 7 3 = nI e) (h3 : e ≤ 300) : z_R layX iX1_isFull 0 [some (.ref 7)] [] σ (fun r σ' => r = some (.int (if e < 300 then nI 0 else nI 1)) ∧ σ' = σ) := by
  refine z_aload_n (pc := 0) dX1_isFull_0 rfl ?_
  refine z_getI (pc := 1) f_X1_21 dX1_isFull_1 (by decide) rfl rfl ?_
  rw [he]
  refine z_sipush (pc := 4) (v := (nI 300)) dX1_isFull_4 (by decide) ?_
  refine z_icmp_lt (pc := 7) (tgt := 14) dX1_isFull_7 (by decide) (fun h7 => ?_) (fun h7 => ?_)
  · have q7 : e < 300 := (nI_ltI (by omega) (by decide)).mp h7
    refine z_iconst (pc := 14) (v := (nI 0)) dX1_isFull_14 (by decide) ?_
    exact z_ireturn (pc := 15) dX1_isFull_15 rfl (by decide) (⟨by simp [q7], rfl⟩)
  · have q7 : ¬ e < 300 := fun q => h7 ((nI_ltI (by omega) (by decide)).mpr q)
    refine z_iconst (pc := 10) (v := (nI 1)) dX1_isFull_10 (by decide) ?_
    refine z_goto (pc := 11) (tgt := 15) dX1_isFull_11 (by decide) ?_
    exact z_ireturn (pc := 15) dX1_isFull_15 rfl (by decide) (⟨by simp [q7], rfl⟩)
set_option maxRecDepth 20000 in
theorem c_X1_write {σ : z_Sto} {e : Nat} {a b t : Int32} (he : σ 7 3 = nI e) (h3 : e < 300) : z_R layX iX1_write 0 [some (.ref 7), some (.int a), some (.int b), some (.int t)] [] σ (fun r σ' => r = none ∧ σ' = z_up (z_up (z_up (z_up σ 8 e a) 9 e b) 10 e t) 7 3 (nI (e + 1))) := by
  refine z_aload_n (pc := 0) dX1_write_0 rfl ?_
  refine z_getA (pc := 1) f_X1_9 dX1_write_1 (by decide) rfl rfl ?_
  refine z_aload_n (pc := 4) dX1_write_4 rfl ?_
  refine z_getI (pc := 5) f_X1_21 dX1_write_5 (by decide) rfl rfl ?_
  simp only [z_up_at, he, reduceIte, Nat.reduceEqDiff]
  refine z_iload_n (pc := 8) dX1_write_8 rfl ?_
  refine z_iastN (pc := 9) dX1_write_9 (by decide) rfl (by decide) (h3) ?_
  refine z_aload_n (pc := 10) dX1_write_10 rfl ?_
  refine z_getA (pc := 11) f_X1_15 dX1_write_11 (by decide) rfl rfl ?_
  refine z_aload_n (pc := 14) dX1_write_14 rfl ?_
  refine z_getI (pc := 15) f_X1_21 dX1_write_15 (by decide) rfl rfl ?_
  simp only [z_up_at, he, reduceIte, Nat.reduceEqDiff]
  refine z_iload_n (pc := 18) dX1_write_18 rfl ?_
  refine z_iastN (pc := 19) dX1_write_19 (by decide) rfl (by decide) (h3) ?_
  refine z_aload_n (pc := 20) dX1_write_20 rfl ?_
  refine z_getA (pc := 21) f_X1_18 dX1_write_21 (by decide) rfl rfl ?_
  refine z_aload_n (pc := 24) dX1_write_24 rfl ?_
  refine z_getI (pc := 25) f_X1_21 dX1_write_25 (by decide) rfl rfl ?_
  simp only [z_up_at, he, reduceIte, Nat.reduceEqDiff]
  refine z_iload_n (pc := 28) dX1_write_28 rfl ?_
  refine z_iastN (pc := 29) dX1_write_29 (by decide) rfl (by decide) (h3) ?_
  refine z_aload_n (pc := 30) dX1_write_30 rfl ?_
  refine z_dup_a (pc := 31) dX1_write_31 ?_
  refine z_getI (pc := 32) f_X1_21 dX1_write_32 (by decide) rfl rfl ?_
  simp only [z_up_at, he, reduceIte, Nat.reduceEqDiff]
  refine z_iconst (pc := 35) (v := (nI 1)) dX1_write_35 (by decide) ?_
  refine z_iaddN (pc := 36) dX1_write_36 ?_
  refine z_putI (pc := 37) f_X1_21 tyX1_ok nmX1 (by decide) rfl rfl rfl dX1_write_37 (by decide) rfl rfl ?_
  exact z_return (pc := 40) dX1_write_40 rfl (⟨rfl, rfl⟩)
set_option maxRecDepth 20000 in
theorem c_X1_lineAt {σ : z_Sto} {k : Nat} (hk : k < 300) : z_R layX iX1_lineAt 0 [some (.ref 7), some (.int (nI k))] [] σ (fun r σ' => r = some (.int (σ 8 k)) ∧ σ' = σ) := by
  refine z_aload_n (pc := 0) dX1_lineAt_0 rfl ?_
  refine z_getA (pc := 1) f_X1_9 dX1_lineAt_1 (by decide) rfl rfl ?_
  refine z_iload_n (pc := 4) dX1_lineAt_4 rfl ?_
  refine z_ialdN (pc := 5) dX1_lineAt_5 (by decide) rfl (by decide) (hk) ?_
  exact z_ireturn (pc := 6) dX1_lineAt_6 rfl rfl (⟨rfl, rfl⟩)
set_option maxRecDepth 20000 in
theorem c_X1_whatAt {σ : z_Sto} {k : Nat} (hk : k < 300) : z_R layX iX1_whatAt 0 [some (.ref 7), some (.int (nI k))] [] σ (fun r σ' => r = some (.int (σ 9 k)) ∧ σ' = σ) := by
  refine z_aload_n (pc := 0) dX1_whatAt_0 rfl ?_
  refine z_getA (pc := 1) f_X1_15 dX1_whatAt_1 (by decide) rfl rfl ?_
  refine z_iload_n (pc := 4) dX1_whatAt_4 rfl ?_
  refine z_ialdN (pc := 5) dX1_whatAt_5 (by decide) rfl (by decide) (hk) ?_
  exact z_ireturn (pc := 6) dX1_whatAt_6 rfl rfl (⟨rfl, rfl⟩)
set_option maxRecDepth 20000 in
theorem c_X1_tickAt {σ : z_Sto} {k : Nat} (hk : k < 300) : z_R layX iX1_tickAt 0 [some (.ref 7), some (.int (nI k))] [] σ (fun r σ' => r = some (.int (σ 10 k)) ∧ σ' = σ) := by
  refine z_aload_n (pc := 0) dX1_tickAt_0 rfl ?_
  refine z_getA (pc := 1) f_X1_18 dX1_tickAt_1 (by decide) rfl rfl ?_
  refine z_iload_n (pc := 4) dX1_tickAt_4 rfl ?_
  refine z_ialdN (pc := 5) dX1_tickAt_5 (by decide) rfl (by decide) (hk) ?_
  exact z_ireturn (pc := 6) dX1_tickAt_6 rfl rfl (⟨rfl, rfl⟩)
set_option maxRecDepth 20000 in
theorem c_X2_isHouse {σ : z_Sto} {x : Int32} : z_R layX iX2_isHouse 0 [some (.int x)] [] σ (fun r σ' => ((∃ k, k < 5 ∧ x = nI k ∧ r = some (.int (nI 1))) ∨ ((∀ k, k < 5 → x ≠ nI k) ∧ r = some (.int (nI 0)))) ∧ σ' = σ) := by
  refine z_iload_n (pc := 0) dX2_isHouse_0 rfl ?_
  refine z_if_lt (pc := 1) (tgt := 13) dX2_isHouse_1 (by decide) (fun h1 => ?_) (fun h1 => ?_)
  · refine z_iconst (pc := 13) (v := (nI 0)) dX2_isHouse_13 (by decide) ?_
    exact z_ireturn (pc := 14) dX2_isHouse_14 rfl (by decide) ⟨Or.inr ⟨z_no_neg (by omega) h1, rfl⟩, rfl⟩
  · refine z_iload_n (pc := 4) dX2_isHouse_4 rfl ?_
    refine z_iconst (pc := 5) (v := (nI 5)) dX2_isHouse_5 (by decide) ?_
    refine z_icmp_ge (pc := 6) (tgt := 13) dX2_isHouse_6 (by decide) (fun h6 => ?_) (fun h6 => ?_)
    · refine z_iconst (pc := 13) (v := (nI 0)) dX2_isHouse_13 (by decide) ?_
      exact z_ireturn (pc := 14) dX2_isHouse_14 rfl (by decide) ⟨Or.inr ⟨z_no_ge (n := 5) (by omega) h6, rfl⟩, rfl⟩
    · refine z_iconst (pc := 9) (v := (nI 1)) dX2_isHouse_9 (by decide) ?_
      refine z_goto (pc := 10) (tgt := 14) dX2_isHouse_10 (by decide) ?_
      exact z_ireturn (pc := 14) dX2_isHouse_14 rfl (by decide) (by obtain ⟨k, hk, e⟩ := z_ix (n := 5) (by omega) h1 h6; exact ⟨Or.inl ⟨k, hk, e, rfl⟩, rfl⟩)
set_option maxRecDepth 20000 in
theorem c_X2_place {σ : z_Sto} {a b : Nat} : z_R layX iX2_place 0 [some (.int (nI a)), some (.int (nI b))] [] σ (fun r σ' => r = some (.int (nI (a * 5 + b))) ∧ σ' = σ) := by
  refine z_iload_n (pc := 0) dX2_place_0 rfl ?_
  refine z_iconst (pc := 1) (v := (nI 5)) dX2_place_1 (by decide) ?_
  refine z_imulN (pc := 2) dX2_place_2 ?_
  refine z_iload_n (pc := 3) dX2_place_3 rfl ?_
  refine z_iaddN (pc := 4) dX2_place_4 ?_
  exact z_ireturn (pc := 5) dX2_place_5 rfl rfl (⟨rfl, rfl⟩)
set_option maxRecDepth 20000 in
theorem c_X2_hasWay {σ : z_Sto} {a b : Nat} (ha : a < 5) (hb : b < 5) (h01 : ∀ k, k < 25 → σ 36 k = nI 0 ∨ σ 36 k = nI 1) : z_R layX iX2_hasWay 0 [some (.ref 35), some (.int (nI a)), some (.int (nI b))] [] σ (fun r σ' => r = some (.int (σ 36 (a * 5 + b))) ∧ σ' = σ) := by
  refine z_aload_n (pc := 0) dX2_hasWay_0 rfl ?_
  refine z_getA (pc := 1) f_X2_11 dX2_hasWay_1 (by decide) rfl rfl ?_
  refine z_iload_n (pc := 4) dX2_hasWay_4 rfl ?_
  refine z_iload_n (pc := 5) dX2_hasWay_5 rfl ?_
  refine z_cS2 (pc := 6) mX2_place l_X2_48 (by decide) dX2_hasWay_6 (by decide) (Nat.le_of_ble_eq_true rfl) (c_X2_place) rfl (fun r6 σ6 hr6 => ?_)
  obtain ⟨rfl, rfl⟩ := hr6
  refine z_zaldN (pc := 9) dX2_hasWay_9 (by decide) rfl (by decide) (by omega) ?_
  exact z_ireturn (pc := 10) dX2_hasWay_10 rfl (z_nar (h01 _ (by omega))) (⟨rfl, rfl⟩)
set_option maxRecDepth 20000 in
theorem c_X2_ways {σ : z_Sto} : z_R layX iX2_ways 0 [some (.ref 35)] [] σ (fun r σ' => r = some (.int (σ 35 9)) ∧ σ' = σ) := by
  refine z_aload_n (pc := 0) dX2_ways_0 rfl ?_
  refine z_getI (pc := 1) f_X2_41 dX2_ways_1 (by decide) rfl rfl ?_
  exact z_ireturn (pc := 4) dX2_ways_4 rfl rfl (⟨rfl, rfl⟩)
set_option maxRecDepth 20000 in
theorem c_X2_putBound {σ : z_Sto} {a b : Nat} {v : Int32} (ha : a < 5) (hb : b < 5) : z_R layX iX2_putBound 0 [some (.ref 35), some (.int (nI a)), some (.int (nI b)), some (.int v)] [] σ (fun r σ' => r = none ∧ σ' = z_up σ 38 (a * 5 + b) v) := by
  refine z_aload_n (pc := 0) dX2_putBound_0 rfl ?_
  refine z_getA (pc := 1) f_X2_19 dX2_putBound_1 (by decide) rfl rfl ?_
  refine z_iload_n (pc := 4) dX2_putBound_4 rfl ?_
  refine z_iload_n (pc := 5) dX2_putBound_5 rfl ?_
  refine z_cS2 (pc := 6) mX2_place l_X2_48 (by decide) dX2_putBound_6 (by decide) (Nat.le_of_ble_eq_true rfl) (c_X2_place) rfl (fun r6 σ6 hr6 => ?_)
  obtain ⟨rfl, rfl⟩ := hr6
  refine z_iload_n (pc := 9) dX2_putBound_9 rfl ?_
  refine z_iastN (pc := 10) dX2_putBound_10 (by decide) rfl (by decide) (by omega) ?_
  exact z_return (pc := 11) dX2_putBound_11 rfl (⟨rfl, rfl⟩)
set_option maxRecDepth 20000 in
theorem c_X2_echoesOf {σ : z_Sto} {k : Nat} (hk : k < 5) : z_R layX iX2_echoesOf 0 [some (.ref 35), some (.int (nI k))] [] σ (fun r σ' => r = some (.int (σ 40 k)) ∧ σ' = σ) := by
  refine z_aload_n (pc := 0) dX2_echoesOf_0 rfl ?_
  refine z_getA (pc := 1) f_X2_25 dX2_echoesOf_1 (by decide) rfl rfl ?_
  refine z_iload_n (pc := 4) dX2_echoesOf_4 rfl ?_
  refine z_ialdN (pc := 5) dX2_echoesOf_5 (by decide) rfl (by decide) (hk) ?_
  exact z_ireturn (pc := 6) dX2_echoesOf_6 rfl rfl (⟨rfl, rfl⟩)
set_option maxRecDepth 20000 in
theorem c_X2_lettersOfAll {σ : z_Sto} : z_R layX iX2_lettersOfAll 0 [some (.ref 35)] [] σ (fun r σ' => r = some (.int (σ 35 8)) ∧ σ' = σ) := by
  refine z_aload_n (pc := 0) dX2_lettersOfAll_0 rfl ?_
  refine z_getI (pc := 1) f_X2_38 dX2_lettersOfAll_1 (by decide) rfl rfl ?_
  exact z_ireturn (pc := 4) dX2_lettersOfAll_4 rfl rfl (⟨rfl, rfl⟩)
set_option maxRecDepth 20000 in
theorem c_X2_ownAt {σ : z_Sto} {a : Nat} {x : Int32} (ha : a < 5) : z_R layX iX2_ownAt 0 [some (.ref 35), some (.int (nI a)), some (.int x)] [] σ (fun r σ' => r = some (.int (if x < nI 5 then ((σ 39 a) >>> ((nI 3 * x) &&& 31) &&& nI 7) - nI 1 else -1)) ∧ σ' = σ) := by
  refine z_iload_n (pc := 0) dX2_ownAt_0 rfl ?_
  refine z_iconst (pc := 1) (v := (nI 5)) dX2_ownAt_1 (by decide) ?_
  refine z_icmp_lt (pc := 2) (tgt := 7) dX2_ownAt_2 (by decide) (fun h2 => ?_) (fun h2 => ?_)
  · refine z_aload_n (pc := 7) dX2_ownAt_7 rfl ?_
    refine z_getA (pc := 8) f_X2_22 dX2_ownAt_8 (by decide) rfl rfl ?_
    refine z_iload_n (pc := 11) dX2_ownAt_11 rfl ?_
    refine z_ialdN (pc := 12) dX2_ownAt_12 (by decide) rfl (by decide) (ha) ?_
    refine z_iconst (pc := 13) (v := (nI 3)) dX2_ownAt_13 (by decide) ?_
    refine z_iload_n (pc := 14) dX2_ownAt_14 rfl ?_
    refine z_imul (pc := 15) dX2_ownAt_15 ?_
    refine z_ishr (pc := 16) dX2_ownAt_16 ?_
    refine z_bipush (pc := 17) (v := (nI 7)) dX2_ownAt_17 (by decide) ?_
    refine z_iand (pc := 19) dX2_ownAt_19 ?_
    refine z_iconst (pc := 20) (v := (nI 1)) dX2_ownAt_20 (by decide) ?_
    refine z_isub (pc := 21) dX2_ownAt_21 ?_
    exact z_ireturn (pc := 22) dX2_ownAt_22 rfl rfl (⟨by rw [if_pos h2], rfl⟩)
  · refine z_iconst (pc := 5) (v := (-1)) dX2_ownAt_5 (by decide) ?_
    exact z_ireturn (pc := 6) dX2_ownAt_6 rfl rfl (⟨by rw [if_neg h2], rfl⟩)
set_option maxRecDepth 20000 in
theorem c_X2_putWay0 {σ : z_Sto} {a b : Nat} (ha : a < 5) (hb : b < 5) : z_R layX iX2_putWay 0 [some (.ref 35), some (.int (nI a)), some (.int (nI b)), some (.int (nI 0))] [] σ (fun r σ' => r = none ∧ σ' = z_up (z_up (z_up (z_up (z_up σ 36 (a * 5 + b) (nI 0)) 36 (b * 5 + a) (nI 0)) 35 9 (σ 35 9 + -1)) 37 (a * 5 + b) (nI 0)) 37 (b * 5 + a) (nI 0)) := by
  refine z_aload_n (pc := 0) dX2_putWay_0 rfl ?_
  refine z_getA (pc := 1) f_X2_11 dX2_putWay_1 (by decide) rfl rfl ?_
  refine z_iload_n (pc := 4) dX2_putWay_4 rfl ?_
  refine z_iload_n (pc := 5) dX2_putWay_5 rfl ?_
  refine z_cS2 (pc := 6) mX2_place l_X2_48 (by decide) dX2_putWay_6 (by decide) (Nat.le_of_ble_eq_true rfl) (c_X2_place) rfl (fun r6 σ6 hr6 => ?_)
  obtain ⟨rfl, rfl⟩ := hr6
  refine z_iload_n (pc := 9) dX2_putWay_9 rfl ?_
  refine z_zastN (pc := 10) dX2_putWay_10 (by decide) rfl (by decide) (by omega) (Or.inl rfl) ?_
  refine z_aload_n (pc := 11) dX2_putWay_11 rfl ?_
  refine z_getA (pc := 12) f_X2_11 dX2_putWay_12 (by decide) rfl rfl ?_
  refine z_iload_n (pc := 15) dX2_putWay_15 rfl ?_
  refine z_iload_n (pc := 16) dX2_putWay_16 rfl ?_
  refine z_cS2 (pc := 17) mX2_place l_X2_48 (by decide) dX2_putWay_17 (by decide) (Nat.le_of_ble_eq_true rfl) (c_X2_place) rfl (fun r17 σ17 hr17 => ?_)
  obtain ⟨rfl, rfl⟩ := hr17
  refine z_iload_n (pc := 20) dX2_putWay_20 rfl ?_
  refine z_zastN (pc := 21) dX2_putWay_21 (by decide) rfl (by decide) (by omega) (Or.inl rfl) ?_
  refine z_aload_n (pc := 22) dX2_putWay_22 rfl ?_
  refine z_dup_a (pc := 23) dX2_putWay_23 ?_
  refine z_getI (pc := 24) f_X2_41 dX2_putWay_24 (by decide) rfl rfl ?_
  simp only [z_up_at, reduceIte, Nat.reduceEqDiff]
  refine z_iload_n (pc := 27) dX2_putWay_27 rfl ?_
  refine z_if_eq (pc := 28) (tgt := 35) dX2_putWay_28 (by decide) (fun h28 => ?_) (fun h28 => ?_)
  · refine z_iconst (pc := 35) (v := (-1)) dX2_putWay_35 (by decide) ?_
    refine z_iadd (pc := 36) dX2_putWay_36 ?_
    refine z_putI (pc := 37) f_X2_41 tyX2_ok nmX2 (by decide) rfl rfl rfl dX2_putWay_37 (by decide) rfl rfl ?_
    refine z_iload_n (pc := 40) dX2_putWay_40 rfl ?_
    refine z_if_ne (pc := 41) (tgt := 66) dX2_putWay_41 (by decide) (fun h41 => ?_) (fun h41 => ?_)
    · exact absurd rfl h41
    · refine z_aload_n (pc := 44) dX2_putWay_44 rfl ?_
      refine z_getA (pc := 45) f_X2_15 dX2_putWay_45 (by decide) rfl rfl ?_
      refine z_iload_n (pc := 48) dX2_putWay_48 rfl ?_
      refine z_iload_n (pc := 49) dX2_putWay_49 rfl ?_
      refine z_cS2 (pc := 50) mX2_place l_X2_48 (by decide) dX2_putWay_50 (by decide) (Nat.le_of_ble_eq_true rfl) (c_X2_place) rfl (fun r50 σ50 hr50 => ?_)
      obtain ⟨rfl, rfl⟩ := hr50
      refine z_iconst (pc := 53) (v := (nI 0)) dX2_putWay_53 (by decide) ?_
      refine z_iastN (pc := 54) dX2_putWay_54 (by decide) rfl (by decide) (by omega) ?_
      refine z_aload_n (pc := 55) dX2_putWay_55 rfl ?_
      refine z_getA (pc := 56) f_X2_15 dX2_putWay_56 (by decide) rfl rfl ?_
      refine z_iload_n (pc := 59) dX2_putWay_59 rfl ?_
      refine z_iload_n (pc := 60) dX2_putWay_60 rfl ?_
      refine z_cS2 (pc := 61) mX2_place l_X2_48 (by decide) dX2_putWay_61 (by decide) (Nat.le_of_ble_eq_true rfl) (c_X2_place) rfl (fun r61 σ61 hr61 => ?_)
      obtain ⟨rfl, rfl⟩ := hr61
      refine z_iconst (pc := 64) (v := (nI 0)) dX2_putWay_64 (by decide) ?_
      refine z_iastN (pc := 65) dX2_putWay_65 (by decide) rfl (by decide) (by omega) ?_
      exact z_return (pc := 66) dX2_putWay_66 rfl (⟨rfl, rfl⟩)
  · exact absurd rfl h28
set_option maxRecDepth 20000 in
theorem c_X2_putWay1 {σ : z_Sto} {a b : Nat} (ha : a < 5) (hb : b < 5) : z_R layX iX2_putWay 0 [some (.ref 35), some (.int (nI a)), some (.int (nI b)), some (.int (nI 1))] [] σ (fun r σ' => r = none ∧ σ' = z_up (z_up (z_up σ 36 (a * 5 + b) (nI 1)) 36 (b * 5 + a) (nI 1)) 35 9 (σ 35 9 + nI 1)) := by
  refine z_aload_n (pc := 0) dX2_putWay_0 rfl ?_
  refine z_getA (pc := 1) f_X2_11 dX2_putWay_1 (by decide) rfl rfl ?_
  refine z_iload_n (pc := 4) dX2_putWay_4 rfl ?_
  refine z_iload_n (pc := 5) dX2_putWay_5 rfl ?_
  refine z_cS2 (pc := 6) mX2_place l_X2_48 (by decide) dX2_putWay_6 (by decide) (Nat.le_of_ble_eq_true rfl) (c_X2_place) rfl (fun r6 σ6 hr6 => ?_)
  obtain ⟨rfl, rfl⟩ := hr6
  refine z_iload_n (pc := 9) dX2_putWay_9 rfl ?_
  refine z_zastN (pc := 10) dX2_putWay_10 (by decide) rfl (by decide) (by omega) (Or.inr rfl) ?_
  refine z_aload_n (pc := 11) dX2_putWay_11 rfl ?_
  refine z_getA (pc := 12) f_X2_11 dX2_putWay_12 (by decide) rfl rfl ?_
  refine z_iload_n (pc := 15) dX2_putWay_15 rfl ?_
  refine z_iload_n (pc := 16) dX2_putWay_16 rfl ?_
  refine z_cS2 (pc := 17) mX2_place l_X2_48 (by decide) dX2_putWay_17 (by decide) (Nat.le_of_ble_eq_true rfl) (c_X2_place) rfl (fun r17 σ17 hr17 => ?_)
  obtain ⟨rfl, rfl⟩ := hr17
  refine z_iload_n (pc := 20) dX2_putWay_20 rfl ?_
  refine z_zastN (pc := 21) dX2_putWay_21 (by decide) rfl (by decide) (by omega) (Or.inr rfl) ?_
  refine z_aload_n (pc := 22) dX2_putWay_22 rfl ?_
  refine z_dup_a (pc := 23) dX2_putWay_23 ?_
  refine z_getI (pc := 24) f_X2_41 dX2_putWay_24 (by decide) rfl rfl ?_
  simp only [z_up_at, reduceIte, Nat.reduceEqDiff]
  refine z_iload_n (pc := 27) dX2_putWay_27 rfl ?_
  refine z_if_eq (pc := 28) (tgt := 35) dX2_putWay_28 (by decide) (fun h28 => ?_) (fun h28 => ?_)
  · exact absurd h28 (by decide)
  · refine z_iconst (pc := 31) (v := (nI 1)) dX2_putWay_31 (by decide) ?_
    refine z_goto (pc := 32) (tgt := 36) dX2_putWay_32 (by decide) ?_
    refine z_iadd (pc := 36) dX2_putWay_36 ?_
    refine z_putI (pc := 37) f_X2_41 tyX2_ok nmX2 (by decide) rfl rfl rfl dX2_putWay_37 (by decide) rfl rfl ?_
    refine z_iload_n (pc := 40) dX2_putWay_40 rfl ?_
    refine z_if_ne (pc := 41) (tgt := 66) dX2_putWay_41 (by decide) (fun h41 => ?_) (fun h41 => ?_)
    · exact z_return (pc := 66) dX2_putWay_66 rfl (⟨rfl, rfl⟩)
    · exact absurd h41 (by decide)
