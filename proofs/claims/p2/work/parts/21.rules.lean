/-! Rules: admits, marks, copies, fading; Roster: the marked lines -/
def x_adm (σ : z_Sto) (w v : Int32) : Prop := ∃ k, k < 8 ∧ w = nI k ∧ z_least k ≤ v ∧ v ≤ z_most k ∧ (k = 4 → σ 2 5 ≤ v) ∧ (k = 5 → v ≤ σ 2 4)
theorem x_adm_iff {σ : z_Sto} {v : Int32} {k : Nat} (hk : k < 8) : x_adm σ (nI k) v ↔ (z_least k ≤ v ∧ v ≤ z_most k ∧ (k = 4 → σ 2 5 ≤ v) ∧ (k = 5 → v ≤ σ 2 4)) := by
  constructor
  · rintro ⟨j, hj, e, h⟩
    have := z_nI_inj (by omega) (by omega) e
    subst this
    exact h
  · exact fun h => ⟨k, hk, rfl, h⟩
theorem x_adm_no {σ : z_Sto} {w v : Int32} (h : ∀ k, k < 8 → w ≠ nI k) : ¬ x_adm σ w v := by
  rintro ⟨k, hk, e, -⟩
  exact h k hk e
theorem z_nle {x y : Int32} (h : x < y) : ¬ y ≤ x := by rw [Int32.not_le]; exact h
theorem z_nlt {x y : Int32} (h : ¬ x < y) : y ≤ x := by rw [Int32.not_lt] at h; exact h
set_option maxRecDepth 20000 in
theorem c_X5_admits {σ : z_Sto} {w v : Int32} : z_R layX iX5_admits 0 [some (.ref 1), some (.int w), some (.int v)] [] σ (fun r σ' => ((r = some (.int (nI 1)) ∧ x_adm σ w v) ∨ (r = some (.int (nI 0)) ∧ ¬ x_adm σ w v)) ∧ σ' = σ) := by
  refine z_iload_n (pc := 0) dX5_admits_0 rfl ?_
  refine z_if_lt (pc := 1) (tgt := 31) dX5_admits_1 (by decide) (fun h1 => ?_) (fun h1 => ?_)
  · refine z_iconst (pc := 31) (v := (nI 0)) dX5_admits_31 (by decide) ?_
    exact z_ireturn (pc := 32) dX5_admits_32 rfl (by decide) ⟨Or.inr ⟨rfl, x_adm_no (z_no_neg (by decide) h1)⟩, rfl⟩
  · refine z_iload_n (pc := 4) dX5_admits_4 rfl ?_
    refine z_aload_n (pc := 5) dX5_admits_5 rfl ?_
    refine z_getA (pc := 6) f_X5_18 dX5_admits_6 (by decide) rfl rfl ?_
    refine z_alenI (pc := 9) dX5_admits_9 (by decide) rfl ?_
    refine z_icmp_ge (pc := 10) (tgt := 31) dX5_admits_10 (by decide) (fun h10 => ?_) (fun h10 => ?_)
    · refine z_iconst (pc := 31) (v := (nI 0)) dX5_admits_31 (by decide) ?_
      exact z_ireturn (pc := 32) dX5_admits_32 rfl (by decide) ⟨Or.inr ⟨rfl, x_adm_no (z_no_ge (by decide) h10)⟩, rfl⟩
    · obtain ⟨k, hk, rfl⟩ := z_ix (n := 8) (by decide) h1 h10
      refine z_iload_n (pc := 13) dX5_admits_13 rfl ?_
      refine z_stl (pc := 14) (f := z_least) (fun _ _ h => h.2.1) sX_X5_21 dX5_admits_14 dX5_admits_17 dX5_admits_18 rfl (z_in_nI hk) ?_
      rw [z_cl (by omega)]
      refine z_icmp_lt (pc := 19) (tgt := 31) dX5_admits_19 (by decide) (fun h19 => ?_) (fun h19 => ?_)
      · refine z_iconst (pc := 31) (v := (nI 0)) dX5_admits_31 (by decide) ?_
        exact z_ireturn (pc := 32) dX5_admits_32 rfl (by decide) (⟨Or.inr ⟨rfl, by rw [x_adm_iff hk]; rintro ⟨g1, g2, -⟩; first | exact z_nle h19 g1 | exact h28 g2⟩, rfl⟩)
      · refine z_iload_n (pc := 22) dX5_admits_22 rfl ?_
        refine z_stl (pc := 23) (f := z_most) (fun _ _ h => h.2.2) sX_X5_24 dX5_admits_23 dX5_admits_26 dX5_admits_27 rfl (z_in_nI hk) ?_
        rw [z_cl (by omega)]
        refine z_icmp_le (pc := 28) (tgt := 33) dX5_admits_28 (by decide) (fun h28 => ?_) (fun h28 => ?_)
        · refine z_iload_n (pc := 33) dX5_admits_33 rfl ?_
          refine z_iconst (pc := 34) (v := (nI 4)) dX5_admits_34 (by decide) ?_
          refine z_icmp_ne (pc := 35) (tgt := 54) dX5_admits_35 (by decide) (fun h35 => ?_) (fun h35 => ?_)
          · have q35 : k ≠ 4 := fun q => h35 (by rw [q])
            refine z_iload_n (pc := 54) dX5_admits_54 rfl ?_
            refine z_iconst (pc := 55) (v := (nI 5)) dX5_admits_55 (by decide) ?_
            refine z_icmp_ne (pc := 56) (tgt := 69) dX5_admits_56 (by decide) (fun h56 => ?_) (fun h56 => ?_)
            · have q56 : k ≠ 5 := fun q => h56 (by rw [q])
              refine z_iconst (pc := 69) (v := (nI 1)) dX5_admits_69 (by decide) ?_
              refine z_goto (pc := 70) (tgt := 74) dX5_admits_70 (by decide) ?_
              exact z_ireturn (pc := 74) dX5_admits_74 rfl (by decide) (⟨by first | exact Or.inr ⟨rfl, by rw [x_adm_iff hk]; rintro ⟨-, -, -, g4⟩; exact z_nle h66 (g4 q56)⟩ | exact Or.inl ⟨rfl, (x_adm_iff hk).mpr ⟨z_nlt h19, h28, fun q => absurd q q35, fun q => absurd q q56⟩⟩ | exact Or.inl ⟨rfl, (x_adm_iff hk).mpr ⟨z_nlt h19, h28, fun q => absurd q q35, fun _ => z_nlt h66⟩⟩, rfl⟩)
            · have q56 : k = 5 := z_nI_inj (by omega) (by decide) h56
              refine z_iload_n (pc := 59) dX5_admits_59 rfl ?_
              refine z_aload_n (pc := 60) dX5_admits_60 rfl ?_
              refine z_getA (pc := 61) f_X5_18 dX5_admits_61 (by decide) rfl rfl ?_
              refine z_iconst (pc := 64) (v := (nI 4)) dX5_admits_64 (by decide) ?_
              refine z_ialdN (pc := 65) dX5_admits_65 (by decide) rfl (by decide) (by decide) ?_
              refine z_icmp_gt (pc := 66) (tgt := 73) dX5_admits_66 (by decide) (fun h66 => ?_) (fun h66 => ?_)
              · refine z_iconst (pc := 73) (v := (nI 0)) dX5_admits_73 (by decide) ?_
                exact z_ireturn (pc := 74) dX5_admits_74 rfl (by decide) (⟨by first | exact Or.inr ⟨rfl, by rw [x_adm_iff hk]; rintro ⟨-, -, -, g4⟩; exact z_nle h66 (g4 q56)⟩ | exact Or.inl ⟨rfl, (x_adm_iff hk).mpr ⟨z_nlt h19, h28, fun q => absurd q q35, fun q => absurd q q56⟩⟩ | exact Or.inl ⟨rfl, (x_adm_iff hk).mpr ⟨z_nlt h19, h28, fun q => absurd q q35, fun _ => z_nlt h66⟩⟩, rfl⟩)
              · refine z_iconst (pc := 69) (v := (nI 1)) dX5_admits_69 (by decide) ?_
                refine z_goto (pc := 70) (tgt := 74) dX5_admits_70 (by decide) ?_
                exact z_ireturn (pc := 74) dX5_admits_74 rfl (by decide) (⟨by first | exact Or.inr ⟨rfl, by rw [x_adm_iff hk]; rintro ⟨-, -, -, g4⟩; exact z_nle h66 (g4 q56)⟩ | exact Or.inl ⟨rfl, (x_adm_iff hk).mpr ⟨z_nlt h19, h28, fun q => absurd q q35, fun q => absurd q q56⟩⟩ | exact Or.inl ⟨rfl, (x_adm_iff hk).mpr ⟨z_nlt h19, h28, fun q => absurd q q35, fun _ => z_nlt h66⟩⟩, rfl⟩)
          · have q35 : k = 4 := z_nI_inj (by omega) (by decide) h35
            refine z_aload_n (pc := 38) dX5_admits_38 rfl ?_
            refine z_getA (pc := 39) f_X5_18 dX5_admits_39 (by decide) rfl rfl ?_
            refine z_iconst (pc := 42) (v := (nI 5)) dX5_admits_42 (by decide) ?_
            refine z_ialdN (pc := 43) dX5_admits_43 (by decide) rfl (by decide) (by decide) ?_
            refine z_iload_n (pc := 44) dX5_admits_44 rfl ?_
            refine z_icmp_gt (pc := 45) (tgt := 52) dX5_admits_45 (by decide) (fun h45 => ?_) (fun h45 => ?_)
            · refine z_iconst (pc := 52) (v := (nI 0)) dX5_admits_52 (by decide) ?_
              exact z_ireturn (pc := 53) dX5_admits_53 rfl (by decide) (⟨by first | exact Or.inr ⟨rfl, by rw [x_adm_iff hk]; rintro ⟨-, -, g3, -⟩; exact z_nle h45 (g3 q35)⟩ | exact Or.inl ⟨rfl, (x_adm_iff hk).mpr ⟨z_nlt h19, h28, fun _ => z_nlt h45, fun q => absurd (q35.symm.trans q) (by decide)⟩⟩, rfl⟩)
            · refine z_iconst (pc := 48) (v := (nI 1)) dX5_admits_48 (by decide) ?_
              refine z_goto (pc := 49) (tgt := 53) dX5_admits_49 (by decide) ?_
              exact z_ireturn (pc := 53) dX5_admits_53 rfl (by decide) (⟨by first | exact Or.inr ⟨rfl, by rw [x_adm_iff hk]; rintro ⟨-, -, g3, -⟩; exact z_nle h45 (g3 q35)⟩ | exact Or.inl ⟨rfl, (x_adm_iff hk).mpr ⟨z_nlt h19, h28, fun _ => z_nlt h45, fun q => absurd (q35.symm.trans q) (by decide)⟩⟩, rfl⟩)
        · refine z_iconst (pc := 31) (v := (nI 0)) dX5_admits_31 (by decide) ?_
          exact z_ireturn (pc := 32) dX5_admits_32 rfl (by decide) (⟨Or.inr ⟨rfl, by rw [x_adm_iff hk]; rintro ⟨g1, g2, -⟩; first | exact z_nle h19 g1 | exact h28 g2⟩, rfl⟩)
def x_arm (s o : Int32) : Prop := nI 1 ≤ s ∧ s ≤ nI 20000 ∧ nI 1 ≤ o ∧ o ≤ s
set_option maxRecDepth 20000 in
theorem c_X5_areMarks {σ : z_Sto} {s o : Int32} : z_R layX iX5_areMarks 0 [some (.int s), some (.int o)] [] σ (fun r σ' => ((r = some (.int (nI 1)) ∧ x_arm s o) ∨ (r = some (.int (nI 0)) ∧ ¬ x_arm s o)) ∧ σ' = σ) := by
  have e1 : z_least (nI 4).toNatClampNeg = nI 1 := by decide
  have e2 : z_most (nI 4).toNatClampNeg = nI 20000 := by decide
  have e3 : z_least (nI 5).toNatClampNeg = nI 1 := by decide
  refine z_iload_n (pc := 0) dX5_areMarks_0 rfl ?_
  refine z_stc (pc := 1) (f := z_least) (x := nI 4) (fun _ _ h => h.2.1) sX_X5_21 dX5_areMarks_1 dX5_areMarks_4 dX5_areMarks_5 (by decide) (z_in_nI (by decide)) ?_
  rw [e1]
  refine z_icmp_lt (pc := 6) (tgt := 36) dX5_areMarks_6 (by decide) (fun h6 => ?_) (fun h6 => ?_)
  · refine z_iconst (pc := 36) (v := (nI 0)) dX5_areMarks_36 (by decide) ?_
    exact z_ireturn (pc := 37) dX5_areMarks_37 rfl (by decide) (⟨by first | exact Or.inr ⟨rfl, fun g => z_nle h6 g.1⟩ | exact Or.inr ⟨rfl, fun g => z_nle h15 g.2.1⟩ | exact Or.inr ⟨rfl, fun g => z_nle h24 g.2.2.1⟩ | exact Or.inr ⟨rfl, fun g => z_nle h29 g.2.2.2⟩ | exact Or.inl ⟨rfl, z_nlt h6, z_nlt h15, z_nlt h24, z_nlt h29⟩, rfl⟩)
  · refine z_iload_n (pc := 9) dX5_areMarks_9 rfl ?_
    refine z_stc (pc := 10) (f := z_most) (x := nI 4) (fun _ _ h => h.2.2) sX_X5_24 dX5_areMarks_10 dX5_areMarks_13 dX5_areMarks_14 (by decide) (z_in_nI (by decide)) ?_
    rw [e2]
    refine z_icmp_gt (pc := 15) (tgt := 36) dX5_areMarks_15 (by decide) (fun h15 => ?_) (fun h15 => ?_)
    · refine z_iconst (pc := 36) (v := (nI 0)) dX5_areMarks_36 (by decide) ?_
      exact z_ireturn (pc := 37) dX5_areMarks_37 rfl (by decide) (⟨by first | exact Or.inr ⟨rfl, fun g => z_nle h6 g.1⟩ | exact Or.inr ⟨rfl, fun g => z_nle h15 g.2.1⟩ | exact Or.inr ⟨rfl, fun g => z_nle h24 g.2.2.1⟩ | exact Or.inr ⟨rfl, fun g => z_nle h29 g.2.2.2⟩ | exact Or.inl ⟨rfl, z_nlt h6, z_nlt h15, z_nlt h24, z_nlt h29⟩, rfl⟩)
    · refine z_iload_n (pc := 18) dX5_areMarks_18 rfl ?_
      refine z_stc (pc := 19) (f := z_least) (x := nI 5) (fun _ _ h => h.2.1) sX_X5_21 dX5_areMarks_19 dX5_areMarks_22 dX5_areMarks_23 (by decide) (z_in_nI (by decide)) ?_
      rw [e3]
      refine z_icmp_lt (pc := 24) (tgt := 36) dX5_areMarks_24 (by decide) (fun h24 => ?_) (fun h24 => ?_)
      · refine z_iconst (pc := 36) (v := (nI 0)) dX5_areMarks_36 (by decide) ?_
        exact z_ireturn (pc := 37) dX5_areMarks_37 rfl (by decide) (⟨by first | exact Or.inr ⟨rfl, fun g => z_nle h6 g.1⟩ | exact Or.inr ⟨rfl, fun g => z_nle h15 g.2.1⟩ | exact Or.inr ⟨rfl, fun g => z_nle h24 g.2.2.1⟩ | exact Or.inr ⟨rfl, fun g => z_nle h29 g.2.2.2⟩ | exact Or.inl ⟨rfl, z_nlt h6, z_nlt h15, z_nlt h24, z_nlt h29⟩, rfl⟩)
      · refine z_iload_n (pc := 27) dX5_areMarks_27 rfl ?_
        refine z_iload_n (pc := 28) dX5_areMarks_28 rfl ?_
        refine z_icmp_gt (pc := 29) (tgt := 36) dX5_areMarks_29 (by decide) (fun h29 => ?_) (fun h29 => ?_)
        · refine z_iconst (pc := 36) (v := (nI 0)) dX5_areMarks_36 (by decide) ?_
          exact z_ireturn (pc := 37) dX5_areMarks_37 rfl (by decide) (⟨by first | exact Or.inr ⟨rfl, fun g => z_nle h6 g.1⟩ | exact Or.inr ⟨rfl, fun g => z_nle h15 g.2.1⟩ | exact Or.inr ⟨rfl, fun g => z_nle h24 g.2.2.1⟩ | exact Or.inr ⟨rfl, fun g => z_nle h29 g.2.2.2⟩ | exact Or.inl ⟨rfl, z_nlt h6, z_nlt h15, z_nlt h24, z_nlt h29⟩, rfl⟩)
        · refine z_iconst (pc := 32) (v := (nI 1)) dX5_areMarks_32 (by decide) ?_
          refine z_goto (pc := 33) (tgt := 37) dX5_areMarks_33 (by decide) ?_
          exact z_ireturn (pc := 37) dX5_areMarks_37 rfl (by decide) (⟨by first | exact Or.inr ⟨rfl, fun g => z_nle h6 g.1⟩ | exact Or.inr ⟨rfl, fun g => z_nle h15 g.2.1⟩ | exact Or.inr ⟨rfl, fun g => z_nle h24 g.2.2.1⟩ | exact Or.inr ⟨rfl, fun g => z_nle h29 g.2.2.2⟩ | exact Or.inl ⟨rfl, z_nlt h6, z_nlt h15, z_nlt h24, z_nlt h29⟩, rfl⟩)
def x_copy (σ : z_Sto) : z_Sto := fun c => if c = 23 then (fun j => if j < 8 then σ 2 j else σ 23 j) else σ c
set_option maxRecDepth 20000 in
theorem c_X5_copyWithMarks {σ : z_Sto} {s o : Int32} : z_R layX iX5_copyWithMarks 0 [some (.ref 22), some (.ref 1), some (.int s), some (.int o)] [] σ (fun r σ' => r = none ∧ σ' = z_up (z_up (x_copy σ) 23 4 s) 23 5 o) := by
  refine z_aload_n (pc := 0) dX5_copyWithMarks_0 rfl ?_
  refine z_getA (pc := 1) f_X5_18 dX5_copyWithMarks_1 (by decide) rfl rfl ?_
  refine z_iconst (pc := 4) (v := (nI 0)) dX5_copyWithMarks_4 (by decide) ?_
  refine z_aload_n (pc := 5) dX5_copyWithMarks_5 rfl ?_
  refine z_getA (pc := 6) f_X5_18 dX5_copyWithMarks_6 (by decide) rfl rfl ?_
  refine z_iconst (pc := 9) (v := (nI 0)) dX5_copyWithMarks_9 (by decide) ?_
  refine z_aload_n (pc := 10) dX5_copyWithMarks_10 rfl ?_
  refine z_getA (pc := 11) f_X5_18 dX5_copyWithMarks_11 (by decide) rfl rfl ?_
  refine z_alenI (pc := 14) dX5_copyWithMarks_14 (by decide) rfl ?_
  refine z_copy8 (pc := 15) l_X5_27 (by decide) (Nat.le_of_ble_eq_true rfl) (by decide) (by decide) rfl rfl dX5_copyWithMarks_15 ?_
  refine z_aload_n (pc := 18) dX5_copyWithMarks_18 rfl ?_
  refine z_getA (pc := 19) f_X5_18 dX5_copyWithMarks_19 (by decide) rfl rfl ?_
  refine z_iconst (pc := 22) (v := (nI 4)) dX5_copyWithMarks_22 (by decide) ?_
  refine z_iload_n (pc := 23) dX5_copyWithMarks_23 rfl ?_
  refine z_iastN (pc := 24) dX5_copyWithMarks_24 (by decide) rfl (by decide) (by decide) ?_
  refine z_aload_n (pc := 25) dX5_copyWithMarks_25 rfl ?_
  refine z_getA (pc := 26) f_X5_18 dX5_copyWithMarks_26 (by decide) rfl rfl ?_
  refine z_iconst (pc := 29) (v := (nI 5)) dX5_copyWithMarks_29 (by decide) ?_
  refine z_iload_n (pc := 30) dX5_copyWithMarks_30 rfl ?_
  refine z_iastN (pc := 31) dX5_copyWithMarks_31 (by decide) rfl (by decide) (by decide) ?_
  exact z_return (pc := 32) dX5_copyWithMarks_32 rfl (⟨rfl, rfl⟩)
def x_fade (p d h : Int32) : Int32 := if d / h ≤ nI 30 then (p >>> ((d / h) &&& 31)) - (p >>> ((d / h) &&& 31)) * (d - d / h * h) / (nI 2 * h) else nI 0
theorem x_half_ne {h : Nat} (h1 : 1 ≤ h) (h2 : h ≤ 500) : ¬ nI h = 0 := nI_ne0 (by omega) (by omega)
theorem x_half2_ne {h : Nat} (h1 : 1 ≤ h) (h2 : h ≤ 500) : ¬ nI (2 * h) = 0 := nI_ne0 (by omega) (by omega)
theorem x_max1 {h : Nat} (h1 : 1 ≤ h) (h2 : h ≤ 500) : (if nI 1 < nI h then nI h else nI 1) = nI h := by
  by_cases q : h = 1
  · subst q; rfl
  · rw [if_pos ((nI_ltI (by decide) (by omega)).mpr (by omega))]
set_option maxRecDepth 20000 in
theorem c_X5_fade {σ : z_Sto} {p d : Int32} {h : Nat} (hh : σ 2 3 = nI h) (h1 : 1 ≤ h) (h2 : h ≤ 500) : z_R layX iX5_fade 0 [some (.ref 1), some (.int p), some (.int d), none, none, none] [] σ (fun r σ' => r = some (.int (x_fade p d (nI h))) ∧ σ' = σ) := by
  refine z_iconst (pc := 0) (v := (nI 1)) dX5_fade_0 (by decide) ?_
  refine z_aload_n (pc := 1) dX5_fade_1 rfl ?_
  refine z_getA (pc := 2) f_X5_18 dX5_fade_2 (by decide) rfl rfl ?_
  refine z_iconst (pc := 5) (v := (nI 3)) dX5_fade_5 (by decide) ?_
  refine z_ialdN (pc := 6) dX5_fade_6 (by decide) rfl (by decide) (by decide) ?_
  rw [hh]
  refine z_max (pc := 7) l_X5_33 (by decide) (Nat.le_of_ble_eq_true rfl) dX5_fade_7 ?_
  rw [x_max1 h1 h2]
  refine z_istore_n (pc := 10) dX5_fade_10 (by decide) rfl rfl ?_
  refine z_iload_n (pc := 11) dX5_fade_11 rfl ?_
  refine z_iload_n (pc := 12) dX5_fade_12 rfl ?_
  refine z_idiv (pc := 13) dX5_fade_13 (x_half_ne h1 h2) ?_
  refine z_istore (pc := 14) dX5_fade_14 (by decide) rfl rfl ?_
  refine z_iload (pc := 16) dX5_fade_16 rfl ?_
  refine z_bipush (pc := 18) (v := (nI 30)) dX5_fade_18 (by decide) ?_
  refine z_icmp_le (pc := 20) (tgt := 25) dX5_fade_20 (by decide) (fun h20 => ?_) (fun h20 => ?_)
  · refine z_iload_n (pc := 25) dX5_fade_25 rfl ?_
    refine z_iload (pc := 26) dX5_fade_26 rfl ?_
    refine z_ishr (pc := 28) dX5_fade_28 ?_
    refine z_istore (pc := 29) dX5_fade_29 (by decide) rfl rfl ?_
    refine z_iload (pc := 31) dX5_fade_31 rfl ?_
    refine z_iload (pc := 33) dX5_fade_33 rfl ?_
    refine z_iload_n (pc := 35) dX5_fade_35 rfl ?_
    refine z_iload_n (pc := 36) dX5_fade_36 rfl ?_
    refine z_irem (pc := 37) dX5_fade_37 (x_half_ne h1 h2) ?_
    refine z_imul (pc := 38) dX5_fade_38 ?_
    refine z_iconst (pc := 39) (v := (nI 2)) dX5_fade_39 (by decide) ?_
    refine z_iload_n (pc := 40) dX5_fade_40 rfl ?_
    refine z_imulN (pc := 41) dX5_fade_41 ?_
    refine z_idiv (pc := 42) dX5_fade_42 (x_half2_ne h1 h2) ?_
    refine z_isub (pc := 43) dX5_fade_43 ?_
    exact z_ireturn (pc := 44) dX5_fade_44 rfl rfl (⟨by rw [x_fade, if_pos h20, pk_mul], rfl⟩)
  · refine z_iconst (pc := 23) (v := (nI 0)) dX5_fade_23 (by decide) ?_
    exact z_ireturn (pc := 24) dX5_fade_24 rfl rfl (⟨by rw [x_fade, if_neg h20], rfl⟩)
set_option maxRecDepth 20000 in
theorem c_X5_fadeT {σ : z_Sto} {p d : Int32} {h : Nat} (hh : σ 23 3 = nI h) (h1 : 1 ≤ h) (h2 : h ≤ 500) : z_R layX iX5_fade 0 [some (.ref 22), some (.int p), some (.int d), none, none, none] [] σ (fun r σ' => r = some (.int (x_fade p d (nI h))) ∧ σ' = σ) := by
  refine z_iconst (pc := 0) (v := (nI 1)) dX5_fade_0 (by decide) ?_
  refine z_aload_n (pc := 1) dX5_fade_1 rfl ?_
  refine z_getA (pc := 2) f_X5_18 dX5_fade_2 (by decide) rfl rfl ?_
  refine z_iconst (pc := 5) (v := (nI 3)) dX5_fade_5 (by decide) ?_
  refine z_ialdN (pc := 6) dX5_fade_6 (by decide) rfl (by decide) (by decide) ?_
  rw [hh]
  refine z_max (pc := 7) l_X5_33 (by decide) (Nat.le_of_ble_eq_true rfl) dX5_fade_7 ?_
  rw [x_max1 h1 h2]
  refine z_istore_n (pc := 10) dX5_fade_10 (by decide) rfl rfl ?_
  refine z_iload_n (pc := 11) dX5_fade_11 rfl ?_
  refine z_iload_n (pc := 12) dX5_fade_12 rfl ?_
  refine z_idiv (pc := 13) dX5_fade_13 (x_half_ne h1 h2) ?_
  refine z_istore (pc := 14) dX5_fade_14 (by decide) rfl rfl ?_
  refine z_iload (pc := 16) dX5_fade_16 rfl ?_
  refine z_bipush (pc := 18) (v := (nI 30)) dX5_fade_18 (by decide) ?_
  refine z_icmp_le (pc := 20) (tgt := 25) dX5_fade_20 (by decide) (fun h20 => ?_) (fun h20 => ?_)
  · refine z_iload_n (pc := 25) dX5_fade_25 rfl ?_
    refine z_iload (pc := 26) dX5_fade_26 rfl ?_
    refine z_ishr (pc := 28) dX5_fade_28 ?_
    refine z_istore (pc := 29) dX5_fade_29 (by decide) rfl rfl ?_
    refine z_iload (pc := 31) dX5_fade_31 rfl ?_
    refine z_iload (pc := 33) dX5_fade_33 rfl ?_
    refine z_iload_n (pc := 35) dX5_fade_35 rfl ?_
    refine z_iload_n (pc := 36) dX5_fade_36 rfl ?_
    refine z_irem (pc := 37) dX5_fade_37 (x_half_ne h1 h2) ?_
    refine z_imul (pc := 38) dX5_fade_38 ?_
    refine z_iconst (pc := 39) (v := (nI 2)) dX5_fade_39 (by decide) ?_
    refine z_iload_n (pc := 40) dX5_fade_40 rfl ?_
    refine z_imulN (pc := 41) dX5_fade_41 ?_
    refine z_idiv (pc := 42) dX5_fade_42 (x_half2_ne h1 h2) ?_
    refine z_isub (pc := 43) dX5_fade_43 ?_
    exact z_ireturn (pc := 44) dX5_fade_44 rfl rfl (⟨by rw [x_fade, if_pos h20, pk_mul], rfl⟩)
  · refine z_iconst (pc := 23) (v := (nI 0)) dX5_fade_23 (by decide) ?_
    exact z_ireturn (pc := 24) dX5_fade_24 rfl rfl (⟨by rw [x_fade, if_neg h20], rfl⟩)
def x_tl (mark half : Int32) : Nat → Int32 → Int32 → Int32 × Int32
  | 0, l, w => (l, w)
  | f + 1, l, w => if mark ≤ l / nI 2 then x_tl mark half f (l / nI 2) (w + half) else (l, w)
def x_dv (l : Int32) : Int32 := if nI 1 < l then l else nI 1
def x_rest (mark half l : Int32) : Int32 := ((l - mark + nI 1) * nI 2 * half + x_dv l - nI 1) / x_dv l
def x_te (mark half : Int32) (q : Int32 × Int32) : Int32 := q.2 + (if x_rest mark half q.1 < half then x_rest mark half q.1 else half)
def x_ttb (p mark half : Int32) : Int32 := if mark ≤ p then x_te mark half (x_tl mark half 30 p (nI 0)) else nI 0
theorem x_dv_ne (l : Int32) : ¬ x_dv l = 0 := by
  unfold x_dv
  split
  · rename_i h
    intro e
    rw [e] at h
    exact absurd h (by decide)
  · decide
set_option maxRecDepth 20000 in
theorem c_X5_ttbl {σ : z_Sto} {p mark half : Int32} {i : Nat} {l w : Int32} (hi : i ≤ 30) : z_R layX iX5_ticksTillBelow 23 [some (.ref 1), some (.int p), some (.int mark), some (.int half), some (.int l), some (.int w), some (.int (nI i)), none, none] [] σ (fun r σ' => r = some (.int (x_te mark half (x_tl mark half (30 - i) l w))) ∧ σ' = σ) := by
  generalize hf : 30 - i = f
  induction f using Nat.strongRecOn generalizing i l w
  rename_i f ih
  refine z_iload (pc := 23) dX5_ticksTillBelow_23 rfl ?_
  refine z_bipush (pc := 25) (v := (nI 30)) dX5_ticksTillBelow_25 (by decide) ?_
  refine z_icmp_ge (pc := 27) (tgt := 56) dX5_ticksTillBelow_27 (by decide) (fun h27 => ?_) (fun h27 => ?_)
  · have q27 : i = 30 := by have := (nI_leI (by decide) (by omega)).mp h27; omega
    have hq : x_tl mark half f l w = (l, w) := by rw [← hf, q27]; rfl
    refine z_iload (pc := 56) dX5_ticksTillBelow_56 rfl ?_
    refine z_iload_n (pc := 58) dX5_ticksTillBelow_58 rfl ?_
    refine z_isub (pc := 59) dX5_ticksTillBelow_59 ?_
    refine z_iconst (pc := 60) (v := (nI 1)) dX5_ticksTillBelow_60 (by decide) ?_
    refine z_iadd (pc := 61) dX5_ticksTillBelow_61 ?_
    refine z_istore (pc := 62) dX5_ticksTillBelow_62 (by decide) rfl rfl ?_
    refine z_iconst (pc := 64) (v := (nI 1)) dX5_ticksTillBelow_64 (by decide) ?_
    refine z_iload (pc := 65) dX5_ticksTillBelow_65 rfl ?_
    refine z_max (pc := 67) l_X5_33 (by decide) (Nat.le_of_ble_eq_true rfl) dX5_ticksTillBelow_67 ?_
    refine z_istore (pc := 70) dX5_ticksTillBelow_70 (by decide) rfl rfl ?_
    refine z_iload (pc := 72) dX5_ticksTillBelow_72 rfl ?_
    refine z_iconst (pc := 74) (v := (nI 2)) dX5_ticksTillBelow_74 (by decide) ?_
    refine z_imul (pc := 75) dX5_ticksTillBelow_75 ?_
    refine z_iload_n (pc := 76) dX5_ticksTillBelow_76 rfl ?_
    refine z_imul (pc := 77) dX5_ticksTillBelow_77 ?_
    refine z_iload (pc := 78) dX5_ticksTillBelow_78 rfl ?_
    refine z_iadd (pc := 80) dX5_ticksTillBelow_80 ?_
    refine z_iconst (pc := 81) (v := (nI 1)) dX5_ticksTillBelow_81 (by decide) ?_
    refine z_isub (pc := 82) dX5_ticksTillBelow_82 ?_
    refine z_iload (pc := 83) dX5_ticksTillBelow_83 rfl ?_
    refine z_idiv (pc := 85) dX5_ticksTillBelow_85 (x_dv_ne _) ?_
    refine z_istore (pc := 86) dX5_ticksTillBelow_86 (by decide) rfl rfl ?_
    refine z_iload (pc := 88) dX5_ticksTillBelow_88 rfl ?_
    refine z_iload_n (pc := 90) dX5_ticksTillBelow_90 rfl ?_
    refine z_iload (pc := 91) dX5_ticksTillBelow_91 rfl ?_
    refine z_min (pc := 93) l_X5_39 (by decide) (Nat.le_of_ble_eq_true rfl) dX5_ticksTillBelow_93 ?_
    refine z_iadd (pc := 96) dX5_ticksTillBelow_96 ?_
    exact z_ireturn (pc := 97) dX5_ticksTillBelow_97 rfl rfl (⟨by rw [hq]; rfl, rfl⟩)
  · have q27 : i < 30 := by have : ¬ 30 ≤ i := fun q => h27 ((nI_leI (by decide) (by omega)).mpr q); omega
    have hf1 : f = (30 - (i + 1)) + 1 := by omega
    refine z_iload (pc := 30) dX5_ticksTillBelow_30 rfl ?_
    refine z_iconst (pc := 32) (v := (nI 2)) dX5_ticksTillBelow_32 (by decide) ?_
    refine z_idiv (pc := 33) dX5_ticksTillBelow_33 (by decide) ?_
    refine z_iload_n (pc := 34) dX5_ticksTillBelow_34 rfl ?_
    refine z_icmp_lt (pc := 35) (tgt := 56) dX5_ticksTillBelow_35 (by decide) (fun h35 => ?_) (fun h35 => ?_)
    · have hq : x_tl mark half f l w = (l, w) := by rw [hf1, x_tl, if_neg (z_nle h35)]
      refine z_iload (pc := 56) dX5_ticksTillBelow_56 rfl ?_
      refine z_iload_n (pc := 58) dX5_ticksTillBelow_58 rfl ?_
      refine z_isub (pc := 59) dX5_ticksTillBelow_59 ?_
      refine z_iconst (pc := 60) (v := (nI 1)) dX5_ticksTillBelow_60 (by decide) ?_
      refine z_iadd (pc := 61) dX5_ticksTillBelow_61 ?_
      refine z_istore (pc := 62) dX5_ticksTillBelow_62 (by decide) rfl rfl ?_
      refine z_iconst (pc := 64) (v := (nI 1)) dX5_ticksTillBelow_64 (by decide) ?_
      refine z_iload (pc := 65) dX5_ticksTillBelow_65 rfl ?_
      refine z_max (pc := 67) l_X5_33 (by decide) (Nat.le_of_ble_eq_true rfl) dX5_ticksTillBelow_67 ?_
      refine z_istore (pc := 70) dX5_ticksTillBelow_70 (by decide) rfl rfl ?_
      refine z_iload (pc := 72) dX5_ticksTillBelow_72 rfl ?_
      refine z_iconst (pc := 74) (v := (nI 2)) dX5_ticksTillBelow_74 (by decide) ?_
      refine z_imul (pc := 75) dX5_ticksTillBelow_75 ?_
      refine z_iload_n (pc := 76) dX5_ticksTillBelow_76 rfl ?_
      refine z_imul (pc := 77) dX5_ticksTillBelow_77 ?_
      refine z_iload (pc := 78) dX5_ticksTillBelow_78 rfl ?_
      refine z_iadd (pc := 80) dX5_ticksTillBelow_80 ?_
      refine z_iconst (pc := 81) (v := (nI 1)) dX5_ticksTillBelow_81 (by decide) ?_
      refine z_isub (pc := 82) dX5_ticksTillBelow_82 ?_
      refine z_iload (pc := 83) dX5_ticksTillBelow_83 rfl ?_
      refine z_idiv (pc := 85) dX5_ticksTillBelow_85 (x_dv_ne _) ?_
      refine z_istore (pc := 86) dX5_ticksTillBelow_86 (by decide) rfl rfl ?_
      refine z_iload (pc := 88) dX5_ticksTillBelow_88 rfl ?_
      refine z_iload_n (pc := 90) dX5_ticksTillBelow_90 rfl ?_
      refine z_iload (pc := 91) dX5_ticksTillBelow_91 rfl ?_
      refine z_min (pc := 93) l_X5_39 (by decide) (Nat.le_of_ble_eq_true rfl) dX5_ticksTillBelow_93 ?_
      refine z_iadd (pc := 96) dX5_ticksTillBelow_96 ?_
      exact z_ireturn (pc := 97) dX5_ticksTillBelow_97 rfl rfl (⟨by rw [hq]; rfl, rfl⟩)
    · refine z_iload (pc := 38) dX5_ticksTillBelow_38 rfl ?_
      refine z_iconst (pc := 40) (v := (nI 2)) dX5_ticksTillBelow_40 (by decide) ?_
      refine z_idiv (pc := 41) dX5_ticksTillBelow_41 (by decide) ?_
      refine z_istore (pc := 42) dX5_ticksTillBelow_42 (by decide) rfl rfl ?_
      refine z_iload (pc := 44) dX5_ticksTillBelow_44 rfl ?_
      refine z_iload_n (pc := 46) dX5_ticksTillBelow_46 rfl ?_
      refine z_iadd (pc := 47) dX5_ticksTillBelow_47 ?_
      refine z_istore (pc := 48) dX5_ticksTillBelow_48 (by decide) rfl rfl ?_
      refine z_iincN (pc := 50) dX5_ticksTillBelow_50 rfl (by decide) rfl rfl ?_
      refine z_goto (pc := 53) (tgt := 23) dX5_ticksTillBelow_53 (by decide) ?_
      rw [show x_tl mark half f l w = x_tl mark half (30 - (i + 1)) (l / nI 2) (w + half) by rw [hf1, x_tl, if_pos (z_nlt h35)]]
      exact ih _ (by omega) (i := i + 1) (by omega) rfl
set_option maxRecDepth 20000 in
theorem c_X5_ttb {σ : z_Sto} {p mark : Int32} : z_R layX iX5_ticksTillBelow 0 [some (.ref 1), some (.int p), some (.int mark), none, none, none, none, none, none] [] σ (fun r σ' => r = some (.int (x_ttb p mark (σ 2 3))) ∧ σ' = σ) := by
  refine z_iload_n (pc := 0) dX5_ticksTillBelow_0 rfl ?_
  refine z_iload_n (pc := 1) dX5_ticksTillBelow_1 rfl ?_
  refine z_icmp_ge (pc := 2) (tgt := 7) dX5_ticksTillBelow_2 (by decide) (fun h2 => ?_) (fun h2 => ?_)
  · refine z_aload_n (pc := 7) dX5_ticksTillBelow_7 rfl ?_
    refine z_getA (pc := 8) f_X5_18 dX5_ticksTillBelow_8 (by decide) rfl rfl ?_
    refine z_iconst (pc := 11) (v := (nI 3)) dX5_ticksTillBelow_11 (by decide) ?_
    refine z_ialdN (pc := 12) dX5_ticksTillBelow_12 (by decide) rfl (by decide) (by decide) ?_
    refine z_istore_n (pc := 13) dX5_ticksTillBelow_13 (by decide) rfl rfl ?_
    refine z_iload_n (pc := 14) dX5_ticksTillBelow_14 rfl ?_
    refine z_istore (pc := 15) dX5_ticksTillBelow_15 (by decide) rfl rfl ?_
    refine z_iconst (pc := 17) (v := (nI 0)) dX5_ticksTillBelow_17 (by decide) ?_
    refine z_istore (pc := 18) dX5_ticksTillBelow_18 (by decide) rfl rfl ?_
    refine z_iconst (pc := 20) (v := (nI 0)) dX5_ticksTillBelow_20 (by decide) ?_
    refine z_istore (pc := 21) dX5_ticksTillBelow_21 (by decide) rfl rfl ?_
    exact (c_X5_ttbl (i := 0) (by decide)).mono (fun r σ' h => by rw [x_ttb, if_pos h2]; exact h)
  · refine z_iconst (pc := 5) (v := (nI 0)) dX5_ticksTillBelow_5 (by decide) ?_
    exact z_ireturn (pc := 6) dX5_ticksTillBelow_6 rfl rfl (⟨by rw [x_ttb, if_neg h2], rfl⟩)
set_option maxRecDepth 20000 in
theorem c_X5_ttblT {σ : z_Sto} {p mark half : Int32} {i : Nat} {l w : Int32} (hi : i ≤ 30) : z_R layX iX5_ticksTillBelow 23 [some (.ref 22), some (.int p), some (.int mark), some (.int half), some (.int l), some (.int w), some (.int (nI i)), none, none] [] σ (fun r σ' => r = some (.int (x_te mark half (x_tl mark half (30 - i) l w))) ∧ σ' = σ) := by
  generalize hf : 30 - i = f
  induction f using Nat.strongRecOn generalizing i l w
  rename_i f ih
  refine z_iload (pc := 23) dX5_ticksTillBelow_23 rfl ?_
  refine z_bipush (pc := 25) (v := (nI 30)) dX5_ticksTillBelow_25 (by decide) ?_
  refine z_icmp_ge (pc := 27) (tgt := 56) dX5_ticksTillBelow_27 (by decide) (fun h27 => ?_) (fun h27 => ?_)
  · have q27 : i = 30 := by have := (nI_leI (by decide) (by omega)).mp h27; omega
    have hq : x_tl mark half f l w = (l, w) := by rw [← hf, q27]; rfl
    refine z_iload (pc := 56) dX5_ticksTillBelow_56 rfl ?_
    refine z_iload_n (pc := 58) dX5_ticksTillBelow_58 rfl ?_
    refine z_isub (pc := 59) dX5_ticksTillBelow_59 ?_
    refine z_iconst (pc := 60) (v := (nI 1)) dX5_ticksTillBelow_60 (by decide) ?_
    refine z_iadd (pc := 61) dX5_ticksTillBelow_61 ?_
    refine z_istore (pc := 62) dX5_ticksTillBelow_62 (by decide) rfl rfl ?_
    refine z_iconst (pc := 64) (v := (nI 1)) dX5_ticksTillBelow_64 (by decide) ?_
    refine z_iload (pc := 65) dX5_ticksTillBelow_65 rfl ?_
    refine z_max (pc := 67) l_X5_33 (by decide) (Nat.le_of_ble_eq_true rfl) dX5_ticksTillBelow_67 ?_
    refine z_istore (pc := 70) dX5_ticksTillBelow_70 (by decide) rfl rfl ?_
    refine z_iload (pc := 72) dX5_ticksTillBelow_72 rfl ?_
    refine z_iconst (pc := 74) (v := (nI 2)) dX5_ticksTillBelow_74 (by decide) ?_
    refine z_imul (pc := 75) dX5_ticksTillBelow_75 ?_
    refine z_iload_n (pc := 76) dX5_ticksTillBelow_76 rfl ?_
    refine z_imul (pc := 77) dX5_ticksTillBelow_77 ?_
    refine z_iload (pc := 78) dX5_ticksTillBelow_78 rfl ?_
    refine z_iadd (pc := 80) dX5_ticksTillBelow_80 ?_
    refine z_iconst (pc := 81) (v := (nI 1)) dX5_ticksTillBelow_81 (by decide) ?_
    refine z_isub (pc := 82) dX5_ticksTillBelow_82 ?_
    refine z_iload (pc := 83) dX5_ticksTillBelow_83 rfl ?_
    refine z_idiv (pc := 85) dX5_ticksTillBelow_85 (x_dv_ne _) ?_
    refine z_istore (pc := 86) dX5_ticksTillBelow_86 (by decide) rfl rfl ?_
    refine z_iload (pc := 88) dX5_ticksTillBelow_88 rfl ?_
    refine z_iload_n (pc := 90) dX5_ticksTillBelow_90 rfl ?_
    refine z_iload (pc := 91) dX5_ticksTillBelow_91 rfl ?_
    refine z_min (pc := 93) l_X5_39 (by decide) (Nat.le_of_ble_eq_true rfl) dX5_ticksTillBelow_93 ?_
    refine z_iadd (pc := 96) dX5_ticksTillBelow_96 ?_
    exact z_ireturn (pc := 97) dX5_ticksTillBelow_97 rfl rfl (⟨by rw [hq]; rfl, rfl⟩)
  · have q27 : i < 30 := by have : ¬ 30 ≤ i := fun q => h27 ((nI_leI (by decide) (by omega)).mpr q); omega
    have hf1 : f = (30 - (i + 1)) + 1 := by omega
    refine z_iload (pc := 30) dX5_ticksTillBelow_30 rfl ?_
    refine z_iconst (pc := 32) (v := (nI 2)) dX5_ticksTillBelow_32 (by decide) ?_
    refine z_idiv (pc := 33) dX5_ticksTillBelow_33 (by decide) ?_
    refine z_iload_n (pc := 34) dX5_ticksTillBelow_34 rfl ?_
    refine z_icmp_lt (pc := 35) (tgt := 56) dX5_ticksTillBelow_35 (by decide) (fun h35 => ?_) (fun h35 => ?_)
    · have hq : x_tl mark half f l w = (l, w) := by rw [hf1, x_tl, if_neg (z_nle h35)]
      refine z_iload (pc := 56) dX5_ticksTillBelow_56 rfl ?_
      refine z_iload_n (pc := 58) dX5_ticksTillBelow_58 rfl ?_
      refine z_isub (pc := 59) dX5_ticksTillBelow_59 ?_
      refine z_iconst (pc := 60) (v := (nI 1)) dX5_ticksTillBelow_60 (by decide) ?_
      refine z_iadd (pc := 61) dX5_ticksTillBelow_61 ?_
      refine z_istore (pc := 62) dX5_ticksTillBelow_62 (by decide) rfl rfl ?_
      refine z_iconst (pc := 64) (v := (nI 1)) dX5_ticksTillBelow_64 (by decide) ?_
      refine z_iload (pc := 65) dX5_ticksTillBelow_65 rfl ?_
      refine z_max (pc := 67) l_X5_33 (by decide) (Nat.le_of_ble_eq_true rfl) dX5_ticksTillBelow_67 ?_
      refine z_istore (pc := 70) dX5_ticksTillBelow_70 (by decide) rfl rfl ?_
      refine z_iload (pc := 72) dX5_ticksTillBelow_72 rfl ?_
      refine z_iconst (pc := 74) (v := (nI 2)) dX5_ticksTillBelow_74 (by decide) ?_
      refine z_imul (pc := 75) dX5_ticksTillBelow_75 ?_
      refine z_iload_n (pc := 76) dX5_ticksTillBelow_76 rfl ?_
      refine z_imul (pc := 77) dX5_ticksTillBelow_77 ?_
      refine z_iload (pc := 78) dX5_ticksTillBelow_78 rfl ?_
      refine z_iadd (pc := 80) dX5_ticksTillBelow_80 ?_
      refine z_iconst (pc := 81) (v := (nI 1)) dX5_ticksTillBelow_81 (by decide) ?_
      refine z_isub (pc := 82) dX5_ticksTillBelow_82 ?_
      refine z_iload (pc := 83) dX5_ticksTillBelow_83 rfl ?_
      refine z_idiv (pc := 85) dX5_ticksTillBelow_85 (x_dv_ne _) ?_
      refine z_istore (pc := 86) dX5_ticksTillBelow_86 (by decide) rfl rfl ?_
      refine z_iload (pc := 88) dX5_ticksTillBelow_88 rfl ?_
      refine z_iload_n (pc := 90) dX5_ticksTillBelow_90 rfl ?_
      refine z_iload (pc := 91) dX5_ticksTillBelow_91 rfl ?_
      refine z_min (pc := 93) l_X5_39 (by decide) (Nat.le_of_ble_eq_true rfl) dX5_ticksTillBelow_93 ?_
      refine z_iadd (pc := 96) dX5_ticksTillBelow_96 ?_
      exact z_ireturn (pc := 97) dX5_ticksTillBelow_97 rfl rfl (⟨by rw [hq]; rfl, rfl⟩)
    · refine z_iload (pc := 38) dX5_ticksTillBelow_38 rfl ?_
      refine z_iconst (pc := 40) (v := (nI 2)) dX5_ticksTillBelow_40 (by decide) ?_
      refine z_idiv (pc := 41) dX5_ticksTillBelow_41 (by decide) ?_
      refine z_istore (pc := 42) dX5_ticksTillBelow_42 (by decide) rfl rfl ?_
      refine z_iload (pc := 44) dX5_ticksTillBelow_44 rfl ?_
      refine z_iload_n (pc := 46) dX5_ticksTillBelow_46 rfl ?_
      refine z_iadd (pc := 47) dX5_ticksTillBelow_47 ?_
      refine z_istore (pc := 48) dX5_ticksTillBelow_48 (by decide) rfl rfl ?_
      refine z_iincN (pc := 50) dX5_ticksTillBelow_50 rfl (by decide) rfl rfl ?_
      refine z_goto (pc := 53) (tgt := 23) dX5_ticksTillBelow_53 (by decide) ?_
      rw [show x_tl mark half f l w = x_tl mark half (30 - (i + 1)) (l / nI 2) (w + half) by rw [hf1, x_tl, if_pos (z_nlt h35)]]
      exact ih _ (by omega) (i := i + 1) (by omega) rfl
set_option maxRecDepth 20000 in
theorem c_X5_ttbT {σ : z_Sto} {p mark : Int32} : z_R layX iX5_ticksTillBelow 0 [some (.ref 22), some (.int p), some (.int mark), none, none, none, none, none, none] [] σ (fun r σ' => r = some (.int (x_ttb p mark (σ 23 3))) ∧ σ' = σ) := by
  refine z_iload_n (pc := 0) dX5_ticksTillBelow_0 rfl ?_
  refine z_iload_n (pc := 1) dX5_ticksTillBelow_1 rfl ?_
  refine z_icmp_ge (pc := 2) (tgt := 7) dX5_ticksTillBelow_2 (by decide) (fun h2 => ?_) (fun h2 => ?_)
  · refine z_aload_n (pc := 7) dX5_ticksTillBelow_7 rfl ?_
    refine z_getA (pc := 8) f_X5_18 dX5_ticksTillBelow_8 (by decide) rfl rfl ?_
    refine z_iconst (pc := 11) (v := (nI 3)) dX5_ticksTillBelow_11 (by decide) ?_
    refine z_ialdN (pc := 12) dX5_ticksTillBelow_12 (by decide) rfl (by decide) (by decide) ?_
    refine z_istore_n (pc := 13) dX5_ticksTillBelow_13 (by decide) rfl rfl ?_
    refine z_iload_n (pc := 14) dX5_ticksTillBelow_14 rfl ?_
    refine z_istore (pc := 15) dX5_ticksTillBelow_15 (by decide) rfl rfl ?_
    refine z_iconst (pc := 17) (v := (nI 0)) dX5_ticksTillBelow_17 (by decide) ?_
    refine z_istore (pc := 18) dX5_ticksTillBelow_18 (by decide) rfl rfl ?_
    refine z_iconst (pc := 20) (v := (nI 0)) dX5_ticksTillBelow_20 (by decide) ?_
    refine z_istore (pc := 21) dX5_ticksTillBelow_21 (by decide) rfl rfl ?_
    exact (c_X5_ttblT (i := 0) (by decide)).mono (fun r σ' h => by rw [x_ttb, if_pos h2]; exact h)
  · refine z_iconst (pc := 5) (v := (nI 0)) dX5_ticksTillBelow_5 (by decide) ?_
    exact z_ireturn (pc := 6) dX5_ticksTillBelow_6 rfl rfl (⟨by rw [x_ttb, if_neg h2], rfl⟩)
def x_bits (f : Nat → Int32) : Nat → Int32
  | 0 => nI 0
  | k + 1 => if f k = 0 then x_bits f k else x_bits f k ||| (nI 1 <<< (nI k &&& 31))
set_option maxRecDepth 20000 in
theorem c_X4_ml {σ : z_Sto} {n i : Nat} {v : Int32} (hn : σ 3 3 = nI n) (h12 : n ≤ 12) (hi : i ≤ n) (hv : v = x_bits (σ 6) i) : z_R layX iX4_markedLines 4 [some (.ref 3), some (.int v), some (.int (nI i))] [] σ (fun r σ' => r = some (.int (x_bits (σ 6) n)) ∧ σ' = σ) := by
  generalize hf : n - i = f
  induction f using Nat.strongRecOn generalizing i v
  rename_i f ih
  refine z_iload_n (pc := 4) dX4_markedLines_4 rfl ?_
  refine z_aload_n (pc := 5) dX4_markedLines_5 rfl ?_
  refine z_getI (pc := 6) f_X4_21 dX4_markedLines_6 (by decide) rfl rfl ?_
  rw [hn]
  refine z_icmp_ge (pc := 9) (tgt := 33) dX4_markedLines_9 (by decide) (fun h9 => ?_) (fun h9 => ?_)
  · have q9 : i = n := by have := (nI_leI (by omega) (by omega)).mp h9; omega
    refine z_iload_n (pc := 33) dX4_markedLines_33 rfl ?_
    exact z_ireturn (pc := 34) dX4_markedLines_34 rfl rfl (⟨by rw [hv, q9], rfl⟩)
  · have q9 : i < n := by have : ¬ n ≤ i := fun q => h9 ((nI_leI (by omega) (by omega)).mpr q); omega
    refine z_aload_n (pc := 12) dX4_markedLines_12 rfl ?_
    refine z_getA (pc := 13) f_X4_18 dX4_markedLines_13 (by decide) rfl rfl ?_
    refine z_iload_n (pc := 16) dX4_markedLines_16 rfl ?_
    refine z_ialdN (pc := 17) dX4_markedLines_17 (by decide) rfl (by decide) (by omega) ?_
    refine z_if_eq (pc := 18) (tgt := 27) dX4_markedLines_18 (by decide) (fun h18 => ?_) (fun h18 => ?_)
    · refine z_iincN (pc := 27) dX4_markedLines_27 rfl (by decide) rfl rfl ?_
      refine z_goto (pc := 30) (tgt := 4) dX4_markedLines_30 (by decide) ?_
      exact ih _ (by omega) (i := i + 1) (by omega) (by rw [x_bits]; first | rw [if_pos h18, hv] | rw [if_neg h18, hv]) rfl
    · refine z_iload_n (pc := 21) dX4_markedLines_21 rfl ?_
      refine z_iconst (pc := 22) (v := (nI 1)) dX4_markedLines_22 (by decide) ?_
      refine z_iload_n (pc := 23) dX4_markedLines_23 rfl ?_
      refine z_ishl (pc := 24) dX4_markedLines_24 ?_
      refine z_ior (pc := 25) dX4_markedLines_25 ?_
      refine z_istore_n (pc := 26) dX4_markedLines_26 (by decide) rfl rfl ?_
      refine z_iincN (pc := 27) dX4_markedLines_27 rfl (by decide) rfl rfl ?_
      refine z_goto (pc := 30) (tgt := 4) dX4_markedLines_30 (by decide) ?_
      exact ih _ (by omega) (i := i + 1) (by omega) (by rw [x_bits]; first | rw [if_pos h18, hv] | rw [if_neg h18, hv]) rfl
set_option maxRecDepth 20000 in
theorem c_X4_markedLines {σ : z_Sto} {n : Nat} (hn : σ 3 3 = nI n) (h12 : n ≤ 12) : z_R layX iX4_markedLines 0 [some (.ref 3), none, none] [] σ (fun r σ' => r = some (.int (x_bits (σ 6) n)) ∧ σ' = σ) := by
  refine z_iconst (pc := 0) (v := (nI 0)) dX4_markedLines_0 (by decide) ?_
  refine z_istore_n (pc := 1) dX4_markedLines_1 (by decide) rfl rfl ?_
  refine z_iconst (pc := 2) (v := (nI 0)) dX4_markedLines_2 (by decide) ?_
  refine z_istore_n (pc := 3) dX4_markedLines_3 (by decide) rfl rfl ?_
  exact c_X4_ml (i := 0) hn h12 (by omega) rfl
