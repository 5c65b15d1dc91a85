/-! the board at cell 11: settling, taking, restarting -/
set_option maxRecDepth 20000 in
theorem c_X0_sll {σ : z_Sto} {s n i : Nat} {to fr op k : Int32} (hs : s < 16) (hn : σ 3 3 = nI n) (h12 : n ≤ 12) (hi : i ≤ 12) : z_R layX iX0_settle 73 [some (.ref 11), some (.int (nI s)), some (.int to), some (.int fr), some (.int op), some (.int k), some (.int (nI i))] [] σ (fun r σ' => r = none ∧ σ' = x_look 11 s n (x_lo 11 s k (x_end s n - i) i σ)) := by
  have he : x_end s n ≤ 12 := by unfold x_end; split <;> (try split) <;> omega
  generalize hf : x_end s n - i = f
  induction f using Nat.strongRecOn generalizing i σ
  rename_i f ih
  refine z_iload (pc := 73) dX0_settle_73 rfl ?_
  refine z_aload_n (pc := 75) dX0_settle_75 rfl ?_
  refine z_iload_n (pc := 76) dX0_settle_76 rfl ?_
  refine z_cV1 (pc := 77) mX0_endOf l_X0_106 (by decide) dX0_settle_77 (by decide) rfl rfl (by decide) (Nat.le_of_ble_eq_true rfl) (c_X0_endOf hs hn h12) rfl (fun r77 σ77 hr77 => ?_)
  obtain ⟨rfl, rfl⟩ := hr77
  refine z_icmp_ge (pc := 80) (tgt := 124) dX0_settle_80 (by decide) (fun h80 => ?_) (fun h80 => ?_)
  · have q80 : f = 0 := by have := (nI_leI (by omega) (by omega)).mp h80; omega
    refine z_aload_n (pc := 124) dX0_settle_124 rfl ?_
    refine z_iload_n (pc := 125) dX0_settle_125 rfl ?_
    refine z_cV1 (pc := 126) mX0_lookAt l_X0_109 (by decide) dX0_settle_126 (by decide) rfl rfl (by decide) (Nat.le_of_ble_eq_true rfl) (c_X0_lookAt hs hn h12) rfl (fun r126 σ126 hr126 => ?_)
    obtain ⟨rfl, rfl⟩ := hr126
    exact z_return (pc := 129) dX0_settle_129 rfl (⟨rfl, by rw [q80]; rfl⟩)
  · have q80 : i < x_end s n := by have : ¬ x_end s n ≤ i := fun q => h80 ((nI_leI (by omega) (by omega)).mpr q); omega
    have hf1 : f = (x_end s n - (i + 1)) + 1 := by omega
    refine z_aload_n (pc := 83) dX0_settle_83 rfl ?_
    refine z_getA (pc := 84) f_X0_27 dX0_settle_84 (by decide) rfl rfl ?_
    refine z_iload (pc := 87) dX0_settle_87 rfl ?_
    refine z_zaldN (pc := 89) dX0_settle_89 (by decide) rfl (by decide) (by omega) ?_
    refine z_if_eq (pc := 90) (tgt := 118) dX0_settle_90 (by decide) (fun h90 => ?_) (fun h90 => ?_)
    · have hq : x_o1 11 s i k σ77 = σ77 := by rw [x_o1, if_neg (fun g => g.1 h90)]
      refine z_iincN (pc := 118) dX0_settle_118 rfl (by decide) rfl rfl ?_
      refine z_goto (pc := 121) (tgt := 73) dX0_settle_121 (by decide) ?_
      exact (ih _ (by omega) (i := i + 1) (by first | exact hn | (simp only [z_up_at, reduceIte, Nat.reduceEqDiff]; exact hn)) (by omega) rfl).mono (fun r σ' g => ⟨g.1, g.2.trans (by rw [hf1, x_lo, hq] <;> rfl)⟩)
    · refine z_aload_n (pc := 93) dX0_settle_93 rfl ?_
      refine z_getA (pc := 94) f_X0_46 dX0_settle_94 (by decide) rfl rfl ?_
      refine z_iload (pc := 97) dX0_settle_97 rfl ?_
      refine z_cV1 (pc := 99) mX4_slotOf l_X0_62 (by decide) dX0_settle_99 (by decide) rfl rfl (by decide) (Nat.le_of_ble_eq_true rfl) (c_X4_slotOf (by omega)) rfl (fun r99 σ99 hr99 => ?_)
      obtain ⟨rfl, rfl⟩ := hr99
      refine z_iload_n (pc := 102) dX0_settle_102 rfl ?_
      refine z_icmp_ne (pc := 103) (tgt := 118) dX0_settle_103 (by decide) (fun h103 => ?_) (fun h103 => ?_)
      · have hq : x_o1 11 s i k σ99 = σ99 := by rw [x_o1, if_neg (fun g => h103 g.2)]
        refine z_iincN (pc := 118) dX0_settle_118 rfl (by decide) rfl rfl ?_
        refine z_goto (pc := 121) (tgt := 73) dX0_settle_121 (by decide) ?_
        exact (ih _ (by omega) (i := i + 1) (by first | exact hn | (simp only [z_up_at, reduceIte, Nat.reduceEqDiff]; exact hn)) (by omega) rfl).mono (fun r σ' g => ⟨g.1, g.2.trans (by rw [hf1, x_lo, hq] <;> rfl)⟩)
      · have hq : x_o1 11 s i k σ99 = z_up σ99 (11 + 8) i (σ99 (11 + 8) i + k) := by rw [x_o1, if_pos ⟨h90, h103⟩]
        refine z_aload_n (pc := 106) dX0_settle_106 rfl ?_
        refine z_getA (pc := 107) f_X0_36 dX0_settle_107 (by decide) rfl rfl ?_
        refine z_iload (pc := 110) dX0_settle_110 rfl ?_
        refine z_dup2 (pc := 112) dX0_settle_112 ?_
        refine z_ialdN (pc := 113) dX0_settle_113 (by decide) rfl (by decide) (by omega) ?_
        refine z_iload (pc := 114) dX0_settle_114 rfl ?_
        refine z_iadd (pc := 116) dX0_settle_116 ?_
        refine z_iastN (pc := 117) dX0_settle_117 (by decide) rfl (by decide) (by omega) ?_
        refine z_iincN (pc := 118) dX0_settle_118 rfl (by decide) rfl rfl ?_
        refine z_goto (pc := 121) (tgt := 73) dX0_settle_121 (by decide) ?_
        exact (ih _ (by omega) (i := i + 1) (by first | exact hn | (simp only [z_up_at, reduceIte, Nat.reduceEqDiff]; exact hn)) (by omega) rfl).mono (fun r σ' g => ⟨g.1, g.2.trans (by rw [hf1, x_lo, hq] <;> rfl)⟩)
set_option maxRecDepth 20000 in
theorem c_X0_settle {σ : z_Sto} {s n : Nat} {to : Int32} (hs : s < 16) (hn : σ 3 3 = nI n) (h12 : n ≤ 12) : z_R layX iX0_settle 0 [some (.ref 11), some (.int (nI s)), some (.int to), none, none, none, none] [] σ (fun r σ' => r = none ∧ σ' = x_set 11 2 s n to σ) := by
  refine z_aload_n (pc := 0) dX0_settle_0 rfl ?_
  refine z_getA (pc := 1) f_X0_20 dX0_settle_1 (by decide) rfl rfl ?_
  refine z_iload_n (pc := 4) dX0_settle_4 rfl ?_
  refine z_ialdN (pc := 5) dX0_settle_5 (by decide) rfl (by decide) (hs) ?_
  refine z_istore_n (pc := 6) dX0_settle_6 (by decide) rfl rfl ?_
  refine z_aload_n (pc := 7) dX0_settle_7 rfl ?_
  refine z_getA (pc := 8) f_X0_20 dX0_settle_8 (by decide) rfl rfl ?_
  refine z_iload_n (pc := 11) dX0_settle_11 rfl ?_
  refine z_iload_n (pc := 12) dX0_settle_12 rfl ?_
  refine z_iastN (pc := 13) dX0_settle_13 (by decide) rfl (by decide) (hs) ?_
  refine z_aload_n (pc := 14) dX0_settle_14 rfl ?_
  refine z_getA (pc := 15) f_X0_23 dX0_settle_15 (by decide) rfl rfl ?_
  refine z_iload_n (pc := 18) dX0_settle_18 rfl ?_
  refine z_zaldN (pc := 19) dX0_settle_19 (by decide) rfl (by decide) (hs) ?_
  simp only [z_up_at, reduceIte, Nat.reduceEqDiff]
  refine z_if_eq (pc := 20) (tgt := 28) dX0_settle_20 (by decide) (fun h20 => ?_) (fun h20 => ?_)
  · exact z_return (pc := 28) dX0_settle_28 rfl (⟨rfl, by first | rw [x_set, if_pos (Or.inl h20)] | rw [x_set, if_pos (Or.inr h25)]⟩)
  · refine z_iload_n (pc := 23) dX0_settle_23 rfl ?_
    refine z_iload_n (pc := 24) dX0_settle_24 rfl ?_
    refine z_icmp_gt (pc := 25) (tgt := 29) dX0_settle_25 (by decide) (fun h25 => ?_) (fun h25 => ?_)
    · refine z_aload_n (pc := 29) dX0_settle_29 rfl ?_
      refine z_iload_n (pc := 30) dX0_settle_30 rfl ?_
      refine z_iload_n (pc := 31) dX0_settle_31 rfl ?_
      refine z_cV2 (pc := 32) mX0_openingTick l_X0_82 (by decide) dX0_settle_32 (by decide) rfl rfl (by decide) (Nat.le_of_ble_eq_true rfl) (c_X0_openingTick hs) rfl (fun r32 σ32 hr32 => ?_)
      obtain ⟨rfl, rfl⟩ := hr32
      refine z_istore (pc := 35) dX0_settle_35 (by decide) rfl rfl ?_
      refine z_aload_n (pc := 37) dX0_settle_37 rfl ?_
      refine z_getA (pc := 38) f_X0_23 dX0_settle_38 (by decide) rfl rfl ?_
      refine z_iload_n (pc := 41) dX0_settle_41 rfl ?_
      refine z_iload (pc := 42) dX0_settle_42 rfl ?_
      refine z_iload_n (pc := 44) dX0_settle_44 rfl ?_
      refine z_icmp_le (pc := 45) (tgt := 52) dX0_settle_45 (by decide) (fun h45 => ?_) (fun h45 => ?_)
      · refine z_iconst (pc := 52) (v := (nI 0)) dX0_settle_52 (by decide) ?_
        refine z_zastN (pc := 53) dX0_settle_53 (by decide) rfl (by decide) (hs) (by first | exact Or.inl rfl | exact Or.inr rfl) ?_
        refine z_iload_n (pc := 54) dX0_settle_54 rfl ?_
        refine z_iload (pc := 55) dX0_settle_55 rfl ?_
        refine z_iconst (pc := 57) (v := (nI 1)) dX0_settle_57 (by decide) ?_
        refine z_isub (pc := 58) dX0_settle_58 ?_
        refine z_min (pc := 59) l_X0_100 (by decide) (Nat.le_of_ble_eq_true rfl) dX0_settle_59 ?_
        refine z_iload_n (pc := 62) dX0_settle_62 rfl ?_
        refine z_isub (pc := 63) dX0_settle_63 ?_
        refine z_istore (pc := 64) dX0_settle_64 (by decide) rfl rfl ?_
        refine z_aload_n (pc := 66) dX0_settle_66 rfl ?_
        refine z_iload_n (pc := 67) dX0_settle_67 rfl ?_
        refine z_cV1 (pc := 68) mX0_firstOf l_X0_103 (by decide) dX0_settle_68 (by decide) rfl rfl (by decide) (Nat.le_of_ble_eq_true rfl) (c_X0_firstOf hs) rfl (fun r68 σ68 hr68 => ?_)
        obtain ⟨rfl, rfl⟩ := hr68
        refine z_istore (pc := 71) dX0_settle_71 (by decide) rfl rfl ?_
        exact (c_X0_sll hs (by simp only [z_up_at, reduceIte, Nat.reduceEqDiff]; exact hn) h12 (by unfold x_fst; split <;> omega)).mono (fun r σ' g => ⟨g.1, g.2.trans (by first | exact (x_set_go (b := 11) (v := 2) h20 h25 _ (if_pos h45)).symm | exact (x_set_go (b := 11) (v := 2) h20 h25 _ (if_neg h45)).symm)⟩)
      · refine z_iconst (pc := 48) (v := (nI 1)) dX0_settle_48 (by decide) ?_
        refine z_goto (pc := 49) (tgt := 53) dX0_settle_49 (by decide) ?_
        refine z_zastN (pc := 53) dX0_settle_53 (by decide) rfl (by decide) (hs) (by first | exact Or.inl rfl | exact Or.inr rfl) ?_
        refine z_iload_n (pc := 54) dX0_settle_54 rfl ?_
        refine z_iload (pc := 55) dX0_settle_55 rfl ?_
        refine z_iconst (pc := 57) (v := (nI 1)) dX0_settle_57 (by decide) ?_
        refine z_isub (pc := 58) dX0_settle_58 ?_
        refine z_min (pc := 59) l_X0_100 (by decide) (Nat.le_of_ble_eq_true rfl) dX0_settle_59 ?_
        refine z_iload_n (pc := 62) dX0_settle_62 rfl ?_
        refine z_isub (pc := 63) dX0_settle_63 ?_
        refine z_istore (pc := 64) dX0_settle_64 (by decide) rfl rfl ?_
        refine z_aload_n (pc := 66) dX0_settle_66 rfl ?_
        refine z_iload_n (pc := 67) dX0_settle_67 rfl ?_
        refine z_cV1 (pc := 68) mX0_firstOf l_X0_103 (by decide) dX0_settle_68 (by decide) rfl rfl (by decide) (Nat.le_of_ble_eq_true rfl) (c_X0_firstOf hs) rfl (fun r68 σ68 hr68 => ?_)
        obtain ⟨rfl, rfl⟩ := hr68
        refine z_istore (pc := 71) dX0_settle_71 (by decide) rfl rfl ?_
        exact (c_X0_sll hs (by simp only [z_up_at, reduceIte, Nat.reduceEqDiff]; exact hn) h12 (by unfold x_fst; split <;> omega)).mono (fun r σ' g => ⟨g.1, g.2.trans (by first | exact (x_set_go (b := 11) (v := 2) h20 h25 _ (if_pos h45)).symm | exact (x_set_go (b := 11) (v := 2) h20 h25 _ (if_neg h45)).symm)⟩)
    · exact z_return (pc := 28) dX0_settle_28 rfl (⟨rfl, by first | rw [x_set, if_pos (Or.inl h20)] | rw [x_set, if_pos (Or.inr h25)]⟩)
set_option maxRecDepth 20000 in
theorem c_X0_sal {σ : z_Sto} {s n : Nat} {to : Int32} (hs : s ≤ 16) (hn : σ 3 3 = nI n) (h12 : n ≤ 12) : z_R layX iX0_settleAll 2 [some (.ref 11), some (.int to), some (.int (nI s))] [] σ (fun r σ' => r = none ∧ σ' = x_sa 11 2 n to (16 - s) s σ) := by
  generalize hf : 16 - s = f
  induction f using Nat.strongRecOn generalizing s σ
  rename_i f ih
  refine z_iload_n (pc := 2) dX0_settleAll_2 rfl ?_
  refine z_bipush (pc := 3) (v := (nI 16)) dX0_settleAll_3 (by decide) ?_
  refine z_icmp_ge (pc := 5) (tgt := 20) dX0_settleAll_5 (by decide) (fun h5 => ?_) (fun h5 => ?_)
  · have q5 : f = 0 := by have := (nI_leI (by decide) (by omega)).mp h5; omega
    exact z_return (pc := 20) dX0_settleAll_20 rfl (⟨rfl, by rw [q5]; rfl⟩)
  · have q5 : s < 16 := by have : ¬ 16 ≤ s := fun q => h5 ((nI_leI (by decide) (by omega)).mpr q); omega
    have hf1 : f = (16 - (s + 1)) + 1 := by omega
    refine z_aload_n (pc := 8) dX0_settleAll_8 rfl ?_
    refine z_iload_n (pc := 9) dX0_settleAll_9 rfl ?_
    refine z_iload_n (pc := 10) dX0_settleAll_10 rfl ?_
    refine z_cV2 (pc := 11) mX0_settle l_X0_96 (by decide) dX0_settleAll_11 (by decide) rfl rfl (by decide) (Nat.le_of_ble_eq_true rfl) (c_X0_settle q5 hn h12) rfl (fun r11 σ11 hr11 => ?_)
    obtain ⟨rfl, rfl⟩ := hr11
    refine z_iincN (pc := 14) dX0_settleAll_14 rfl (by decide) rfl rfl ?_
    refine z_goto (pc := 17) (tgt := 2) dX0_settleAll_17 (by decide) ?_
    exact (ih _ (by omega) (s := s + 1) (by omega) (by rw [x_set_fr (by decide)]; exact hn) rfl).mono (fun r σ' g => ⟨g.1, g.2.trans (by rw [hf1, x_sa])⟩)
set_option maxRecDepth 20000 in
theorem c_X0_settleAll {σ : z_Sto} {n : Nat} {to : Int32} (hn : σ 3 3 = nI n) (h12 : n ≤ 12) : z_R layX iX0_settleAll 0 [some (.ref 11), some (.int to), none] [] σ (fun r σ' => r = none ∧ σ' = x_sa 11 2 n to 16 0 σ) := by
  refine z_iconst (pc := 0) (v := (nI 0)) dX0_settleAll_0 (by decide) ?_
  refine z_istore_n (pc := 1) dX0_settleAll_1 (by decide) rfl rfl ?_
  exact c_X0_sal (s := 0) (by decide) hn h12
set_option maxRecDepth 20000 in
theorem c_X0_tk3 {σ : z_Sto} {s n i w : Nat} {t u : Int32} (hs : s < 16) (hn : σ 3 3 = nI n) (h12 : n ≤ 12) : z_R layX iX0_take 91 [some (.ref 11), some (.int (nI i)), some (.int (nI w)), some (.int t), some (.int (nI s)), some (.int u)] [] σ (fun r σ' => r = none ∧ σ' = x_look 11 s n (x_t3 11 2 s σ)) := by
  refine z_aload_n (pc := 91) dX0_take_91 rfl ?_
  refine z_getA (pc := 92) f_X0_11 dX0_take_92 (by decide) rfl rfl ?_
  refine z_iload (pc := 95) dX0_take_95 rfl ?_
  refine z_ialdN (pc := 97) dX0_take_97 (by decide) rfl (by decide) (hs) ?_
  refine z_aload_n (pc := 98) dX0_take_98 rfl ?_
  refine z_getA (pc := 99) f_X0_42 dX0_take_99 (by decide) rfl rfl ?_
  refine z_iconst (pc := 102) (v := (nI 4)) dX0_take_102 (by decide) ?_
  refine z_cV1 (pc := 103) mX5_get l_X0_85 (by decide) dX0_take_103 (by decide) rfl rfl (by decide) (Nat.le_of_ble_eq_true rfl) (c_X5_get (by decide)) rfl (fun r103 σ103 hr103 => ?_)
  obtain ⟨rfl, rfl⟩ := hr103
  refine z_icmp_le (pc := 106) (tgt := 122) dX0_take_106 (by decide) (fun h106 => ?_) (fun h106 => ?_)
  · refine z_aload_n (pc := 122) dX0_take_122 rfl ?_
    refine z_iload (pc := 123) dX0_take_123 rfl ?_
    refine z_cV1 (pc := 125) mX0_lookAt l_X0_109 (by decide) dX0_take_125 (by decide) rfl rfl (by decide) (Nat.le_of_ble_eq_true rfl) (c_X0_lookAt hs (by first | exact hn | (simp only [z_up_at, reduceIte, Nat.reduceEqDiff]; exact hn)) h12) rfl (fun r125 σ125 hr125 => ?_)
    obtain ⟨rfl, rfl⟩ := hr125
    exact z_return (pc := 128) dX0_take_128 rfl (⟨rfl, by first | rw [x_t3, if_pos h106] | (rw [x_t3, if_neg h106] <;> rfl)⟩)
  · refine z_aload_n (pc := 109) dX0_take_109 rfl ?_
    refine z_getA (pc := 110) f_X0_23 dX0_take_110 (by decide) rfl rfl ?_
    refine z_iload (pc := 113) dX0_take_113 rfl ?_
    refine z_iconst (pc := 115) (v := (nI 1)) dX0_take_115 (by decide) ?_
    refine z_zastN (pc := 116) dX0_take_116 (by decide) rfl (by decide) (hs) (Or.inr rfl) ?_
    refine z_aload_n (pc := 117) dX0_take_117 rfl ?_
    refine z_iconst (pc := 118) (v := (nI 1)) dX0_take_118 (by decide) ?_
    refine z_putI (pc := 119) f_X0_53 tyX0_ok nmX0 (by decide) rfl (by decide) (by decide) dX0_take_119 (by decide) rfl rfl ?_
    refine z_aload_n (pc := 122) dX0_take_122 rfl ?_
    refine z_iload (pc := 123) dX0_take_123 rfl ?_
    refine z_cV1 (pc := 125) mX0_lookAt l_X0_109 (by decide) dX0_take_125 (by decide) rfl rfl (by decide) (Nat.le_of_ble_eq_true rfl) (c_X0_lookAt hs (by first | exact hn | (simp only [z_up_at, reduceIte, Nat.reduceEqDiff]; exact hn)) h12) rfl (fun r125 σ125 hr125 => ?_)
    obtain ⟨rfl, rfl⟩ := hr125
    exact z_return (pc := 128) dX0_take_128 rfl (⟨rfl, by first | rw [x_t3, if_pos h106] | (rw [x_t3, if_neg h106] <;> rfl)⟩)
set_option maxRecDepth 20000 in
theorem c_X0_take {σ : z_Sto} {s n i w h : Nat} {t : Int32} (hi : i < 12) (hsl : σ 5 i = nI s) (hs : s < 16) (hn : σ 3 3 = nI n) (h12 : n ≤ 12) (hw : w < 3) (hh : σ 2 3 = nI h) (h1 : 1 ≤ h) (h2 : h ≤ 500) : z_R layX iX0_take 0 [some (.ref 11), some (.int (nI i)), some (.int (nI w)), some (.int t), none, none] [] σ (fun r σ' => r = none ∧ σ' = x_take 11 2 s i w n t σ) := by
  refine z_aload_n (pc := 0) dX0_take_0 rfl ?_
  refine z_getA (pc := 1) f_X0_46 dX0_take_1 (by decide) rfl rfl ?_
  refine z_iload_n (pc := 4) dX0_take_4 rfl ?_
  refine z_cV1 (pc := 5) mX4_slotOf l_X0_62 (by decide) dX0_take_5 (by decide) rfl rfl (by decide) (Nat.le_of_ble_eq_true rfl) (c_X4_slotOf hi) rfl (fun r5 σ5 hr5 => ?_)
  obtain ⟨rfl, rfl⟩ := hr5
  rw [hsl]
  refine z_istore (pc := 8) dX0_take_8 (by decide) rfl rfl ?_
  refine z_aload_n (pc := 10) dX0_take_10 rfl ?_
  refine z_iload (pc := 11) dX0_take_11 rfl ?_
  refine z_iload_n (pc := 13) dX0_take_13 rfl ?_
  refine z_cV2 (pc := 14) mX0_settle l_X0_96 (by decide) dX0_take_14 (by decide) rfl rfl (by decide) (Nat.le_of_ble_eq_true rfl) (c_X0_settle hs hn h12) rfl (fun r14 σ14 hr14 => ?_)
  obtain ⟨rfl, hσ⟩ := hr14
  have hh' : σ14 2 3 = nI h := by rw [hσ, x_set_fr (by decide)]; exact hh
  have hn' : σ14 3 3 = nI n := by rw [hσ, x_set_fr (by decide)]; exact hn
  refine z_aload_n (pc := 17) dX0_take_17 rfl ?_
  refine z_iload (pc := 18) dX0_take_18 rfl ?_
  refine z_iload_n (pc := 20) dX0_take_20 rfl ?_
  refine z_cV2 (pc := 21) mX0_penaltyAt l_X0_73 (by decide) dX0_take_21 (by decide) rfl rfl (by decide) (Nat.le_of_ble_eq_true rfl) (c_X0_penaltyAt hs hh' h1 h2) rfl (fun r21 σ21 hr21 => ?_)
  obtain ⟨rfl, rfl⟩ := hr21
  refine z_aload_n (pc := 24) dX0_take_24 rfl ?_
  refine z_iload_n (pc := 25) dX0_take_25 rfl ?_
  refine z_iload_n (pc := 26) dX0_take_26 rfl ?_
  refine z_iload_n (pc := 27) dX0_take_27 rfl ?_
  refine z_cV3 (pc := 28) mX0_weightOf l_X0_113 (by decide) dX0_take_28 (by decide) rfl rfl (by decide) (Nat.le_of_ble_eq_true rfl) (c_X0_weightOf hi hw) rfl (fun r28 σ28 hr28 => ?_)
  obtain ⟨rfl, rfl⟩ := hr28
  refine z_iadd (pc := 31) dX0_take_31 ?_
  refine z_istore (pc := 32) dX0_take_32 (by decide) rfl rfl ?_
  refine z_aload_n (pc := 34) dX0_take_34 rfl ?_
  refine z_getA (pc := 35) f_X0_11 dX0_take_35 (by decide) rfl rfl ?_
  refine z_iload (pc := 38) dX0_take_38 rfl ?_
  refine z_aload_n (pc := 40) dX0_take_40 rfl ?_
  refine z_getA (pc := 41) f_X0_42 dX0_take_41 (by decide) rfl rfl ?_
  refine z_bipush (pc := 44) (v := (nI 6)) dX0_take_44 (by decide) ?_
  refine z_cV1 (pc := 46) mX5_get l_X0_85 (by decide) dX0_take_46 (by decide) rfl rfl (by decide) (Nat.le_of_ble_eq_true rfl) (c_X5_get (by decide)) rfl (fun r46 σ46 hr46 => ?_)
  obtain ⟨rfl, rfl⟩ := hr46
  refine z_iload (pc := 49) dX0_take_49 rfl ?_
  refine z_min (pc := 51) l_X0_100 (by decide) (Nat.le_of_ble_eq_true rfl) dX0_take_51 ?_
  refine z_iastN (pc := 54) dX0_take_54 (by decide) rfl (by decide) (hs) ?_
  refine z_aload_n (pc := 55) dX0_take_55 rfl ?_
  refine z_getA (pc := 56) f_X0_17 dX0_take_56 (by decide) rfl rfl ?_
  refine z_iload (pc := 59) dX0_take_59 rfl ?_
  refine z_iload_n (pc := 61) dX0_take_61 rfl ?_
  refine z_iastN (pc := 62) dX0_take_62 (by decide) rfl (by decide) (hs) ?_
  refine z_aload_n (pc := 63) dX0_take_63 rfl ?_
  refine z_getA (pc := 64) f_X0_39 dX0_take_64 (by decide) rfl rfl ?_
  refine z_iload_n (pc := 67) dX0_take_67 rfl ?_
  refine z_iload_n (pc := 68) dX0_take_68 rfl ?_
  refine z_iastN (pc := 69) dX0_take_69 (by decide) rfl (by decide) (hi) ?_
  refine z_iload_n (pc := 70) dX0_take_70 rfl ?_
  refine z_iconst (pc := 71) (v := (nI 2)) dX0_take_71 (by decide) ?_
  refine z_icmp_eq (pc := 72) (tgt := 91) dX0_take_72 (by decide) (fun h72 => ?_) (fun h72 => ?_)
  · have q72 : w = 2 := z_nI_inj (by omega) (by decide) h72
    exact (c_X0_tk3 hs (by simp only [z_up_at, reduceIte, Nat.reduceEqDiff]; exact hn') h12).mono (fun r σ' g => ⟨g.1, g.2.trans (by rw [x_take, ← hσ, x_t2]; first | (rw [if_pos q72]; rfl) | (rw [if_neg q72, if_pos q82]; rfl) | (rw [if_neg q72, if_neg q82]; rfl))⟩)
  · have q72 : ¬ w = 2 := fun q => h72 (by rw [q])
    refine z_aload_n (pc := 75) dX0_take_75 rfl ?_
    refine z_getA (pc := 76) f_X0_27 dX0_take_76 (by decide) rfl rfl ?_
    refine z_iload_n (pc := 79) dX0_take_79 rfl ?_
    refine z_iload_n (pc := 80) dX0_take_80 rfl ?_
    refine z_iconst (pc := 81) (v := (nI 1)) dX0_take_81 (by decide) ?_
    refine z_icmp_ne (pc := 82) (tgt := 89) dX0_take_82 (by decide) (fun h82 => ?_) (fun h82 => ?_)
    · have q82 : ¬ w = 1 := fun q => h82 (by rw [q])
      refine z_iconst (pc := 89) (v := (nI 0)) dX0_take_89 (by decide) ?_
      refine z_zastN (pc := 90) dX0_take_90 (by decide) rfl (by decide) (hi) (by first | exact Or.inl rfl | exact Or.inr rfl) ?_
      exact (c_X0_tk3 hs (by simp only [z_up_at, reduceIte, Nat.reduceEqDiff]; exact hn') h12).mono (fun r σ' g => ⟨g.1, g.2.trans (by rw [x_take, ← hσ, x_t2]; first | (rw [if_pos q72]; rfl) | (rw [if_neg q72, if_pos q82]; rfl) | (rw [if_neg q72, if_neg q82]; rfl))⟩)
    · have q82 : w = 1 := z_nI_inj (by omega) (by decide) h82
      refine z_iconst (pc := 85) (v := (nI 1)) dX0_take_85 (by decide) ?_
      refine z_goto (pc := 86) (tgt := 90) dX0_take_86 (by decide) ?_
      refine z_zastN (pc := 90) dX0_take_90 (by decide) rfl (by decide) (hi) (by first | exact Or.inl rfl | exact Or.inr rfl) ?_
      exact (c_X0_tk3 hs (by simp only [z_up_at, reduceIte, Nat.reduceEqDiff]; exact hn') h12).mono (fun r σ' g => ⟨g.1, g.2.trans (by rw [x_take, ← hσ, x_t2]; first | (rw [if_pos q72]; rfl) | (rw [if_neg q72, if_pos q82]; rfl) | (rw [if_neg q72, if_neg q82]; rfl))⟩)
set_option maxRecDepth 20000 in
theorem c_X0_rs2 {σ : z_Sto} {i : Nat} (hi : i ≤ 12) : z_R layX iX0_restart 49 [some (.ref 11), some (.int (nI i))] [] σ (fun r σ' => r = none ∧ σ' = x_rb 11 (12 - i) i σ) := by
  generalize hf : 12 - i = f
  induction f using Nat.strongRecOn generalizing i σ
  rename_i f ih
  refine z_iload_n (pc := 49) dX0_restart_49 rfl ?_
  refine z_bipush (pc := 50) (v := (nI 12)) dX0_restart_50 (by decide) ?_
  refine z_icmp_ge (pc := 52) (tgt := 97) dX0_restart_52 (by decide) (fun h52 => ?_) (fun h52 => ?_)
  · have q52 : f = 0 := by have := (nI_leI (by decide) (by omega)).mp h52; omega
    exact z_return (pc := 97) dX0_restart_97 rfl (⟨rfl, by rw [q52]; rfl⟩)
  · have q52 : i < 12 := by have : ¬ 12 ≤ i := fun q => h52 ((nI_leI (by decide) (by omega)).mpr q); omega
    have hf1 : f = (12 - (i + 1)) + 1 := by omega
    refine z_aload_n (pc := 55) dX0_restart_55 rfl ?_
    refine z_getA (pc := 56) f_X0_27 dX0_restart_56 (by decide) rfl rfl ?_
    refine z_iload_n (pc := 59) dX0_restart_59 rfl ?_
    refine z_iconst (pc := 60) (v := (nI 1)) dX0_restart_60 (by decide) ?_
    refine z_zastN (pc := 61) dX0_restart_61 (by decide) rfl (by decide) (q52) (Or.inr rfl) ?_
    refine z_aload_n (pc := 62) dX0_restart_62 rfl ?_
    refine z_getA (pc := 63) f_X0_30 dX0_restart_63 (by decide) rfl rfl ?_
    refine z_iload_n (pc := 66) dX0_restart_66 rfl ?_
    refine z_iconst (pc := 67) (v := (nI 1)) dX0_restart_67 (by decide) ?_
    refine z_zastN (pc := 68) dX0_restart_68 (by decide) rfl (by decide) (q52) (Or.inr rfl) ?_
    refine z_aload_n (pc := 69) dX0_restart_69 rfl ?_
    refine z_getA (pc := 70) f_X0_33 dX0_restart_70 (by decide) rfl rfl ?_
    refine z_iload_n (pc := 73) dX0_restart_73 rfl ?_
    refine z_iconst (pc := 74) (v := (nI 0)) dX0_restart_74 (by decide) ?_
    refine z_iastN (pc := 75) dX0_restart_75 (by decide) rfl (by decide) (q52) ?_
    refine z_aload_n (pc := 76) dX0_restart_76 rfl ?_
    refine z_getA (pc := 77) f_X0_36 dX0_restart_77 (by decide) rfl rfl ?_
    refine z_iload_n (pc := 80) dX0_restart_80 rfl ?_
    refine z_iconst (pc := 81) (v := (nI 0)) dX0_restart_81 (by decide) ?_
    refine z_iastN (pc := 82) dX0_restart_82 (by decide) rfl (by decide) (q52) ?_
    refine z_aload_n (pc := 83) dX0_restart_83 rfl ?_
    refine z_getA (pc := 84) f_X0_39 dX0_restart_84 (by decide) rfl rfl ?_
    refine z_iload_n (pc := 87) dX0_restart_87 rfl ?_
    refine z_ldc (pc := 88) k_X0_57 dX0_restart_88 ?_
    refine z_iastN (pc := 90) dX0_restart_90 (by decide) rfl (by decide) (q52) ?_
    refine z_iincN (pc := 91) dX0_restart_91 rfl (by decide) rfl rfl ?_
    refine z_goto (pc := 94) (tgt := 49) dX0_restart_94 (by decide) ?_
    exact (ih _ (by omega) (i := i + 1) (by omega) rfl).mono (fun r σ' g => ⟨g.1, g.2.trans (by rw [hf1, x_rb]; rfl)⟩)
set_option maxRecDepth 20000 in
theorem c_X0_rs1 {σ : z_Sto} {s : Nat} (hs : s ≤ 16) : z_R layX iX0_restart 7 [some (.ref 11), some (.int (nI s))] [] σ (fun r σ' => r = none ∧ σ' = x_rb 11 12 0 (x_ra 11 (16 - s) s σ)) := by
  generalize hf : 16 - s = f
  induction f using Nat.strongRecOn generalizing s σ
  rename_i f ih
  refine z_iload_n (pc := 7) dX0_restart_7 rfl ?_
  refine z_bipush (pc := 8) (v := (nI 16)) dX0_restart_8 (by decide) ?_
  refine z_icmp_ge (pc := 10) (tgt := 47) dX0_restart_10 (by decide) (fun h10 => ?_) (fun h10 => ?_)
  · have q10 : f = 0 := by have := (nI_leI (by decide) (by omega)).mp h10; omega
    refine z_iconst (pc := 47) (v := (nI 0)) dX0_restart_47 (by decide) ?_
    refine z_istore_n (pc := 48) dX0_restart_48 (by decide) rfl rfl ?_
    exact (c_X0_rs2 (i := 0) (by decide)).mono (fun r σ' g => ⟨g.1, g.2.trans (by rw [q10]; rfl)⟩)
  · have q10 : s < 16 := by have : ¬ 16 ≤ s := fun q => h10 ((nI_leI (by decide) (by omega)).mpr q); omega
    have hf1 : f = (16 - (s + 1)) + 1 := by omega
    refine z_aload_n (pc := 13) dX0_restart_13 rfl ?_
    refine z_getA (pc := 14) f_X0_11 dX0_restart_14 (by decide) rfl rfl ?_
    refine z_iload_n (pc := 17) dX0_restart_17 rfl ?_
    refine z_iconst (pc := 18) (v := (nI 0)) dX0_restart_18 (by decide) ?_
    refine z_iastN (pc := 19) dX0_restart_19 (by decide) rfl (by decide) (q10) ?_
    refine z_aload_n (pc := 20) dX0_restart_20 rfl ?_
    refine z_getA (pc := 21) f_X0_17 dX0_restart_21 (by decide) rfl rfl ?_
    refine z_iload_n (pc := 24) dX0_restart_24 rfl ?_
    refine z_iconst (pc := 25) (v := (nI 0)) dX0_restart_25 (by decide) ?_
    refine z_iastN (pc := 26) dX0_restart_26 (by decide) rfl (by decide) (q10) ?_
    refine z_aload_n (pc := 27) dX0_restart_27 rfl ?_
    refine z_getA (pc := 28) f_X0_20 dX0_restart_28 (by decide) rfl rfl ?_
    refine z_iload_n (pc := 31) dX0_restart_31 rfl ?_
    refine z_iconst (pc := 32) (v := (nI 0)) dX0_restart_32 (by decide) ?_
    refine z_iastN (pc := 33) dX0_restart_33 (by decide) rfl (by decide) (q10) ?_
    refine z_aload_n (pc := 34) dX0_restart_34 rfl ?_
    refine z_getA (pc := 35) f_X0_23 dX0_restart_35 (by decide) rfl rfl ?_
    refine z_iload_n (pc := 38) dX0_restart_38 rfl ?_
    refine z_iconst (pc := 39) (v := (nI 0)) dX0_restart_39 (by decide) ?_
    refine z_zastN (pc := 40) dX0_restart_40 (by decide) rfl (by decide) (q10) (Or.inl rfl) ?_
    refine z_iincN (pc := 41) dX0_restart_41 rfl (by decide) rfl rfl ?_
    refine z_goto (pc := 44) (tgt := 7) dX0_restart_44 (by decide) ?_
    exact (ih _ (by omega) (s := s + 1) (by omega) rfl).mono (fun r σ' g => ⟨g.1, g.2.trans (by rw [hf1, x_ra]; rfl)⟩)
set_option maxRecDepth 20000 in
theorem c_X0_restart {σ : z_Sto} : z_R layX iX0_restart 0 [some (.ref 11), none] [] σ (fun r σ' => r = none ∧ σ' = x_restart 11 σ) := by
  refine z_aload_n (pc := 0) dX0_restart_0 rfl ?_
  refine z_iconst (pc := 1) (v := (nI 0)) dX0_restart_1 (by decide) ?_
  refine z_putI (pc := 2) f_X0_53 tyX0_ok nmX0 (by decide) rfl (by decide) (by decide) dX0_restart_2 (by decide) rfl rfl ?_
  refine z_iconst (pc := 5) (v := (nI 0)) dX0_restart_5 (by decide) ?_
  refine z_istore_n (pc := 6) dX0_restart_6 (by decide) rfl rfl ?_
  exact c_X0_rs1 (s := 0) (by decide)
/-! the board at cell 24: settling, taking, restarting -/
set_option maxRecDepth 20000 in
theorem c_X0_sll2 {σ : z_Sto} {s n i : Nat} {to fr op k : Int32} (hs : s < 16) (hn : σ 3 3 = nI n) (h12 : n ≤ 12) (hi : i ≤ 12) : z_R layX iX0_settle 73 [some (.ref 24), some (.int (nI s)), some (.int to), some (.int fr), some (.int op), some (.int k), some (.int (nI i))] [] σ (fun r σ' => r = none ∧ σ' = x_look 24 s n (x_lo 24 s k (x_end s n - i) i σ)) := by
  have he : x_end s n ≤ 12 := by unfold x_end; split <;> (try split) <;> omega
  generalize hf : x_end s n - i = f
  induction f using Nat.strongRecOn generalizing i σ
  rename_i f ih
  refine z_iload (pc := 73) dX0_settle_73 rfl ?_
  refine z_aload_n (pc := 75) dX0_settle_75 rfl ?_
  refine z_iload_n (pc := 76) dX0_settle_76 rfl ?_
  refine z_cV1 (pc := 77) mX0_endOf l_X0_106 (by decide) dX0_settle_77 (by decide) rfl rfl (by decide) (Nat.le_of_ble_eq_true rfl) (c_X0_endOf2 hs hn h12) rfl (fun r77 σ77 hr77 => ?_)
  obtain ⟨rfl, rfl⟩ := hr77
  refine z_icmp_ge (pc := 80) (tgt := 124) dX0_settle_80 (by decide) (fun h80 => ?_) (fun h80 => ?_)
  · have q80 : f = 0 := by have := (nI_leI (by omega) (by omega)).mp h80; omega
    refine z_aload_n (pc := 124) dX0_settle_124 rfl ?_
    refine z_iload_n (pc := 125) dX0_settle_125 rfl ?_
    refine z_cV1 (pc := 126) mX0_lookAt l_X0_109 (by decide) dX0_settle_126 (by decide) rfl rfl (by decide) (Nat.le_of_ble_eq_true rfl) (c_X0_lookAt2 hs hn h12) rfl (fun r126 σ126 hr126 => ?_)
    obtain ⟨rfl, rfl⟩ := hr126
    exact z_return (pc := 129) dX0_settle_129 rfl (⟨rfl, by rw [q80]; rfl⟩)
  · have q80 : i < x_end s n := by have : ¬ x_end s n ≤ i := fun q => h80 ((nI_leI (by omega) (by omega)).mpr q); omega
    have hf1 : f = (x_end s n - (i + 1)) + 1 := by omega
    refine z_aload_n (pc := 83) dX0_settle_83 rfl ?_
    refine z_getA (pc := 84) f_X0_27 dX0_settle_84 (by decide) rfl rfl ?_
    refine z_iload (pc := 87) dX0_settle_87 rfl ?_
    refine z_zaldN (pc := 89) dX0_settle_89 (by decide) rfl (by decide) (by omega) ?_
    refine z_if_eq (pc := 90) (tgt := 118) dX0_settle_90 (by decide) (fun h90 => ?_) (fun h90 => ?_)
    · have hq : x_o1 24 s i k σ77 = σ77 := by rw [x_o1, if_neg (fun g => g.1 h90)]
      refine z_iincN (pc := 118) dX0_settle_118 rfl (by decide) rfl rfl ?_
      refine z_goto (pc := 121) (tgt := 73) dX0_settle_121 (by decide) ?_
      exact (ih _ (by omega) (i := i + 1) (by first | exact hn | (simp only [z_up_at, reduceIte, Nat.reduceEqDiff]; exact hn)) (by omega) rfl).mono (fun r σ' g => ⟨g.1, g.2.trans (by rw [hf1, x_lo, hq] <;> rfl)⟩)
    · refine z_aload_n (pc := 93) dX0_settle_93 rfl ?_
      refine z_getA (pc := 94) f_X0_46 dX0_settle_94 (by decide) rfl rfl ?_
      refine z_iload (pc := 97) dX0_settle_97 rfl ?_
      refine z_cV1 (pc := 99) mX4_slotOf l_X0_62 (by decide) dX0_settle_99 (by decide) rfl rfl (by decide) (Nat.le_of_ble_eq_true rfl) (c_X4_slotOf (by omega)) rfl (fun r99 σ99 hr99 => ?_)
      obtain ⟨rfl, rfl⟩ := hr99
      refine z_iload_n (pc := 102) dX0_settle_102 rfl ?_
      refine z_icmp_ne (pc := 103) (tgt := 118) dX0_settle_103 (by decide) (fun h103 => ?_) (fun h103 => ?_)
      · have hq : x_o1 24 s i k σ99 = σ99 := by rw [x_o1, if_neg (fun g => h103 g.2)]
        refine z_iincN (pc := 118) dX0_settle_118 rfl (by decide) rfl rfl ?_
        refine z_goto (pc := 121) (tgt := 73) dX0_settle_121 (by decide) ?_
        exact (ih _ (by omega) (i := i + 1) (by first | exact hn | (simp only [z_up_at, reduceIte, Nat.reduceEqDiff]; exact hn)) (by omega) rfl).mono (fun r σ' g => ⟨g.1, g.2.trans (by rw [hf1, x_lo, hq] <;> rfl)⟩)
      · have hq : x_o1 24 s i k σ99 = z_up σ99 (24 + 8) i (σ99 (24 + 8) i + k) := by rw [x_o1, if_pos ⟨h90, h103⟩]
        refine z_aload_n (pc := 106) dX0_settle_106 rfl ?_
        refine z_getA (pc := 107) f_X0_36 dX0_settle_107 (by decide) rfl rfl ?_
        refine z_iload (pc := 110) dX0_settle_110 rfl ?_
        refine z_dup2 (pc := 112) dX0_settle_112 ?_
        refine z_ialdN (pc := 113) dX0_settle_113 (by decide) rfl (by decide) (by omega) ?_
        refine z_iload (pc := 114) dX0_settle_114 rfl ?_
        refine z_iadd (pc := 116) dX0_settle_116 ?_
        refine z_iastN (pc := 117) dX0_settle_117 (by decide) rfl (by decide) (by omega) ?_
        refine z_iincN (pc := 118) dX0_settle_118 rfl (by decide) rfl rfl ?_
        refine z_goto (pc := 121) (tgt := 73) dX0_settle_121 (by decide) ?_
        exact (ih _ (by omega) (i := i + 1) (by first | exact hn | (simp only [z_up_at, reduceIte, Nat.reduceEqDiff]; exact hn)) (by omega) rfl).mono (fun r σ' g => ⟨g.1, g.2.trans (by rw [hf1, x_lo, hq] <;> rfl)⟩)
set_option maxRecDepth 20000 in
theorem c_X0_settle2 {σ : z_Sto} {s n : Nat} {to : Int32} (hs : s < 16) (hn : σ 3 3 = nI n) (h12 : n ≤ 12) : z_R layX iX0_settle 0 [some (.ref 24), some (.int (nI s)), some (.int to), none, none, none, none] [] σ (fun r σ' => r = none ∧ σ' = x_set 24 23 s n to σ) := by
  refine z_aload_n (pc := 0) dX0_settle_0 rfl ?_
  refine z_getA (pc := 1) f_X0_20 dX0_settle_1 (by decide) rfl rfl ?_
  refine z_iload_n (pc := 4) dX0_settle_4 rfl ?_
  refine z_ialdN (pc := 5) dX0_settle_5 (by decide) rfl (by decide) (hs) ?_
  refine z_istore_n (pc := 6) dX0_settle_6 (by decide) rfl rfl ?_
  refine z_aload_n (pc := 7) dX0_settle_7 rfl ?_
  refine z_getA (pc := 8) f_X0_20 dX0_settle_8 (by decide) rfl rfl ?_
  refine z_iload_n (pc := 11) dX0_settle_11 rfl ?_
  refine z_iload_n (pc := 12) dX0_settle_12 rfl ?_
  refine z_iastN (pc := 13) dX0_settle_13 (by decide) rfl (by decide) (hs) ?_
  refine z_aload_n (pc := 14) dX0_settle_14 rfl ?_
  refine z_getA (pc := 15) f_X0_23 dX0_settle_15 (by decide) rfl rfl ?_
  refine z_iload_n (pc := 18) dX0_settle_18 rfl ?_
  refine z_zaldN (pc := 19) dX0_settle_19 (by decide) rfl (by decide) (hs) ?_
  simp only [z_up_at, reduceIte, Nat.reduceEqDiff]
  refine z_if_eq (pc := 20) (tgt := 28) dX0_settle_20 (by decide) (fun h20 => ?_) (fun h20 => ?_)
  · exact z_return (pc := 28) dX0_settle_28 rfl (⟨rfl, by first | rw [x_set, if_pos (Or.inl h20)] | rw [x_set, if_pos (Or.inr h25)]⟩)
  · refine z_iload_n (pc := 23) dX0_settle_23 rfl ?_
    refine z_iload_n (pc := 24) dX0_settle_24 rfl ?_
    refine z_icmp_gt (pc := 25) (tgt := 29) dX0_settle_25 (by decide) (fun h25 => ?_) (fun h25 => ?_)
    · refine z_aload_n (pc := 29) dX0_settle_29 rfl ?_
      refine z_iload_n (pc := 30) dX0_settle_30 rfl ?_
      refine z_iload_n (pc := 31) dX0_settle_31 rfl ?_
      refine z_cV2 (pc := 32) mX0_openingTick l_X0_82 (by decide) dX0_settle_32 (by decide) rfl rfl (by decide) (Nat.le_of_ble_eq_true rfl) (c_X0_openingTick2 hs) rfl (fun r32 σ32 hr32 => ?_)
      obtain ⟨rfl, rfl⟩ := hr32
      refine z_istore (pc := 35) dX0_settle_35 (by decide) rfl rfl ?_
      refine z_aload_n (pc := 37) dX0_settle_37 rfl ?_
      refine z_getA (pc := 38) f_X0_23 dX0_settle_38 (by decide) rfl rfl ?_
      refine z_iload_n (pc := 41) dX0_settle_41 rfl ?_
      refine z_iload (pc := 42) dX0_settle_42 rfl ?_
      refine z_iload_n (pc := 44) dX0_settle_44 rfl ?_
      refine z_icmp_le (pc := 45) (tgt := 52) dX0_settle_45 (by decide) (fun h45 => ?_) (fun h45 => ?_)
      · refine z_iconst (pc := 52) (v := (nI 0)) dX0_settle_52 (by decide) ?_
        refine z_zastN (pc := 53) dX0_settle_53 (by decide) rfl (by decide) (hs) (by first | exact Or.inl rfl | exact Or.inr rfl) ?_
        refine z_iload_n (pc := 54) dX0_settle_54 rfl ?_
        refine z_iload (pc := 55) dX0_settle_55 rfl ?_
        refine z_iconst (pc := 57) (v := (nI 1)) dX0_settle_57 (by decide) ?_
        refine z_isub (pc := 58) dX0_settle_58 ?_
        refine z_min (pc := 59) l_X0_100 (by decide) (Nat.le_of_ble_eq_true rfl) dX0_settle_59 ?_
        refine z_iload_n (pc := 62) dX0_settle_62 rfl ?_
        refine z_isub (pc := 63) dX0_settle_63 ?_
        refine z_istore (pc := 64) dX0_settle_64 (by decide) rfl rfl ?_
        refine z_aload_n (pc := 66) dX0_settle_66 rfl ?_
        refine z_iload_n (pc := 67) dX0_settle_67 rfl ?_
        refine z_cV1 (pc := 68) mX0_firstOf l_X0_103 (by decide) dX0_settle_68 (by decide) rfl rfl (by decide) (Nat.le_of_ble_eq_true rfl) (c_X0_firstOf2 hs) rfl (fun r68 σ68 hr68 => ?_)
        obtain ⟨rfl, rfl⟩ := hr68
        refine z_istore (pc := 71) dX0_settle_71 (by decide) rfl rfl ?_
        exact (c_X0_sll2 hs (by simp only [z_up_at, reduceIte, Nat.reduceEqDiff]; exact hn) h12 (by unfold x_fst; split <;> omega)).mono (fun r σ' g => ⟨g.1, g.2.trans (by first | exact (x_set_go (b := 24) (v := 23) h20 h25 _ (if_pos h45)).symm | exact (x_set_go (b := 24) (v := 23) h20 h25 _ (if_neg h45)).symm)⟩)
      · refine z_iconst (pc := 48) (v := (nI 1)) dX0_settle_48 (by decide) ?_
        refine z_goto (pc := 49) (tgt := 53) dX0_settle_49 (by decide) ?_
        refine z_zastN (pc := 53) dX0_settle_53 (by decide) rfl (by decide) (hs) (by first | exact Or.inl rfl | exact Or.inr rfl) ?_
        refine z_iload_n (pc := 54) dX0_settle_54 rfl ?_
        refine z_iload (pc := 55) dX0_settle_55 rfl ?_
        refine z_iconst (pc := 57) (v := (nI 1)) dX0_settle_57 (by decide) ?_
        refine z_isub (pc := 58) dX0_settle_58 ?_
        refine z_min (pc := 59) l_X0_100 (by decide) (Nat.le_of_ble_eq_true rfl) dX0_settle_59 ?_
        refine z_iload_n (pc := 62) dX0_settle_62 rfl ?_
        refine z_isub (pc := 63) dX0_settle_63 ?_
        refine z_istore (pc := 64) dX0_settle_64 (by decide) rfl rfl ?_
        refine z_aload_n (pc := 66) dX0_settle_66 rfl ?_
        refine z_iload_n (pc := 67) dX0_settle_67 rfl ?_
        refine z_cV1 (pc := 68) mX0_firstOf l_X0_103 (by decide) dX0_settle_68 (by decide) rfl rfl (by decide) (Nat.le_of_ble_eq_true rfl) (c_X0_firstOf2 hs) rfl (fun r68 σ68 hr68 => ?_)
        obtain ⟨rfl, rfl⟩ := hr68
        refine z_istore (pc := 71) dX0_settle_71 (by decide) rfl rfl ?_
        exact (c_X0_sll2 hs (by simp only [z_up_at, reduceIte, Nat.reduceEqDiff]; exact hn) h12 (by unfold x_fst; split <;> omega)).mono (fun r σ' g => ⟨g.1, g.2.trans (by first | exact (x_set_go (b := 24) (v := 23) h20 h25 _ (if_pos h45)).symm | exact (x_set_go (b := 24) (v := 23) h20 h25 _ (if_neg h45)).symm)⟩)
    · exact z_return (pc := 28) dX0_settle_28 rfl (⟨rfl, by first | rw [x_set, if_pos (Or.inl h20)] | rw [x_set, if_pos (Or.inr h25)]⟩)
set_option maxRecDepth 20000 in
theorem c_X0_sal2 {σ : z_Sto} {s n : Nat} {to : Int32} (hs : s ≤ 16) (hn : σ 3 3 = nI n) (h12 : n ≤ 12) : z_R layX iX0_settleAll 2 [some (.ref 24), some (.int to), some (.int (nI s))] [] σ (fun r σ' => r = none ∧ σ' = x_sa 24 23 n to (16 - s) s σ) := by
  generalize hf : 16 - s = f
  induction f using Nat.strongRecOn generalizing s σ
  rename_i f ih
  refine z_iload_n (pc := 2) dX0_settleAll_2 rfl ?_
  refine z_bipush (pc := 3) (v := (nI 16)) dX0_settleAll_3 (by decide) ?_
  refine z_icmp_ge (pc := 5) (tgt := 20) dX0_settleAll_5 (by decide) (fun h5 => ?_) (fun h5 => ?_)
  · have q5 : f = 0 := by have := (nI_leI (by decide) (by omega)).mp h5; omega
    exact z_return (pc := 20) dX0_settleAll_20 rfl (⟨rfl, by rw [q5]; rfl⟩)
  · have q5 : s < 16 := by have : ¬ 16 ≤ s := fun q => h5 ((nI_leI (by decide) (by omega)).mpr q); omega
    have hf1 : f = (16 - (s + 1)) + 1 := by omega
    refine z_aload_n (pc := 8) dX0_settleAll_8 rfl ?_
    refine z_iload_n (pc := 9) dX0_settleAll_9 rfl ?_
    refine z_iload_n (pc := 10) dX0_settleAll_10 rfl ?_
    refine z_cV2 (pc := 11) mX0_settle l_X0_96 (by decide) dX0_settleAll_11 (by decide) rfl rfl (by decide) (Nat.le_of_ble_eq_true rfl) (c_X0_settle2 q5 hn h12) rfl (fun r11 σ11 hr11 => ?_)
    obtain ⟨rfl, rfl⟩ := hr11
    refine z_iincN (pc := 14) dX0_settleAll_14 rfl (by decide) rfl rfl ?_
    refine z_goto (pc := 17) (tgt := 2) dX0_settleAll_17 (by decide) ?_
    exact (ih _ (by omega) (s := s + 1) (by omega) (by rw [x_set_fr (by decide)]; exact hn) rfl).mono (fun r σ' g => ⟨g.1, g.2.trans (by rw [hf1, x_sa])⟩)
set_option maxRecDepth 20000 in
theorem c_X0_settleAll2 {σ : z_Sto} {n : Nat} {to : Int32} (hn : σ 3 3 = nI n) (h12 : n ≤ 12) : z_R layX iX0_settleAll 0 [some (.ref 24), some (.int to), none] [] σ (fun r σ' => r = none ∧ σ' = x_sa 24 23 n to 16 0 σ) := by
  refine z_iconst (pc := 0) (v := (nI 0)) dX0_settleAll_0 (by decide) ?_
  refine z_istore_n (pc := 1) dX0_settleAll_1 (by decide) rfl rfl ?_
  exact c_X0_sal2 (s := 0) (by decide) hn h12
set_option maxRecDepth 20000 in
theorem c_X0_tk32 {σ : z_Sto} {s n i w : Nat} {t u : Int32} (hs : s < 16) (hn : σ 3 3 = nI n) (h12 : n ≤ 12) : z_R layX iX0_take 91 [some (.ref 24), some (.int (nI i)), some (.int (nI w)), some (.int t), some (.int (nI s)), some (.int u)] [] σ (fun r σ' => r = none ∧ σ' = x_look 24 s n (x_t3 24 23 s σ)) := by
  refine z_aload_n (pc := 91) dX0_take_91 rfl ?_
  refine z_getA (pc := 92) f_X0_11 dX0_take_92 (by decide) rfl rfl ?_
  refine z_iload (pc := 95) dX0_take_95 rfl ?_
  refine z_ialdN (pc := 97) dX0_take_97 (by decide) rfl (by decide) (hs) ?_
  refine z_aload_n (pc := 98) dX0_take_98 rfl ?_
  refine z_getA (pc := 99) f_X0_42 dX0_take_99 (by decide) rfl rfl ?_
  refine z_iconst (pc := 102) (v := (nI 4)) dX0_take_102 (by decide) ?_
  refine z_cV1 (pc := 103) mX5_get l_X0_85 (by decide) dX0_take_103 (by decide) rfl rfl (by decide) (Nat.le_of_ble_eq_true rfl) (c_X5_getT (by decide)) rfl (fun r103 σ103 hr103 => ?_)
  obtain ⟨rfl, rfl⟩ := hr103
  refine z_icmp_le (pc := 106) (tgt := 122) dX0_take_106 (by decide) (fun h106 => ?_) (fun h106 => ?_)
  · refine z_aload_n (pc := 122) dX0_take_122 rfl ?_
    refine z_iload (pc := 123) dX0_take_123 rfl ?_
    refine z_cV1 (pc := 125) mX0_lookAt l_X0_109 (by decide) dX0_take_125 (by decide) rfl rfl (by decide) (Nat.le_of_ble_eq_true rfl) (c_X0_lookAt2 hs (by first | exact hn | (simp only [z_up_at, reduceIte, Nat.reduceEqDiff]; exact hn)) h12) rfl (fun r125 σ125 hr125 => ?_)
    obtain ⟨rfl, rfl⟩ := hr125
    exact z_return (pc := 128) dX0_take_128 rfl (⟨rfl, by first | rw [x_t3, if_pos h106] | (rw [x_t3, if_neg h106] <;> rfl)⟩)
  · refine z_aload_n (pc := 109) dX0_take_109 rfl ?_
    refine z_getA (pc := 110) f_X0_23 dX0_take_110 (by decide) rfl rfl ?_
    refine z_iload (pc := 113) dX0_take_113 rfl ?_
    refine z_iconst (pc := 115) (v := (nI 1)) dX0_take_115 (by decide) ?_
    refine z_zastN (pc := 116) dX0_take_116 (by decide) rfl (by decide) (hs) (Or.inr rfl) ?_
    refine z_aload_n (pc := 117) dX0_take_117 rfl ?_
    refine z_iconst (pc := 118) (v := (nI 1)) dX0_take_118 (by decide) ?_
    refine z_putI (pc := 119) f_X0_53 tyX0_ok nmX0 (by decide) rfl (by decide) (by decide) dX0_take_119 (by decide) rfl rfl ?_
    refine z_aload_n (pc := 122) dX0_take_122 rfl ?_
    refine z_iload (pc := 123) dX0_take_123 rfl ?_
    refine z_cV1 (pc := 125) mX0_lookAt l_X0_109 (by decide) dX0_take_125 (by decide) rfl rfl (by decide) (Nat.le_of_ble_eq_true rfl) (c_X0_lookAt2 hs (by first | exact hn | (simp only [z_up_at, reduceIte, Nat.reduceEqDiff]; exact hn)) h12) rfl (fun r125 σ125 hr125 => ?_)
    obtain ⟨rfl, rfl⟩ := hr125
    exact z_return (pc := 128) dX0_take_128 rfl (⟨rfl, by first | rw [x_t3, if_pos h106] | (rw [x_t3, if_neg h106] <;> rfl)⟩)
set_option maxRecDepth 20000 in
theorem c_X0_take2 {σ : z_Sto} {s n i w h : Nat} {t : Int32} (hi : i < 12) (hsl : σ 5 i = nI s) (hs : s < 16) (hn : σ 3 3 = nI n) (h12 : n ≤ 12) (hw : w < 3) (hh : σ 23 3 = nI h) (h1 : 1 ≤ h) (h2 : h ≤ 500) : z_R layX iX0_take 0 [some (.ref 24), some (.int (nI i)), some (.int (nI w)), some (.int t), none, none] [] σ (fun r σ' => r = none ∧ σ' = x_take 24 23 s i w n t σ) := by
  refine z_aload_n (pc := 0) dX0_take_0 rfl ?_
  refine z_getA (pc := 1) f_X0_46 dX0_take_1 (by decide) rfl rfl ?_
  refine z_iload_n (pc := 4) dX0_take_4 rfl ?_
  refine z_cV1 (pc := 5) mX4_slotOf l_X0_62 (by decide) dX0_take_5 (by decide) rfl rfl (by decide) (Nat.le_of_ble_eq_true rfl) (c_X4_slotOf hi) rfl (fun r5 σ5 hr5 => ?_)
  obtain ⟨rfl, rfl⟩ := hr5
  rw [hsl]
  refine z_istore (pc := 8) dX0_take_8 (by decide) rfl rfl ?_
  refine z_aload_n (pc := 10) dX0_take_10 rfl ?_
  refine z_iload (pc := 11) dX0_take_11 rfl ?_
  refine z_iload_n (pc := 13) dX0_take_13 rfl ?_
  refine z_cV2 (pc := 14) mX0_settle l_X0_96 (by decide) dX0_take_14 (by decide) rfl rfl (by decide) (Nat.le_of_ble_eq_true rfl) (c_X0_settle2 hs hn h12) rfl (fun r14 σ14 hr14 => ?_)
  obtain ⟨rfl, hσ⟩ := hr14
  have hh' : σ14 23 3 = nI h := by rw [hσ, x_set_fr (by decide)]; exact hh
  have hn' : σ14 3 3 = nI n := by rw [hσ, x_set_fr (by decide)]; exact hn
  refine z_aload_n (pc := 17) dX0_take_17 rfl ?_
  refine z_iload (pc := 18) dX0_take_18 rfl ?_
  refine z_iload_n (pc := 20) dX0_take_20 rfl ?_
  refine z_cV2 (pc := 21) mX0_penaltyAt l_X0_73 (by decide) dX0_take_21 (by decide) rfl rfl (by decide) (Nat.le_of_ble_eq_true rfl) (c_X0_penaltyAt2 hs hh' h1 h2) rfl (fun r21 σ21 hr21 => ?_)
  obtain ⟨rfl, rfl⟩ := hr21
  refine z_aload_n (pc := 24) dX0_take_24 rfl ?_
  refine z_iload_n (pc := 25) dX0_take_25 rfl ?_
  refine z_iload_n (pc := 26) dX0_take_26 rfl ?_
  refine z_iload_n (pc := 27) dX0_take_27 rfl ?_
  refine z_cV3 (pc := 28) mX0_weightOf l_X0_113 (by decide) dX0_take_28 (by decide) rfl rfl (by decide) (Nat.le_of_ble_eq_true rfl) (c_X0_weightOf2 hi hw) rfl (fun r28 σ28 hr28 => ?_)
  obtain ⟨rfl, rfl⟩ := hr28
  refine z_iadd (pc := 31) dX0_take_31 ?_
  refine z_istore (pc := 32) dX0_take_32 (by decide) rfl rfl ?_
  refine z_aload_n (pc := 34) dX0_take_34 rfl ?_
  refine z_getA (pc := 35) f_X0_11 dX0_take_35 (by decide) rfl rfl ?_
  refine z_iload (pc := 38) dX0_take_38 rfl ?_
  refine z_aload_n (pc := 40) dX0_take_40 rfl ?_
  refine z_getA (pc := 41) f_X0_42 dX0_take_41 (by decide) rfl rfl ?_
  refine z_bipush (pc := 44) (v := (nI 6)) dX0_take_44 (by decide) ?_
  refine z_cV1 (pc := 46) mX5_get l_X0_85 (by decide) dX0_take_46 (by decide) rfl rfl (by decide) (Nat.le_of_ble_eq_true rfl) (c_X5_getT (by decide)) rfl (fun r46 σ46 hr46 => ?_)
  obtain ⟨rfl, rfl⟩ := hr46
  refine z_iload (pc := 49) dX0_take_49 rfl ?_
  refine z_min (pc := 51) l_X0_100 (by decide) (Nat.le_of_ble_eq_true rfl) dX0_take_51 ?_
  refine z_iastN (pc := 54) dX0_take_54 (by decide) rfl (by decide) (hs) ?_
  refine z_aload_n (pc := 55) dX0_take_55 rfl ?_
  refine z_getA (pc := 56) f_X0_17 dX0_take_56 (by decide) rfl rfl ?_
  refine z_iload (pc := 59) dX0_take_59 rfl ?_
  refine z_iload_n (pc := 61) dX0_take_61 rfl ?_
  refine z_iastN (pc := 62) dX0_take_62 (by decide) rfl (by decide) (hs) ?_
  refine z_aload_n (pc := 63) dX0_take_63 rfl ?_
  refine z_getA (pc := 64) f_X0_39 dX0_take_64 (by decide) rfl rfl ?_
  refine z_iload_n (pc := 67) dX0_take_67 rfl ?_
  refine z_iload_n (pc := 68) dX0_take_68 rfl ?_
  refine z_iastN (pc := 69) dX0_take_69 (by decide) rfl (by decide) (hi) ?_
  refine z_iload_n (pc := 70) dX0_take_70 rfl ?_
  refine z_iconst (pc := 71) (v := (nI 2)) dX0_take_71 (by decide) ?_
  refine z_icmp_eq (pc := 72) (tgt := 91) dX0_take_72 (by decide) (fun h72 => ?_) (fun h72 => ?_)
  · have q72 : w = 2 := z_nI_inj (by omega) (by decide) h72
    exact (c_X0_tk32 hs (by simp only [z_up_at, reduceIte, Nat.reduceEqDiff]; exact hn') h12).mono (fun r σ' g => ⟨g.1, g.2.trans (by rw [x_take, ← hσ, x_t2]; first | (rw [if_pos q72]; rfl) | (rw [if_neg q72, if_pos q82]; rfl) | (rw [if_neg q72, if_neg q82]; rfl))⟩)
  · have q72 : ¬ w = 2 := fun q => h72 (by rw [q])
    refine z_aload_n (pc := 75) dX0_take_75 rfl ?_
    refine z_getA (pc := 76) f_X0_27 dX0_take_76 (by decide) rfl rfl ?_
    refine z_iload_n (pc := 79) dX0_take_79 rfl ?_
    refine z_iload_n (pc := 80) dX0_take_80 rfl ?_
    refine z_iconst (pc := 81) (v := (nI 1)) dX0_take_81 (by decide) ?_
    refine z_icmp_ne (pc := 82) (tgt := 89) dX0_take_82 (by decide) (fun h82 => ?_) (fun h82 => ?_)
    · have q82 : ¬ w = 1 := fun q => h82 (by rw [q])
      refine z_iconst (pc := 89) (v := (nI 0)) dX0_take_89 (by decide) ?_
      refine z_zastN (pc := 90) dX0_take_90 (by decide) rfl (by decide) (hi) (by first | exact Or.inl rfl | exact Or.inr rfl) ?_
      exact (c_X0_tk32 hs (by simp only [z_up_at, reduceIte, Nat.reduceEqDiff]; exact hn') h12).mono (fun r σ' g => ⟨g.1, g.2.trans (by rw [x_take, ← hσ, x_t2]; first | (rw [if_pos q72]; rfl) | (rw [if_neg q72, if_pos q82]; rfl) | (rw [if_neg q72, if_neg q82]; rfl))⟩)
    · have q82 : w = 1 := z_nI_inj (by omega) (by decide) h82
      refine z_iconst (pc := 85) (v := (nI 1)) dX0_take_85 (by decide) ?_
      refine z_goto (pc := 86) (tgt := 90) dX0_take_86 (by decide) ?_
      refine z_zastN (pc := 90) dX0_take_90 (by decide) rfl (by decide) (hi) (by first | exact Or.inl rfl | exact Or.inr rfl) ?_
      exact (c_X0_tk32 hs (by simp only [z_up_at, reduceIte, Nat.reduceEqDiff]; exact hn') h12).mono (fun r σ' g => ⟨g.1, g.2.trans (by rw [x_take, ← hσ, x_t2]; first | (rw [if_pos q72]; rfl) | (rw [if_neg q72, if_pos q82]; rfl) | (rw [if_neg q72, if_neg q82]; rfl))⟩)
set_option maxRecDepth 20000 in
theorem c_X0_rs22 {σ : z_Sto} {i : Nat} (hi : i ≤ 12) : z_R layX iX0_restart 49 [some (.ref 24), some (.int (nI i))] [] σ (fun r σ' => r = none ∧ σ' = x_rb 24 (12 - i) i σ) := by
  generalize hf : 12 - i = f
  induction f using Nat.strongRecOn generalizing i σ
  rename_i f ih
  refine z_iload_n (pc := 49) dX0_restart_49 rfl ?_
  refine z_bipush (pc := 50) (v := (nI 12)) dX0_restart_50 (by decide) ?_
  refine z_icmp_ge (pc := 52) (tgt := 97) dX0_restart_52 (by decide) (fun h52 => ?_) (fun h52 => ?_)
  · have q52 : f = 0 := by have := (nI_leI (by decide) (by omega)).mp h52; omega
    exact z_return (pc := 97) dX0_restart_97 rfl (⟨rfl, by rw [q52]; rfl⟩)
  · have q52 : i < 12 := by have : ¬ 12 ≤ i := fun q => h52 ((nI_leI (by decide) (by omega)).mpr q); omega
    have hf1 : f = (12 - (i + 1)) + 1 := by omega
    refine z_aload_n (pc := 55) dX0_restart_55 rfl ?_
    refine z_getA (pc := 56) f_X0_27 dX0_restart_56 (by decide) rfl rfl ?_
    refine z_iload_n (pc := 59) dX0_restart_59 rfl ?_
    refine z_iconst (pc := 60) (v := (nI 1)) dX0_restart_60 (by decide) ?_
    refine z_zastN (pc := 61) dX0_restart_61 (by decide) rfl (by decide) (q52) (Or.inr rfl) ?_
    refine z_aload_n (pc := 62) dX0_restart_62 rfl ?_
    refine z_getA (pc := 63) f_X0_30 dX0_restart_63 (by decide) rfl rfl ?_
    refine z_iload_n (pc := 66) dX0_restart_66 rfl ?_
    refine z_iconst (pc := 67) (v := (nI 1)) dX0_restart_67 (by decide) ?_
    refine z_zastN (pc := 68) dX0_restart_68 (by decide) rfl (by decide) (q52) (Or.inr rfl) ?_
    refine z_aload_n (pc := 69) dX0_restart_69 rfl ?_
    refine z_getA (pc := 70) f_X0_33 dX0_restart_70 (by decide) rfl rfl ?_
    refine z_iload_n (pc := 73) dX0_restart_73 rfl ?_
    refine z_iconst (pc := 74) (v := (nI 0)) dX0_restart_74 (by decide) ?_
    refine z_iastN (pc := 75) dX0_restart_75 (by decide) rfl (by decide) (q52) ?_
    refine z_aload_n (pc := 76) dX0_restart_76 rfl ?_
    refine z_getA (pc := 77) f_X0_36 dX0_restart_77 (by decide) rfl rfl ?_
    refine z_iload_n (pc := 80) dX0_restart_80 rfl ?_
    refine z_iconst (pc := 81) (v := (nI 0)) dX0_restart_81 (by decide) ?_
    refine z_iastN (pc := 82) dX0_restart_82 (by decide) rfl (by decide) (q52) ?_
    refine z_aload_n (pc := 83) dX0_restart_83 rfl ?_
    refine z_getA (pc := 84) f_X0_39 dX0_restart_84 (by decide) rfl rfl ?_
    refine z_iload_n (pc := 87) dX0_restart_87 rfl ?_
    refine z_ldc (pc := 88) k_X0_57 dX0_restart_88 ?_
    refine z_iastN (pc := 90) dX0_restart_90 (by decide) rfl (by decide) (q52) ?_
    refine z_iincN (pc := 91) dX0_restart_91 rfl (by decide) rfl rfl ?_
    refine z_goto (pc := 94) (tgt := 49) dX0_restart_94 (by decide) ?_
    exact (ih _ (by omega) (i := i + 1) (by omega) rfl).mono (fun r σ' g => ⟨g.1, g.2.trans (by rw [hf1, x_rb]; rfl)⟩)
set_option maxRecDepth 20000 in
theorem c_X0_rs12 {σ : z_Sto} {s : Nat} (hs : s ≤ 16) : z_R layX iX0_restart 7 [some (.ref 24), some (.int (nI s))] [] σ (fun r σ' => r = none ∧ σ' = x_rb 24 12 0 (x_ra 24 (16 - s) s σ)) := by
  generalize hf : 16 - s = f
  induction f using Nat.strongRecOn generalizing s σ
  rename_i f ih
  refine z_iload_n (pc := 7) dX0_restart_7 rfl ?_
  refine z_bipush (pc := 8) (v := (nI 16)) dX0_restart_8 (by decide) ?_
  refine z_icmp_ge (pc := 10) (tgt := 47) dX0_restart_10 (by decide) (fun h10 => ?_) (fun h10 => ?_)
  · have q10 : f = 0 := by have := (nI_leI (by decide) (by omega)).mp h10; omega
    refine z_iconst (pc := 47) (v := (nI 0)) dX0_restart_47 (by decide) ?_
    refine z_istore_n (pc := 48) dX0_restart_48 (by decide) rfl rfl ?_
    exact (c_X0_rs22 (i := 0) (by decide)).mono (fun r σ' g => ⟨g.1, g.2.trans (by rw [q10]; rfl)⟩)
  · have q10 : s < 16 := by have : ¬ 16 ≤ s := fun q => h10 ((nI_leI (by decide) (by omega)).mpr q); omega
    have hf1 : f = (16 - (s + 1)) + 1 := by omega
    refine z_aload_n (pc := 13) dX0_restart_13 rfl ?_
    refine z_getA (pc := 14) f_X0_11 dX0_restart_14 (by decide) rfl rfl ?_
    refine z_iload_n (pc := 17) dX0_restart_17 rfl ?_
    refine z_iconst (pc := 18) (v := (nI 0)) dX0_restart_18 (by decide) ?_
    refine z_iastN (pc := 19) dX0_restart_19 (by decide) rfl (by decide) (q10) ?_
    refine z_aload_n (pc := 20) dX0_restart_20 rfl ?_
    refine z_getA (pc := 21) f_X0_17 dX0_restart_21 (by decide) rfl rfl ?_
    refine z_iload_n (pc := 24) dX0_restart_24 rfl ?_
    refine z_iconst (pc := 25) (v := (nI 0)) dX0_restart_25 (by decide) ?_
    refine z_iastN (pc := 26) dX0_restart_26 (by decide) rfl (by decide) (q10) ?_
    refine z_aload_n (pc := 27) dX0_restart_27 rfl ?_
    refine z_getA (pc := 28) f_X0_20 dX0_restart_28 (by decide) rfl rfl ?_
    refine z_iload_n (pc := 31) dX0_restart_31 rfl ?_
    refine z_iconst (pc := 32) (v := (nI 0)) dX0_restart_32 (by decide) ?_
    refine z_iastN (pc := 33) dX0_restart_33 (by decide) rfl (by decide) (q10) ?_
    refine z_aload_n (pc := 34) dX0_restart_34 rfl ?_
    refine z_getA (pc := 35) f_X0_23 dX0_restart_35 (by decide) rfl rfl ?_
    refine z_iload_n (pc := 38) dX0_restart_38 rfl ?_
    refine z_iconst (pc := 39) (v := (nI 0)) dX0_restart_39 (by decide) ?_
    refine z_zastN (pc := 40) dX0_restart_40 (by decide) rfl (by decide) (q10) (Or.inl rfl) ?_
    refine z_iincN (pc := 41) dX0_restart_41 rfl (by decide) rfl rfl ?_
    refine z_goto (pc := 44) (tgt := 7) dX0_restart_44 (by decide) ?_
    exact (ih _ (by omega) (s := s + 1) (by omega) rfl).mono (fun r σ' g => ⟨g.1, g.2.trans (by rw [hf1, x_ra]; rfl)⟩)
set_option maxRecDepth 20000 in
theorem c_X0_restart2 {σ : z_Sto} : z_R layX iX0_restart 0 [some (.ref 24), none] [] σ (fun r σ' => r = none ∧ σ' = x_restart 24 σ) := by
  refine z_aload_n (pc := 0) dX0_restart_0 rfl ?_
  refine z_iconst (pc := 1) (v := (nI 0)) dX0_restart_1 (by decide) ?_
  refine z_putI (pc := 2) f_X0_53 tyX0_ok nmX0 (by decide) rfl (by decide) (by decide) dX0_restart_2 (by decide) rfl rfl ?_
  refine z_iconst (pc := 5) (v := (nI 0)) dX0_restart_5 (by decide) ?_
  refine z_istore_n (pc := 6) dX0_restart_6 (by decide) rfl rfl ?_
  exact c_X0_rs12 (s := 0) (by decide)
