/-! Replay.findMarks -/
def x_ok (σ : z_Sto) (n e h : Nat) : Prop := σ 3 3 = nI n ∧ n ≤ 12 ∧ σ 7 3 = nI e ∧ e ≤ 300 ∧ x_log σ n e ∧ σ 2 3 = nI h ∧ 1 ≤ h ∧ h ≤ 500
theorem x_ok_fr {σ τ : z_Sto} {n e h : Nat} (H : x_ok σ n e h) (f : ∀ c, c = 2 ∨ c = 3 ∨ c = 5 ∨ c = 7 ∨ c = 8 ∨ c = 9 → τ c = σ c) : x_ok τ n e h := by
  obtain ⟨a1, a2, a3, a4, a5, a6, a7⟩ := H
  exact ⟨by rw [f 3 (by decide)]; exact a1, a2, by rw [f 7 (by decide)]; exact a3, a4, x_log_fr a5 (f 8 (by decide)) (f 9 (by decide)) (f 5 (by decide)), by rw [f 2 (by decide)]; exact a6, a7⟩
theorem x_take_b {b v s i w n : Nat} {t : Int32} {σ : z_Sto} : x_take b v s i w n t σ b 11 = σ b 11 ∨ x_take b v s i w n t σ b 11 = nI 1 := by
  have e2 : ∀ τ : z_Sto, x_t2 b i w τ b = τ b := fun τ => by
    unfold x_t2
    split
    · rfl
    · rw [z_up_ne _ _ _ (by omega)]
  have e1 : ∀ τ : z_Sto, x_t1 b v s i w t τ b = τ b := fun τ => by
    rw [x_t1, z_up_ne _ _ _ (by omega), z_up_ne _ _ _ (by omega), z_up_ne _ _ _ (by omega)]
  rw [x_take, x_look_fr (by omega)]
  unfold x_t3
  split
  · left
    rw [e2, e1, x_set_fr (by omega)]
  · right
    rw [z_up_same, z_upd_s]
theorem x_rb_b {b : Nat} : ∀ (f i : Nat) (σ : z_Sto), x_rb b f i σ b = σ b
  | 0, _, _ => rfl
  | f + 1, i, σ => by rw [x_rb, x_rb_b f, x_s2, z_up_ne _ _ _ (by omega), z_up_ne _ _ _ (by omega), z_up_ne _ _ _ (by omega), z_up_ne _ _ _ (by omega), z_up_ne _ _ _ (by omega)]
theorem x_ra_b {b : Nat} : ∀ (f i : Nat) (σ : z_Sto), x_ra b f i σ b = σ b
  | 0, _, _ => rfl
  | f + 1, i, σ => by rw [x_ra, x_ra_b f, x_s1, z_up_ne _ _ _ (by omega), z_up_ne _ _ _ (by omega), z_up_ne _ _ _ (by omega), z_up_ne _ _ _ (by omega)]
theorem x_restart_b {b : Nat} {σ : z_Sto} : x_restart b σ b 11 = nI 0 := by
  rw [x_restart, x_rb_b, x_ra_b, z_up_same, z_upd_s]
theorem x_gl_b {n : Nat} : ∀ (f j : Nat) (σ : z_Sto), (σ 24 11 = nI 0 ∨ σ 24 11 = nI 1) → (x_gl n f j σ 24 11 = nI 0 ∨ x_gl n f j σ 24 11 = nI 1)
  | 0, _, _, h => h
  | f + 1, j, σ, h => by
    rw [x_gl]
    refine x_gl_b f (j + 1) _ ?_
    rcases (x_take_b : x_g1 n j σ 24 11 = σ 24 11 ∨ x_g1 n j σ 24 11 = nI 1) with e | e
    · rw [show x_g1 n j σ 24 11 = σ 24 11 from e]; exact h
    · exact Or.inr e
theorem x_go_b {n e : Nat} {s o t : Int32} {σ : z_Sto} : x_go n e s o t σ 24 11 = nI 0 ∨ x_go n e s o t σ 24 11 = nI 1 := by
  rw [x_go, x_sa_fr (by decide)]
  exact x_gl_b _ _ _ (Or.inl x_restart_b)
def x_tr (σ : z_Sto) : Nat := (σ 21 6).toNatClampNeg
def x_trok (σ : z_Sto) : Prop := ∃ tr, tr ≤ 420 ∧ σ 21 6 = nI tr
theorem x_trok.at {σ : z_Sto} (h : x_trok σ) : σ 21 6 = nI (x_tr σ) ∧ x_tr σ ≤ 420 := by
  obtain ⟨tr, h1, h2⟩ := h
  have : x_tr σ = tr := by rw [x_tr, h2, z_cl (by omega)]
  rw [this]
  exact ⟨h2, h1⟩
def x_fk (n e : Nat) (q t : Int32) (sh op : Nat) (σ : z_Sto) : z_Sto := x_keep (x_met q (x_go n e (nI sh) (nI op) t σ) n 0 (nI 0)) (x_tr σ) (x_go n e (nI sh) (nI op) t σ)
def x_fi (n e : Nat) (q t w : Int32) (sh : Nat) : Nat → Nat → Int32 → z_Sto → (Int32 × z_Sto) ⊕ (Int32 × z_Sto)
  | 0, _, a, σ => .inr (a, σ)
  | f + 1, op, a, σ => if sh < op ∨ a = 0 then .inr (a, σ) else if x_met q (x_go n e (nI sh) (nI op) t σ) n 0 (nI 0) = w then .inl (nI (sh * 100000 + op), x_go n e (nI sh) (nI op) t σ) else x_fi n e q t w sh f (op + 250) (x_fk n e q t sh op σ 24 11) (x_fk n e q t sh op σ)
def x_fo (n e : Nat) (q t w : Int32) : Nat → Nat → Int32 → z_Sto → Int32 × z_Sto
  | 0, _, _, σ => (x_cf1 σ n (x_tr σ) n 0, σ)
  | f + 1, sh, a, σ => if 10000 < sh ∨ a = 0 then (x_cf1 σ n (x_tr σ) n 0, σ) else match x_fi n e q t w sh (sh / 250) 250 a σ with
    | .inl r => r
    | .inr p => x_fo n e q t w f (sh + 500) p.1 p.2
theorem x_keep_fr {m : Int32} {tr c : Nat} {σ : z_Sto} (h : c ≠ 34 ∧ c ≠ 21) : x_keep m tr σ c = σ c := by
  unfold x_keep
  split
  · rw [z_up_ne _ _ _ h.2, z_up_ne _ _ _ h.1]
  · rfl
theorem x_fk_fr {n e sh op c : Nat} {q t : Int32} {σ : z_Sto} (h : c < 21 ∨ c = 22 ∨ 34 < c) : x_fk n e q t sh op σ c = σ c := by
  rw [x_fk, x_keep_fr (by omega), x_go_fr (by unfold x_away; omega) (by omega)]
theorem x_keep_tr {m : Int32} {tr : Nat} {σ : z_Sto} (h : σ 21 6 = nI tr) (h4 : tr ≤ 420) : x_trok (x_keep m tr σ) := by
  unfold x_keep
  split
  · exact ⟨tr + 1, by omega, by rw [z_up_same, z_upd_s]⟩
  · exact ⟨tr, h4, h⟩
theorem x_fk_tr {n e sh op : Nat} {q t : Int32} {σ : z_Sto} (h : x_trok σ) : x_trok (x_fk n e q t sh op σ) :=
  x_keep_tr (by rw [x_go_fr (by unfold x_away; omega) (by decide)]; exact h.at.1) h.at.2
set_option maxRecDepth 20000 in
theorem c_X3_fi {σ : z_Sto} {n e h sh op f : Nat} {q t w a : Int32} {v7 : Option Value} {Φ : z_Post} (hok : x_ok σ n e h) (ht : x_trok σ) (hsh : sh ≤ 10000) (hop : op ≤ sh + 250) (hf : sh < op + 250 * f) (hret : ∀ v τ, x_fi n e q t w sh f op a σ = .inl (v, τ) → Φ (some (.int v)) τ) (K : ∀ a' τ, x_fi n e q t w sh f op a σ = .inr (a', τ) → x_ok τ n e h → x_trok τ → ∀ w6 w7, z_R layX iX3_findMarks 106 [some (.ref 21), some (.int q), some (.int t), some (.int w), some (.int a'), some (.int (nI sh)), w6, w7] [] τ Φ) : z_R layX iX3_findMarks 39 [some (.ref 21), some (.int q), some (.int t), some (.int w), some (.int a), some (.int (nI sh)), some (.int (nI op)), v7] [] σ Φ := by
  induction f generalizing op σ a v7
  · exact z_iload (pc := 39) dX3_findMarks_39 rfl (z_iload (pc := 41) dX3_findMarks_41 rfl (z_icmp_gt (pc := 43) (tgt := 106) dX3_findMarks_43 (by decide) (fun h43 => K _ _ rfl hok ht _ _) (fun h43 => absurd ((nI_ltI (by omega) (by omega)).mpr (by omega)) h43)))
  rename_i f ih
  refine z_iload (pc := 39) dX3_findMarks_39 rfl ?_
  refine z_iload (pc := 41) dX3_findMarks_41 rfl ?_
  refine z_icmp_gt (pc := 43) (tgt := 106) dX3_findMarks_43 (by decide) (fun h43 => ?_) (fun h43 => ?_)
  · have q43 : sh < op := (nI_ltI (by omega) (by omega)).mp h43
    exact K _ _ (by rw [x_fi, if_pos (Or.inl q43)]) hok ht _ _
  · have q43 : ¬ sh < op := fun q => h43 ((nI_ltI (by omega) (by omega)).mpr q)
    refine z_iload (pc := 46) dX3_findMarks_46 rfl ?_
    refine z_if_eq (pc := 48) (tgt := 106) dX3_findMarks_48 (by decide) (fun h48 => ?_) (fun h48 => ?_)
    · exact K _ _ (by rw [x_fi, if_pos (Or.inr h48)]) hok ht _ _
    · have q48 : ¬ (sh < op ∨ a = 0) := fun g => g.elim q43 h48
      refine z_aload_n (pc := 51) dX3_findMarks_51 rfl ?_
      refine z_iload (pc := 52) dX3_findMarks_52 rfl ?_
      refine z_iload (pc := 54) dX3_findMarks_54 rfl ?_
      refine z_iload_n (pc := 56) dX3_findMarks_56 rfl ?_
      refine z_cV3 (pc := 57) mX3_goOver l_X3_88 (by decide) dX3_findMarks_57 (by decide) rfl rfl (by decide) (Nat.le_of_ble_eq_true rfl) (c_X3_goOver hok.1 hok.2.1 hok.2.2.1 hok.2.2.2.1 hok.2.2.2.2.1 hok.2.2.2.2.2.1 hok.2.2.2.2.2.2.1 hok.2.2.2.2.2.2.2) rfl (fun r57 σ57 hr57 => ?_)
      obtain ⟨er57, eσ57⟩ := hr57
      subst er57
      have hok1 : x_ok σ57 n e h := x_ok_fr hok (fun c hc => by rw [eσ57]; exact x_go_fr (by unfold x_away; omega) (by omega))
      have ht1 : σ57 21 6 = nI (x_tr σ) := by rw [eσ57, x_go_fr (by unfold x_away; omega) (by decide)]; exact ht.at.1
      have hb1 : σ57 24 11 = nI 0 ∨ σ57 24 11 = nI 1 := by rw [eσ57]; exact x_go_b
      refine z_aload_n (pc := 60) dX3_findMarks_60 rfl ?_
      refine z_iload_n (pc := 61) dX3_findMarks_61 rfl ?_
      refine z_cV1 (pc := 62) mX3_metLines l_X3_91 (by decide) dX3_findMarks_62 (by decide) rfl rfl (by decide) (Nat.le_of_ble_eq_true rfl) (c_X3_metLines hok1.1 hok1.2.1) rfl (fun r62 σ62 hr62 => ?_)
      obtain ⟨rfl, rfl⟩ := hr62
      refine z_istore (pc := 65) dX3_findMarks_65 (by decide) rfl rfl ?_
      refine z_iload (pc := 67) dX3_findMarks_67 rfl ?_
      refine z_iload_n (pc := 69) dX3_findMarks_69 rfl ?_
      refine z_icmp_ne (pc := 70) (tgt := 82) dX3_findMarks_70 (by decide) (fun h70 => ?_) (fun h70 => ?_)
      · refine z_aload_n (pc := 82) dX3_findMarks_82 rfl ?_
        refine z_iload (pc := 83) dX3_findMarks_83 rfl ?_
        refine z_cV1 (pc := 85) mX3_keep l_X3_95 (by decide) dX3_findMarks_85 (by decide) rfl rfl (by decide) (Nat.le_of_ble_eq_true rfl) (c_X3_keep ht1 ht.at.2) rfl (fun r85 σ85 hr85 => ?_)
        obtain ⟨er85, eσ85⟩ := hr85
        subst er85
        have efk : σ85 = x_fk n e q t sh op σ := by rw [eσ85, x_fk, ← eσ57]
        have hb2 : σ85 24 11 = nI 0 ∨ σ85 24 11 = nI 1 := by rw [eσ85, x_keep_fr (by decide)]; exact hb1
        refine z_aload_n (pc := 88) dX3_findMarks_88 rfl ?_
        refine z_getA (pc := 89) f_X3_42 dX3_findMarks_89 (by decide) rfl rfl ?_
        refine z_cV0 (pc := 92) mX0_wasEverShut l_X3_98 (by decide) dX3_findMarks_92 (by decide) rfl rfl (by decide) (Nat.le_of_ble_eq_true rfl) (c_X0_wasEverShut2 hb2) rfl (fun r92 σ92 hr92 => ?_)
        obtain ⟨er92, eσ92⟩ := hr92
        subst er92
        subst eσ92
        refine z_istore (pc := 95) dX3_findMarks_95 (by decide) rfl rfl ?_
        refine z_iincWN (pc := 97) 250 dX3_findMarks_97 (by decide) rfl (by decide) rfl rfl ?_
        refine z_goto (pc := 103) (tgt := 39) dX3_findMarks_103 (by decide) ?_
        exact ih (op := op + 250) (x_ok_fr hok (fun c hc => by rw [efk]; exact x_fk_fr (by omega))) (by rw [efk]; exact x_fk_tr ht) (by omega) (by omega) (fun v τ g => hret v τ (by rw [x_fi, if_neg q48, ← eσ57, if_neg h70, ← efk]; exact g)) (fun a' τ g => K a' τ (by rw [x_fi, if_neg q48, ← eσ57, if_neg h70, ← efk]; exact g))
      · refine z_iload (pc := 73) dX3_findMarks_73 rfl ?_
        refine z_ldc (pc := 75) k_X3_94 dX3_findMarks_75 ?_
        refine z_imulN (pc := 77) dX3_findMarks_77 ?_
        refine z_iload (pc := 78) dX3_findMarks_78 rfl ?_
        refine z_iaddN (pc := 80) dX3_findMarks_80 ?_
        exact z_ireturn (pc := 81) dX3_findMarks_81 rfl rfl (hret _ _ (by rw [x_fi, if_neg q48, ← eσ57, if_pos h70]))
set_option maxRecDepth 20000 in
theorem c_X3_fx {σ : z_Sto} {n e h : Nat} {v1 v2 v3 v4 v5 v6 v7 : Option Value} (hok : x_ok σ n e h) (ht : x_trok σ) : z_R layX iX3_findMarks 115 [some (.ref 21), v1, v2, v3, v4, v5, v6, v7] [] σ (fun r σ' => r = some (.int (x_cf1 σ n (x_tr σ) n 0)) ∧ σ' = σ) := by
  refine z_aload_n (pc := 115) dX3_findMarks_115 rfl ?_
  refine z_cV0 (pc := 116) mX3_conflict l_X3_102 (by decide) dX3_findMarks_116 (by decide) rfl rfl (by decide) (Nat.le_of_ble_eq_true rfl) (c_X3_conflict hok.1 hok.2.1 ht.at.1 ht.at.2) rfl (fun r116 σ116 hr116 => ?_)
  obtain ⟨rfl, rfl⟩ := hr116
  exact z_ireturn (pc := 119) dX3_findMarks_119 rfl rfl (⟨rfl, rfl⟩)
set_option maxRecDepth 20000 in
theorem c_X3_fo {σ : z_Sto} {n e h sh f : Nat} {q t w a : Int32} {v6 v7 : Option Value} (hok : x_ok σ n e h) (ht : x_trok σ) (hsh : sh ≤ 10500) (hf : 10000 < sh + 500 * f) : z_R layX iX3_findMarks 21 [some (.ref 21), some (.int q), some (.int t), some (.int w), some (.int a), some (.int (nI sh)), v6, v7] [] σ (fun r σ' => r = some (.int (x_fo n e q t w f sh a σ).1) ∧ σ' = (x_fo n e q t w f sh a σ).2) := by
  induction f generalizing sh σ a v6 v7
  · exact z_iload (pc := 21) dX3_findMarks_21 rfl (z_sipush (pc := 23) (v := nI 10000) dX3_findMarks_23 (by decide) (z_icmp_gt (pc := 26) (tgt := 115) dX3_findMarks_26 (by decide) (fun _ => c_X3_fx hok ht) (fun h26 => absurd ((nI_ltI (by decide) (by omega)).mpr (by omega)) h26)))
  rename_i f ih
  refine z_iload (pc := 21) dX3_findMarks_21 rfl ?_
  refine z_sipush (pc := 23) (v := (nI 10000)) dX3_findMarks_23 (by decide) ?_
  refine z_icmp_gt (pc := 26) (tgt := 115) dX3_findMarks_26 (by decide) (fun h26 => ?_) (fun h26 => ?_)
  · have q26 : 10000 < sh := (nI_ltI (by decide) (by omega)).mp h26
    have ex : x_fo n e q t w (f + 1) sh a σ = (x_cf1 σ n (x_tr σ) n 0, σ) := by rw [x_fo, if_pos (Or.inl q26)]
    exact (c_X3_fx hok ht).mono (fun r σ' g => by rw [ex]; exact g)
  · have q26 : ¬ 10000 < sh := fun q => h26 ((nI_ltI (by decide) (by omega)).mpr q)
    refine z_iload (pc := 29) dX3_findMarks_29 rfl ?_
    refine z_if_eq (pc := 31) (tgt := 115) dX3_findMarks_31 (by decide) (fun h31 => ?_) (fun h31 => ?_)
    · have ex : x_fo n e q t w (f + 1) sh a σ = (x_cf1 σ n (x_tr σ) n 0, σ) := by rw [x_fo, if_pos (Or.inr h31)]
      exact (c_X3_fx hok ht).mono (fun r σ' g => by rw [ex]; exact g)
    · refine z_sipush (pc := 34) (v := (nI 250)) dX3_findMarks_34 (by decide) ?_
      refine z_istore (pc := 37) dX3_findMarks_37 (by decide) rfl rfl ?_
      have q31 : ¬ (10000 < sh ∨ a = 0) := fun g => g.elim q26 h31
      have hd := Nat.div_add_mod sh 250
      have hm := Nat.mod_lt sh (show 250 > 0 by decide)
      exact c_X3_fi (f := sh / 250) hok ht (by omega) (by omega) (by omega) (fun v τ g => by rw [x_fo, if_neg q31, g]; exact ⟨rfl, rfl⟩) (fun a' τ g hok' ht' w6 w7 => z_iincWN (pc := 106) 500 dX3_findMarks_106 (by decide) rfl (by decide) rfl rfl (z_goto (pc := 112) (tgt := 21) dX3_findMarks_112 (by decide) ((ih (sh := sh + 500) hok' ht' (by omega) (by omega)).mono (fun r σ' k => by rw [x_fo, if_neg q31, g]; exact k))))
def x_fm (n e : Nat) (q t : Int32) (σ : z_Sto) : Int32 × z_Sto := x_fo n e q t (x_bits (σ 6) n) 20 500 (nI 1) (z_up σ 21 6 (nI 0))
set_option maxRecDepth 20000 in
theorem c_X3_findMarks {σ : z_Sto} {n e h : Nat} {q t : Int32} (hok : x_ok σ n e h) : z_R layX iX3_findMarks 0 [some (.ref 21), some (.int q), some (.int t), none, none, none, none, none] [] σ (fun r σ' => r = some (.int (x_fm n e q t σ).1) ∧ σ' = (x_fm n e q t σ).2) := by
  refine z_aload_n (pc := 0) dX3_findMarks_0 rfl ?_
  refine z_getA (pc := 1) f_X3_29 dX3_findMarks_1 (by decide) rfl rfl ?_
  refine z_cV0 (pc := 4) mX4_markedLines l_X3_83 (by decide) dX3_findMarks_4 (by decide) rfl rfl (by decide) (Nat.le_of_ble_eq_true rfl) (c_X4_markedLines hok.1 hok.2.1) rfl (fun r4 σ4 hr4 => ?_)
  obtain ⟨rfl, rfl⟩ := hr4
  refine z_istore_n (pc := 7) dX3_findMarks_7 (by decide) rfl rfl ?_
  refine z_iconst (pc := 8) (v := (nI 1)) dX3_findMarks_8 (by decide) ?_
  refine z_istore (pc := 9) dX3_findMarks_9 (by decide) rfl rfl ?_
  refine z_aload_n (pc := 11) dX3_findMarks_11 rfl ?_
  refine z_iconst (pc := 12) (v := (nI 0)) dX3_findMarks_12 (by decide) ?_
  refine z_putI (pc := 13) f_X3_22 tyX3_ok nmX3 (by decide) rfl rfl rfl dX3_findMarks_13 (by decide) rfl rfl ?_
  refine z_sipush (pc := 16) (v := (nI 500)) dX3_findMarks_16 (by decide) ?_
  refine z_istore (pc := 19) dX3_findMarks_19 (by decide) rfl rfl ?_
  exact c_X3_fo (f := 20) (sh := 500) (x_ok_fr hok (fun c hc => z_up_ne _ _ _ (by omega))) ⟨0, by decide, by rw [z_up_same, z_upd_s]⟩ (by decide) (by decide)
theorem x_fi_fr {n e sh c : Nat} {q t w : Int32} (h : c < 21 ∨ c = 22 ∨ 34 < c) : ∀ (f op : Nat) (a : Int32) (σ : z_Sto), (∀ v τ, x_fi n e q t w sh f op a σ = .inl (v, τ) → τ c = σ c) ∧ (∀ v τ, x_fi n e q t w sh f op a σ = .inr (v, τ) → τ c = σ c)
  | 0, op, a, σ => ⟨fun v τ g => by (rw [x_fi] at g; cases g), fun v τ g => by (rw [x_fi] at g; cases g; rfl)⟩
  | f + 1, op, a, σ => by
    have ih := x_fi_fr (n := n) (e := e) (sh := sh) (q := q) (t := t) (w := w) h f (op + 250) (x_fk n e q t sh op σ 24 11) (x_fk n e q t sh op σ)
    rw [x_fk_fr h] at ih
    rw [x_fi]
    split
    · exact ⟨fun v τ g => (by cases g), fun v τ g => (by cases g; rfl)⟩
    · split
      · exact ⟨fun v τ g => (by cases g; exact x_go_fr (by unfold x_away; omega) (by omega)), fun v τ g => (by cases g)⟩
      · exact ih
theorem x_fo_fr {n e c : Nat} {q t w : Int32} (h : c < 21 ∨ c = 22 ∨ 34 < c) : ∀ (f sh : Nat) (a : Int32) (σ : z_Sto), (x_fo n e q t w f sh a σ).2 c = σ c
  | 0, sh, a, σ => by rw [x_fo]
  | f + 1, sh, a, σ => by
    have hi := x_fi_fr (n := n) (e := e) (sh := sh) (q := q) (t := t) (w := w) h (sh / 250) 250 a σ
    rw [x_fo]
    split
    · rfl
    · split
      · rename_i r g
        exact hi.1 r.1 r.2 g
      · rename_i p g
        rw [x_fo_fr h f]
        exact hi.2 p.1 p.2 g
theorem x_fm_fr {n e c : Nat} {q t : Int32} {σ : z_Sto} (h : c < 21 ∨ c = 22 ∨ 34 < c) : (x_fm n e q t σ).2 c = σ c := by
  rw [x_fm, x_fo_fr h, z_up_ne _ _ _ (by omega)]
