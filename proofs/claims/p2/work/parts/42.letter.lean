/-! Net: a letter comes -/
def y_tk (cut : Int32) (wy : Nat → Int32) (p : Nat) (l : List Nat) (u : (Nat → List Nat) × y_S) : (Nat → List Nat) × y_S := if u.1 p = l then u else (va_up u.1 p l, y_fo cut wy (va_up u.1 p l) (p / 5) u.2)
set_option maxRecDepth 20000 in
theorem c_X2_takeLetter {σ : z_Sto} {T : Nat → List Nat} {s : y_S} {tk p : Nat} {l : List Nat} (hw : x_way_ok σ) (hT : x_told_ok σ T) (hO : x_own_ok σ s.1) (hq : x_que σ s.2) (ht : σ 35 7 = nI tk) (htk : tk < s.2.2) (hpl : s.2.1 tk = (p, l)) : z_R layX iX2_takeLetter 0 [some (.ref 35), none, none, none, none] [] σ (fun r σ' => r = some (.int (if T p = l then -1 else σ 38 p)) ∧ x_told_ok σ' (y_tk (σ 35 10) (σ 36) p l (T, s)).1 ∧ x_own_ok σ' (y_tk (σ 35 10) (σ 36) p l (T, s)).2.1 ∧ x_que σ' (y_tk (σ 35 10) (σ 36) p l (T, s)).2.2 ∧ σ' 35 7 = nI (tk + 1) ∧ σ' 35 8 = σ 35 8 + nI 1 ∧ (∀ k, k < 5 → σ' 40 k = if ¬ T p = l ∧ k = p / 5 then σ 40 k + nI 1 else σ 40 k) ∧ (∀ c, c ≠ 35 → c ≠ 37 → c ≠ 39 → c ≠ 40 → c ≠ 41 → σ' c = σ c) ∧ (∀ k, k ≠ 6 → k ≠ 7 → k ≠ 8 → σ' 35 k = σ 35 k)) := by
  obtain ⟨hl1, hp, hl⟩ := hq.1 tk htk
  rw [hpl] at hl1 hp hl
  have hp : p < 25 := hp
  have hl : y_ok l := hl
  have hl1 : σ 41 tk = nI (y_code l * 25 + p) := hl1
  have hcb := y_code_b hl
  have h2k := hq.2.2
  have e1 : (y_code l * 25 + p) % 25 = p := by omega
  have e2 : (y_code l * 25 + p) / 25 = y_code l := by omega
  refine z_aload_n (pc := 0) dX2_takeLetter_0 rfl ?_
  refine z_cV0 (pc := 1) mX2_hasLetter l_X2_56 (by decide) dX2_takeLetter_1 (by decide) rfl rfl (by decide) (Nat.le_of_ble_eq_true rfl) (c_X2_hasLetter ht hq.2.1 hq.2.2 (by omega)) rfl (fun r1 σ1 hr1 => ?_)
  obtain ⟨rfl, rfl⟩ := hr1
  rw [if_pos htk]
  refine z_if_ne (pc := 4) (tgt := 9) dX2_takeLetter_4 (by decide) (fun h4 => ?_) (fun h4 => ?_)
  · refine z_aload_n (pc := 9) dX2_takeLetter_9 rfl ?_
    refine z_getA (pc := 10) f_X2_28 dX2_takeLetter_10 (by decide) rfl rfl ?_
    refine z_aload_n (pc := 13) dX2_takeLetter_13 rfl ?_
    refine z_getI (pc := 14) f_X2_35 dX2_takeLetter_14 (by decide) rfl rfl ?_
    rw [ht]
    refine z_ialdN (pc := 17) dX2_takeLetter_17 (by decide) rfl (by decide) (by omega) ?_
    rw [hl1]
    refine z_istore_n (pc := 18) dX2_takeLetter_18 (by decide) rfl rfl ?_
    refine z_aload_n (pc := 19) dX2_takeLetter_19 rfl ?_
    refine z_dup_a (pc := 20) dX2_takeLetter_20 ?_
    refine z_getI (pc := 21) f_X2_35 dX2_takeLetter_21 (by decide) rfl rfl ?_
    rw [ht]
    refine z_iconst (pc := 24) (v := (nI 1)) dX2_takeLetter_24 (by decide) ?_
    refine z_iaddN (pc := 25) dX2_takeLetter_25 ?_
    refine z_putI (pc := 26) f_X2_35 tyX2_ok nmX2 (by decide) rfl rfl rfl dX2_takeLetter_26 (by decide) rfl rfl ?_
    refine z_aload_n (pc := 29) dX2_takeLetter_29 rfl ?_
    refine z_dup_a (pc := 30) dX2_takeLetter_30 ?_
    refine z_getI (pc := 31) f_X2_38 dX2_takeLetter_31 (by decide) rfl rfl ?_
    simp only [z_up_at, reduceIte, Nat.reduceEqDiff]
    refine z_iconst (pc := 34) (v := (nI 1)) dX2_takeLetter_34 (by decide) ?_
    refine z_iadd (pc := 35) dX2_takeLetter_35 ?_
    refine z_putI (pc := 36) f_X2_38 tyX2_ok nmX2 (by decide) rfl rfl rfl dX2_takeLetter_36 (by decide) rfl rfl ?_
    refine z_iload_n (pc := 39) dX2_takeLetter_39 rfl ?_
    refine z_bipush (pc := 40) (v := (nI 25)) dX2_takeLetter_40 (by decide) ?_
    refine z_irem (pc := 42) dX2_takeLetter_42 (by decide) ?_
    rw [pk_rem (by omega) (by decide) (by decide), e1]
    refine z_istore_n (pc := 43) dX2_takeLetter_43 (by decide) rfl rfl ?_
    refine z_iload_n (pc := 44) dX2_takeLetter_44 rfl ?_
    refine z_bipush (pc := 45) (v := (nI 25)) dX2_takeLetter_45 (by decide) ?_
    refine z_idiv (pc := 47) dX2_takeLetter_47 (by decide) ?_
    rw [pk_div (by omega) (by decide) (by decide), e2]
    refine z_istore_n (pc := 48) dX2_takeLetter_48 (by decide) rfl rfl ?_
    refine z_aload_n (pc := 49) dX2_takeLetter_49 rfl ?_
    refine z_getA (pc := 50) f_X2_15 dX2_takeLetter_50 (by decide) rfl rfl ?_
    refine z_iload_n (pc := 53) dX2_takeLetter_53 rfl ?_
    refine z_ialdN (pc := 54) dX2_takeLetter_54 (by decide) rfl (by decide) (hp) ?_
    simp only [z_up_at, reduceIte, Nat.reduceEqDiff]
    rw [hT.2 p hp]
    refine z_iload_n (pc := 55) dX2_takeLetter_55 rfl ?_
    refine z_icmp_ne (pc := 56) (tgt := 61) dX2_takeLetter_56 (by decide) (fun h56 => ?_) (fun h56 => ?_)
    · have q56 : ¬ T p = l := fun g => h56 ((y_code_ne (hT.1 p hp) hl).mpr g)
      refine z_iload_n (pc := 61) dX2_takeLetter_61 rfl ?_
      refine z_iconst (pc := 62) (v := (nI 5)) dX2_takeLetter_62 (by decide) ?_
      refine z_idiv (pc := 63) dX2_takeLetter_63 (by decide) ?_
      rw [pk_div (by omega) (by decide) (by decide)]
      refine z_istore (pc := 64) dX2_takeLetter_64 (by decide) rfl rfl ?_
      refine z_aload_n (pc := 66) dX2_takeLetter_66 rfl ?_
      refine z_getA (pc := 67) f_X2_15 dX2_takeLetter_67 (by decide) rfl rfl ?_
      refine z_iload_n (pc := 70) dX2_takeLetter_70 rfl ?_
      refine z_iload_n (pc := 71) dX2_takeLetter_71 rfl ?_
      refine z_iastN (pc := 72) dX2_takeLetter_72 (by decide) rfl (by decide) (hp) ?_
      refine z_aload_n (pc := 73) dX2_takeLetter_73 rfl ?_
      refine z_getA (pc := 74) f_X2_25 dX2_takeLetter_74 (by decide) rfl rfl ?_
      refine z_iload (pc := 77) dX2_takeLetter_77 rfl ?_
      refine z_dup2 (pc := 79) dX2_takeLetter_79 ?_
      refine z_ialdN (pc := 80) dX2_takeLetter_80 (by decide) rfl (by decide) (by omega) ?_
      simp only [z_up_at, reduceIte, Nat.reduceEqDiff]
      refine z_iconst (pc := 81) (v := (nI 1)) dX2_takeLetter_81 (by decide) ?_
      refine z_iadd (pc := 82) dX2_takeLetter_82 ?_
      refine z_iastN (pc := 83) dX2_takeLetter_83 (by decide) rfl (by decide) (by omega) ?_
      refine z_aload_n (pc := 84) dX2_takeLetter_84 rfl ?_
      refine z_iload (pc := 85) dX2_takeLetter_85 rfl ?_
      have a36 : ∀ τ : z_Sto, (∀ c, c ≠ 35 → c ≠ 37 → c ≠ 40 → τ c = σ1 c) → τ 36 = σ1 36 := fun τ h => h 36 (by decide) (by decide) (by decide)
      refine z_cV1 (pc := 87) mX2_findOwn l_X2_52 (by decide) dX2_takeLetter_87 (by decide) rfl rfl (by decide) (Nat.le_of_ble_eq_true rfl) (c_X2_findOwn (T := va_up T p l) (s := s) (h := p / 5) (fun k hk => by rw [z_up_ne _ _ _ (by decide), z_up_ne _ _ _ (by decide), z_up_ne _ _ _ (by decide), z_up_ne _ _ _ (by decide)]; exact hw k hk) ⟨fun k hk => by by_cases e : k = p; subst e; simp only [va_up, if_true]; exact hl; simp only [va_up, if_neg e]; exact hT.1 k hk, fun k hk => by rw [z_up_ne _ _ _ (by decide), z_up_same]; by_cases e : k = p; subst e; rw [z_upd_s]; simp only [va_up, if_true]; rw [z_upd_n e, z_up_ne _ _ _ (by decide), z_up_ne _ _ _ (by decide)]; simp only [va_up, if_neg e]; exact hT.2 k hk⟩ (fun k hk => by rw [z_up_ne _ _ _ (by decide), z_up_ne _ _ _ (by decide), z_up_ne _ _ _ (by decide), z_up_ne _ _ _ (by decide)]; exact hO k hk) ⟨fun j hj => by rw [z_up_ne _ _ _ (by decide), z_up_ne _ _ _ (by decide), z_up_ne _ _ _ (by decide), z_up_ne _ _ _ (by decide)]; exact hq.1 j hj, by simp [z_up_at, hq.2.1], hq.2.2⟩ (by omega)) rfl (fun r87 σ87 hr87 => ?_)
      obtain ⟨rfl, ⟨g1, g2⟩, g3, g4⟩ := hr87
      rw [show (z_up (z_up (z_up (z_up σ1 35 7 (nI (tk + 1))) 35 8 (σ1 35 8 + nI 1)) 37 p (nI (y_code l))) 40 (p / 5) (σ1 40 (p / 5) + nI 1)) 35 10 = σ1 35 10 by simp [z_up_at]] at g1 g2
      rw [show (z_up (z_up (z_up (z_up σ1 35 7 (nI (tk + 1))) 35 8 (σ1 35 8 + nI 1)) 37 p (nI (y_code l))) 40 (p / 5) (σ1 40 (p / 5) + nI 1)) 36 = σ1 36 by rw [z_up_ne _ _ _ (by decide), z_up_ne _ _ _ (by decide), z_up_ne _ _ _ (by decide), z_up_ne _ _ _ (by decide)]] at g1 g2
      refine z_aload_n (pc := 90) dX2_takeLetter_90 rfl ?_
      refine z_getA (pc := 91) f_X2_19 dX2_takeLetter_91 (by decide) rfl rfl ?_
      refine z_iload_n (pc := 94) dX2_takeLetter_94 rfl ?_
      refine z_ialdN (pc := 95) dX2_takeLetter_95 (by decide) rfl (by decide) (hp) ?_
      exact z_ireturn (pc := 96) dX2_takeLetter_96 rfl rfl (⟨by rw [if_neg q56, g3 38 (by decide) (by decide) (by decide), z_up_ne _ _ _ (by decide), z_up_ne _ _ _ (by decide), z_up_ne _ _ _ (by decide), z_up_ne _ _ _ (by decide)], by rw [y_tk, if_neg q56]; exact ⟨fun k hk => by by_cases e : k = p; subst e; simp only [va_up, if_true]; exact hl; simp only [va_up, if_neg e]; exact hT.1 k hk, fun k hk => by rw [g3 37 (by decide) (by decide) (by decide), z_up_ne _ _ _ (by decide), z_up_same]; by_cases e : k = p; subst e; rw [z_upd_s]; simp only [va_up, if_true]; rw [z_upd_n e, z_up_ne _ _ _ (by decide), z_up_ne _ _ _ (by decide)]; simp only [va_up, if_neg e]; exact hT.2 k hk⟩, by rw [y_tk, if_neg q56]; exact g1, by rw [y_tk, if_neg q56]; exact g2, by rw [g4 7 (by decide)]; simp [z_up_at], by rw [g4 8 (by decide)]; simp [z_up_at], fun k hk => by rw [g3 40 (by decide) (by decide) (by decide), z_up_same]; by_cases e : k = p / 5; rw [e, z_upd_s, if_pos ⟨q56, rfl⟩]; rw [z_upd_n e, if_neg (fun g => e g.2), z_up_ne _ _ _ (by decide), z_up_ne _ _ _ (by decide), z_up_ne _ _ _ (by decide)], fun c a1 a2 a3 a4 a5 => by rw [g3 c a5 a1 a3, z_up_ne _ _ _ a4, z_up_ne _ _ _ a2, z_up_ne _ _ _ a1, z_up_ne _ _ _ a1], fun k a1 a2 a3 => by rw [g4 k a1]; simp [z_up_at, a2, a3]⟩)
    · have q56 : T p = l := (y_code_ne (hT.1 p hp) hl).mp h56
      refine z_iconst (pc := 59) (v := (-1)) dX2_takeLetter_59 (by decide) ?_
      exact z_ireturn (pc := 60) dX2_takeLetter_60 rfl rfl (⟨by rw [if_pos q56], by rw [y_tk, if_pos q56]; exact ⟨hT.1, fun k hk => by rw [z_up_ne _ _ _ (by decide), z_up_ne _ _ _ (by decide)]; exact hT.2 k hk⟩, by rw [y_tk, if_pos q56]; exact fun k hk => by rw [z_up_ne _ _ _ (by decide), z_up_ne _ _ _ (by decide)]; exact hO k hk, by rw [y_tk, if_pos q56]; exact ⟨fun j hj => by rw [z_up_ne _ _ _ (by decide), z_up_ne _ _ _ (by decide)]; exact hq.1 j hj, by simp [z_up_at, hq.2.1], hq.2.2⟩, by simp [z_up_at], by simp [z_up_at], fun k _ => by rw [if_neg (fun g => g.1 q56), z_up_ne _ _ _ (by decide), z_up_ne _ _ _ (by decide)], fun c a1 _ _ _ _ => by rw [z_up_ne _ _ _ a1, z_up_ne _ _ _ a1], fun k a1 a2 a3 => by simp [z_up_at, a2, a3]⟩)
  · exact absurd h4 (by decide)
