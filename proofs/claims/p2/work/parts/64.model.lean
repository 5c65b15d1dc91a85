/-! the reference: fading in numbers; its calls, first half -/
def fadeN (a b h : Nat) : Nat := a / 2 ^ (b / h) - a / 2 ^ (b / h) * (b % h) / (2 * h)
theorem m_fv_n : ∀ (k v : Nat), v < 2 ^ 31 → m_fv k (nI v) = nI (v / 2 ^ k)
  | 0, v, _ => by rw [m_fv, Nat.pow_zero, Nat.div_one]
  | k + 1, v, hv => by
    rw [m_fv]
    split
    · rename_i g
      have : v = 0 := by
        rcases Nat.eq_zero_or_pos v with q | q
        · exact q
        · exact absurd g (nI_nle q hv)
      subst this
      simp
    · rw [pk_div hv (by decide) (by decide), m_fv_n k (v / 2) (by omega), Nat.div_div_eq_div_mul, Nat.pow_succ, Nat.mul_comm 2]
theorem fade_part {v r h : Nat} (h1 : 1 ≤ h) (hr : r < h) : v * r / (2 * h) ≤ v := by
  apply Nat.div_le_of_le_mul
  rw [Nat.mul_comm (2 * h) v]
  exact Nat.mul_le_mul (Nat.le_refl v) (by omega)
theorem m_fade_n {a b h : Nat} (ha : a ≤ 100000) (hb : b < 2 ^ 31) (h1 : 1 ≤ h) (h2 : h ≤ 500) : m_fade (nI a) (nI b) (nI h) = nI (fadeN a b h) := by
  have hd : b / h ≤ b := Nat.div_le_self b h
  have hm : b % h < h := Nat.mod_lt b (by omega)
  have hv : a / 2 ^ (b / h) ≤ a := Nat.div_le_self _ _
  rw [m_fade, pk_div hb (by omega) (by omega), z_cl (by omega), m_fv_n _ _ (by omega), m_fend]
  unfold fadeN
  generalize a / 2 ^ (b / h) = v at hv ⊢
  have hvm : v * (b % h) ≤ 100000 * 500 := Nat.mul_le_mul (by omega) (by omega)
  rw [pk_rem hb (by omega) (by omega), pk_mul, pk_mul, pk_div (by omega) (by omega) (by omega), pk_sub (fade_part h1 hm)]
theorem fadeN_le {a b h : Nat} : fadeN a b h ≤ a := by
  unfold fadeN
  exact Nat.le_trans (Nat.sub_le _ _) (Nat.div_le_self _ _)
theorem fadeN_0 {a b h : Nat} (ha : a ≤ 100000) (h1 : 1 ≤ h) (hb : 17 * h ≤ b) : fadeN a b h = 0 := by
  have h17 : 17 ≤ b / h := (Nat.le_div_iff_mul_le (by omega)).mpr hb
  have hp : 2 ^ 17 ≤ 2 ^ (b / h) := Nat.pow_le_pow_right (by decide) h17
  have h0 : a / 2 ^ (b / h) = 0 := Nat.div_eq_of_lt (by omega)
  unfold fadeN
  rw [h0]
  simp
def m_num (μ : z_Sto) (t : Nat) : Prop := t ≤ 2000 ∧ μ 5 0 = nI t ∧ (∀ b, b < 16 → ∃ p s, p ≤ 100000 ∧ s ≤ t ∧ μ 8 b = nI p ∧ μ 9 b = nI s) ∧ (∃ o, 1 ≤ o ∧ o ≤ 20000 ∧ μ 1 5 = nI o) ∧ (∃ c, 1 ≤ c ∧ c ≤ 100000 ∧ μ 1 6 = nI c) ∧ (∀ k, k < 3 → ∃ v, v ≤ 10000 ∧ μ 1 k = nI v)
set_option maxRecDepth 20000 in
theorem m_lol {μ : z_Sto} {h d o c : Nat} (hh : μ 1 3 = nI h) (h1 : 1 ≤ h) (h2 : h ≤ 500) (ho : μ 1 5 = nI o) (ho1 : 1 ≤ o) (ho2 : o ≤ 20000) (hc : μ 1 6 = nI c) (hc2 : c ≤ 100000) (hd : d ≤ 17 * h) : z_R layM iX7_longest 2 [some (.ref 0), some (.int (nI d))] [] μ (fun r μ' => x_some r ∧ μ' = μ) := by
  generalize hf : 17 * h - d = f
  induction f using Nat.strongRecOn generalizing d
  rename_i f ih
  refine z_aload_n (pc := 2) dX7_longest_2 rfl ?_
  refine z_aload_n (pc := 3) dX7_longest_3 rfl ?_
  refine z_getA (pc := 4) f_X7_7 dX7_longest_4 (by decide) rfl rfl ?_
  refine z_bipush (pc := 7) (v := (nI 6)) dX7_longest_7 (by decide) ?_
  refine z_ialdN (pc := 9) dX7_longest_9 (by decide) rfl (by decide) (by decide) ?_
  rw [hc]
  refine z_iload_n (pc := 10) dX7_longest_10 rfl ?_
  refine z_cV2 (pc := 11) mX7_fades l_X7_112 (by decide) dX7_longest_11 (by decide) rfl rfl (by decide) (Nat.le_of_ble_eq_true rfl) (m_fades hh h1 h2) rfl (fun r11 σ11 hr11 => ?_)
  obtain ⟨rfl, rfl⟩ := hr11
  rw [m_fade_n hc2 (by omega) h1 h2]
  refine z_aload_n (pc := 14) dX7_longest_14 rfl ?_
  refine z_getA (pc := 15) f_X7_7 dX7_longest_15 (by decide) rfl rfl ?_
  refine z_iconst (pc := 18) (v := (nI 5)) dX7_longest_18 (by decide) ?_
  refine z_ialdN (pc := 19) dX7_longest_19 (by decide) rfl (by decide) (by decide) ?_
  rw [ho]
  refine z_icmp_lt (pc := 20) (tgt := 29) dX7_longest_20 (by decide) (fun h20 => ?_) (fun h20 => ?_)
  · refine z_iload_n (pc := 29) dX7_longest_29 rfl ?_
    exact z_ireturn (pc := 30) dX7_longest_30 rfl rfl (⟨⟨_, rfl⟩, rfl⟩)
  · have q20 : d < 17 * h := by (rcases Nat.lt_or_ge d (17 * h) with g | g; exact g; exact absurd ((nI_ltI (by rw [fadeN_0 hc2 h1 g]; decide) (by omega)).mpr (by rw [fadeN_0 hc2 h1 g]; omega)) h20)
    refine z_iincN (pc := 23) dX7_longest_23 rfl (by decide) rfl rfl ?_
    refine z_goto (pc := 26) (tgt := 2) dX7_longest_26 (by decide) ?_
    exact ih _ (by omega) (d := d + 1) (by omega) rfl
set_option maxRecDepth 20000 in
theorem m_longest {μ : z_Sto} {n e h t : Nat} (H : m_ok μ n e h) (N : m_num μ t) : z_R layM iX7_longest 0 [some (.ref 0), none] [] μ (fun r μ' => x_some r ∧ μ' = μ) := by
  obtain ⟨o, ho1, ho2, ho⟩ := N.2.2.2.1
  obtain ⟨c, hc1, hc2, hc⟩ := N.2.2.2.2.1
  refine z_iconst (pc := 0) (v := (nI 0)) dX7_longest_0 (by decide) ?_
  refine z_istore_n (pc := 1) dX7_longest_1 (by decide) rfl rfl ?_
  exact m_lol (d := 0) H.2.2.2.2.2.2.1 H.2.2.2.2.2.2.2.1 H.2.2.2.2.2.2.2.2.1 ho ho1 ho2 hc hc2 (by omega)
set_option maxRecDepth 20000 in
theorem m_opl {μ : z_Sto} {h d o b p s t l : Nat} (hb : b < 16) (hh : μ 1 3 = nI h) (h1 : 1 ≤ h) (h2 : h ≤ 500) (ho : μ 1 5 = nI o) (ho1 : 1 ≤ o) (ho2 : o ≤ 20000) (hp : μ 8 b = nI p) (hp2 : p ≤ 100000) (hs : μ 9 b = nI s) (hst : s ≤ t) (ht : t ≤ 2000) (h5 : μ 5 0 = nI t) (hd : d ≤ 17 * h + 1) : z_R layM iX7_opensIn 20 [some (.ref 0), some (.int (nI l)), some (.int (nI b)), some (.int (nI d))] [] μ (fun r μ' => x_some r ∧ μ' = μ) := by
  generalize hf : 17 * h + 1 - d = f
  induction f using Nat.strongRecOn generalizing d
  rename_i f ih
  refine z_aload_n (pc := 20) dX7_opensIn_20 rfl ?_
  refine z_aload_n (pc := 21) dX7_opensIn_21 rfl ?_
  refine z_getA (pc := 22) f_X7_31 dX7_opensIn_22 (by decide) rfl rfl ?_
  refine z_iload_n (pc := 25) dX7_opensIn_25 rfl ?_
  refine z_ialdN (pc := 26) dX7_opensIn_26 (by decide) rfl (by decide) (by omega) ?_
  rw [hp]
  refine z_aload_n (pc := 27) dX7_opensIn_27 rfl ?_
  refine z_getA (pc := 28) f_X7_22 dX7_opensIn_28 (by decide) rfl rfl ?_
  refine z_iconst (pc := 31) (v := (nI 0)) dX7_opensIn_31 (by decide) ?_
  refine z_ialdN (pc := 32) dX7_opensIn_32 (by decide) rfl (by decide) (by decide) ?_
  rw [h5]
  refine z_aload_n (pc := 33) dX7_opensIn_33 rfl ?_
  refine z_getA (pc := 34) f_X7_34 dX7_opensIn_34 (by decide) rfl rfl ?_
  refine z_iload_n (pc := 37) dX7_opensIn_37 rfl ?_
  refine z_ialdN (pc := 38) dX7_opensIn_38 (by decide) rfl (by decide) (by omega) ?_
  rw [hs]
  refine z_isub (pc := 39) dX7_opensIn_39 ?_
  rw [pk_sub hst]
  refine z_iload_n (pc := 40) dX7_opensIn_40 rfl ?_
  refine z_iaddN (pc := 41) dX7_opensIn_41 ?_
  refine z_cV2 (pc := 42) mX7_fades l_X7_112 (by decide) dX7_opensIn_42 (by decide) rfl rfl (by decide) (Nat.le_of_ble_eq_true rfl) (m_fades hh h1 h2) rfl (fun r42 σ42 hr42 => ?_)
  obtain ⟨rfl, rfl⟩ := hr42
  rw [m_fade_n hp2 (by omega) h1 h2]
  refine z_aload_n (pc := 45) dX7_opensIn_45 rfl ?_
  refine z_getA (pc := 46) f_X7_7 dX7_opensIn_46 (by decide) rfl rfl ?_
  refine z_iconst (pc := 49) (v := (nI 5)) dX7_opensIn_49 (by decide) ?_
  refine z_ialdN (pc := 50) dX7_opensIn_50 (by decide) rfl (by decide) (by decide) ?_
  rw [ho]
  refine z_icmp_lt (pc := 51) (tgt := 60) dX7_opensIn_51 (by decide) (fun h51 => ?_) (fun h51 => ?_)
  · refine z_iload_n (pc := 60) dX7_opensIn_60 rfl ?_
    exact z_ireturn (pc := 61) dX7_opensIn_61 rfl rfl (⟨⟨_, rfl⟩, rfl⟩)
  · have q51 : d < 17 * h + 1 := by (rcases Nat.lt_or_ge d (17 * h + 1) with g | g; exact g; exact absurd ((nI_ltI (by rw [fadeN_0 hp2 h1 (by omega)]; decide) (by omega)).mpr (by rw [fadeN_0 hp2 h1 (by omega)]; omega)) h51)
    refine z_iincN (pc := 54) dX7_opensIn_54 rfl (by decide) rfl rfl ?_
    refine z_goto (pc := 57) (tgt := 20) dX7_opensIn_57 (by decide) ?_
    exact ih _ (by omega) (d := d + 1) (by omega) rfl
set_option maxRecDepth 20000 in
theorem m_opensIn {μ : z_Sto} {n e h t l : Nat} (H : m_ok μ n e h) (N : m_num μ t) (hl : l < n) : z_R layM iX7_opensIn 0 [some (.ref 0), some (.int (nI l)), none, none] [] μ (fun r μ' => x_some r ∧ μ' = μ) := by
  have h12 := H.2.1
  have hbl := m_b_lt (H.2.2.2.2.1 l hl) (by omega)
  obtain ⟨o, ho1, ho2, ho⟩ := N.2.2.2.1
  obtain ⟨p, s, hp2, hst, hp, hs⟩ := N.2.2.1 _ hbl
  refine z_aload_n (pc := 0) dX7_opensIn_0 rfl ?_
  refine z_iconst (pc := 1) (v := (nI 0)) dX7_opensIn_1 (by decide) ?_
  refine z_iload_n (pc := 2) dX7_opensIn_2 rfl ?_
  refine z_cV2 (pc := 3) mX7_bearer l_X7_108 (by decide) dX7_opensIn_3 (by decide) rfl rfl (by decide) (Nat.le_of_ble_eq_true rfl) (m_bearer (by omega) (H.2.2.2.2.1 l hl)) rfl (fun r3 σ3 hr3 => ?_)
  obtain ⟨rfl, rfl⟩ := hr3
  rw [show 16 * 0 + m_b σ3 l = m_b σ3 l by omega]
  refine z_istore_n (pc := 6) dX7_opensIn_6 (by decide) rfl rfl ?_
  refine z_aload_n (pc := 7) dX7_opensIn_7 rfl ?_
  refine z_getA (pc := 8) f_X7_37 dX7_opensIn_8 (by decide) rfl rfl ?_
  refine z_iload_n (pc := 11) dX7_opensIn_11 rfl ?_
  refine z_zaldN (pc := 12) dX7_opensIn_12 (by decide) rfl (by decide) (by omega) ?_
  refine z_if_ne (pc := 13) (tgt := 18) dX7_opensIn_13 (by decide) (fun h13 => ?_) (fun h13 => ?_)
  · refine z_iconst (pc := 18) (v := (nI 1)) dX7_opensIn_18 (by decide) ?_
    refine z_istore_n (pc := 19) dX7_opensIn_19 (by decide) rfl rfl ?_
    exact m_opl (d := 1) hbl H.2.2.2.2.2.2.1 H.2.2.2.2.2.2.2.1 H.2.2.2.2.2.2.2.2.1 ho ho1 ho2 hp hp2 hs hst N.1 N.2.1 (by omega)
  · refine z_iconst (pc := 16) (v := (nI 0)) dX7_opensIn_16 (by decide) ?_
    exact z_ireturn (pc := 17) dX7_opensIn_17 rfl rfl (⟨⟨_, rfl⟩, rfl⟩)
set_option maxRecDepth 20000 in
theorem m_aboutOf {μ : z_Sto} {n e h t l : Nat} {y : Int32} (H : m_ok μ n e h) (N : m_num μ t) (hl : l < n) : z_R layM iX7_aboutOf 0 [some (.ref 0), some (.int (nI l)), some (.int y)] [] μ (fun r μ' => x_some r ∧ μ' = μ) := by
  have h12 := H.2.1
  have hbl := m_b_lt (H.2.2.2.2.1 l hl) (by omega)
  refine z_iload_n (pc := 0) dX7_aboutOf_0 rfl ?_
  rcases z_sw y 8 (by decide) with ⟨kk1, hkk1, rfl⟩ | hout1
  · rcases (show kk1 = 0 ∨ kk1 = 1 ∨ kk1 = 2 ∨ kk1 = 3 ∨ kk1 = 4 ∨ kk1 = 5 ∨ kk1 = 6 ∨ kk1 = 7 by omega) with rfl | rfl | rfl | rfl | rfl | rfl | rfl | rfl
    · refine z_tabIn (pc := 1) (tgt := 48) (off := 47) dX7_aboutOf_1 (by decide) (by decide) (by decide) (by decide) ?_
      refine z_aload_n (pc := 48) dX7_aboutOf_48 rfl ?_
      refine z_iconst (pc := 49) (v := (nI 0)) dX7_aboutOf_49 (by decide) ?_
      refine z_iload_n (pc := 50) dX7_aboutOf_50 rfl ?_
      refine z_cV2 (pc := 51) mX7_penaltyNow l_X7_140 (by decide) dX7_aboutOf_51 (by decide) rfl rfl (by decide) (Nat.le_of_ble_eq_true rfl) (m_penaltyNow (by decide) (by omega) (H.2.2.2.2.1 l hl) H.2.2.2.2.2.2.1 H.2.2.2.2.2.2.2.1 H.2.2.2.2.2.2.2.2.1) rfl (fun r51 σ51 hr51 => ?_)
      obtain ⟨rfl, rfl⟩ := hr51
      exact z_ireturn (pc := 54) dX7_aboutOf_54 rfl rfl (⟨⟨_, rfl⟩, rfl⟩)
    · refine z_tabIn (pc := 1) (tgt := 55) (off := 54) dX7_aboutOf_1 (by decide) (by decide) (by decide) (by decide) ?_
      refine z_aload_n (pc := 55) dX7_aboutOf_55 rfl ?_
      refine z_getA (pc := 56) f_X7_41 dX7_aboutOf_56 (by decide) rfl rfl ?_
      refine z_iload_n (pc := 59) dX7_aboutOf_59 rfl ?_
      refine z_zaldN (pc := 60) dX7_aboutOf_60 (by decide) rfl (by decide) (by omega) ?_
      refine z_if_eq (pc := 61) (tgt := 68) dX7_aboutOf_61 (by decide) (fun h61 => ?_) (fun h61 => ?_)
      · refine z_iconst (pc := 68) (v := (nI 0)) dX7_aboutOf_68 (by decide) ?_
        exact z_ireturn (pc := 69) dX7_aboutOf_69 rfl rfl (⟨⟨_, rfl⟩, rfl⟩)
      · refine z_iconst (pc := 64) (v := (nI 1)) dX7_aboutOf_64 (by decide) ?_
        refine z_goto (pc := 65) (tgt := 69) dX7_aboutOf_65 (by decide) ?_
        exact z_ireturn (pc := 69) dX7_aboutOf_69 rfl rfl (⟨⟨_, rfl⟩, rfl⟩)
    · refine z_tabIn (pc := 1) (tgt := 70) (off := 69) dX7_aboutOf_1 (by decide) (by decide) (by decide) (by decide) ?_
      refine z_aload_n (pc := 70) dX7_aboutOf_70 rfl ?_
      refine z_getA (pc := 71) f_X7_37 dX7_aboutOf_71 (by decide) rfl rfl ?_
      refine z_aload_n (pc := 74) dX7_aboutOf_74 rfl ?_
      refine z_iconst (pc := 75) (v := (nI 0)) dX7_aboutOf_75 (by decide) ?_
      refine z_iload_n (pc := 76) dX7_aboutOf_76 rfl ?_
      refine z_cV2 (pc := 77) mX7_bearer l_X7_108 (by decide) dX7_aboutOf_77 (by decide) rfl rfl (by decide) (Nat.le_of_ble_eq_true rfl) (m_bearer (by omega) (H.2.2.2.2.1 l hl)) rfl (fun r77 σ77 hr77 => ?_)
      obtain ⟨rfl, rfl⟩ := hr77
      refine z_zaldN (pc := 80) dX7_aboutOf_80 (by decide) rfl (by decide) (by omega) ?_
      refine z_if_eq (pc := 81) (tgt := 88) dX7_aboutOf_81 (by decide) (fun h81 => ?_) (fun h81 => ?_)
      · refine z_iconst (pc := 88) (v := (nI 0)) dX7_aboutOf_88 (by decide) ?_
        exact z_ireturn (pc := 89) dX7_aboutOf_89 rfl rfl (⟨⟨_, rfl⟩, rfl⟩)
      · refine z_iconst (pc := 84) (v := (nI 1)) dX7_aboutOf_84 (by decide) ?_
        refine z_goto (pc := 85) (tgt := 89) dX7_aboutOf_85 (by decide) ?_
        exact z_ireturn (pc := 89) dX7_aboutOf_89 rfl rfl (⟨⟨_, rfl⟩, rfl⟩)
    · refine z_tabIn (pc := 1) (tgt := 90) (off := 89) dX7_aboutOf_1 (by decide) (by decide) (by decide) (by decide) ?_
      refine z_aload_n (pc := 90) dX7_aboutOf_90 rfl ?_
      refine z_iconst (pc := 91) (v := (nI 0)) dX7_aboutOf_91 (by decide) ?_
      refine z_iload_n (pc := 92) dX7_aboutOf_92 rfl ?_
      refine z_cV2 (pc := 93) mX7_isSeen l_X7_119 (by decide) dX7_aboutOf_93 (by decide) rfl rfl (by decide) (Nat.le_of_ble_eq_true rfl) (m_isSeen (by decide) (by omega) (H.2.2.2.2.1 l hl)) rfl (fun r93 σ93 hr93 => ?_)
      obtain ⟨rfl, rfl⟩ := hr93
      refine z_if_eq (pc := 96) (tgt := 103) dX7_aboutOf_96 (by decide) (fun h96 => ?_) (fun h96 => ?_)
      · refine z_iconst (pc := 103) (v := (nI 0)) dX7_aboutOf_103 (by decide) ?_
        exact z_ireturn (pc := 104) dX7_aboutOf_104 rfl rfl (⟨⟨_, rfl⟩, rfl⟩)
      · refine z_iconst (pc := 99) (v := (nI 1)) dX7_aboutOf_99 (by decide) ?_
        refine z_goto (pc := 100) (tgt := 104) dX7_aboutOf_100 (by decide) ?_
        exact z_ireturn (pc := 104) dX7_aboutOf_104 rfl rfl (⟨⟨_, rfl⟩, rfl⟩)
    · refine z_tabIn (pc := 1) (tgt := 105) (off := 104) dX7_aboutOf_1 (by decide) (by decide) (by decide) (by decide) ?_
      refine z_aload_n (pc := 105) dX7_aboutOf_105 rfl ?_
      refine z_getA (pc := 106) f_X7_47 dX7_aboutOf_106 (by decide) rfl rfl ?_
      refine z_iload_n (pc := 109) dX7_aboutOf_109 rfl ?_
      refine z_ialdN (pc := 110) dX7_aboutOf_110 (by decide) rfl (by decide) (by omega) ?_
      exact z_ireturn (pc := 111) dX7_aboutOf_111 rfl rfl (⟨⟨_, rfl⟩, rfl⟩)
    · refine z_tabIn (pc := 1) (tgt := 112) (off := 111) dX7_aboutOf_1 (by decide) (by decide) (by decide) (by decide) ?_
      refine z_aload_n (pc := 112) dX7_aboutOf_112 rfl ?_
      refine z_getA (pc := 113) f_X7_50 dX7_aboutOf_113 (by decide) rfl rfl ?_
      refine z_iload_n (pc := 116) dX7_aboutOf_116 rfl ?_
      refine z_ialdN (pc := 117) dX7_aboutOf_117 (by decide) rfl (by decide) (by omega) ?_
      exact z_ireturn (pc := 118) dX7_aboutOf_118 rfl rfl (⟨⟨_, rfl⟩, rfl⟩)
    · refine z_tabIn (pc := 1) (tgt := 119) (off := 118) dX7_aboutOf_1 (by decide) (by decide) (by decide) (by decide) ?_
      refine z_aload_n (pc := 119) dX7_aboutOf_119 rfl ?_
      refine z_getA (pc := 120) f_X7_13 dX7_aboutOf_120 (by decide) rfl rfl ?_
      refine z_iload_n (pc := 123) dX7_aboutOf_123 rfl ?_
      refine z_ialdN (pc := 124) dX7_aboutOf_124 (by decide) rfl (by decide) (by omega) ?_
      exact z_ireturn (pc := 125) dX7_aboutOf_125 rfl rfl (⟨⟨_, rfl⟩, rfl⟩)
    · refine z_tabIn (pc := 1) (tgt := 126) (off := 125) dX7_aboutOf_1 (by decide) (by decide) (by decide) (by decide) ?_
      refine z_aload_n (pc := 126) dX7_aboutOf_126 rfl ?_
      refine z_iload_n (pc := 127) dX7_aboutOf_127 rfl ?_
      refine z_cV1 (pc := 128) mX7_opensIn l_X7_164 (by decide) dX7_aboutOf_128 (by decide) rfl rfl (by decide) (Nat.le_of_ble_eq_true rfl) (m_opensIn H N hl) rfl (fun r128 σ128 hr128 => ?_)
      obtain ⟨⟨v128, rfl⟩, rfl⟩ := hr128
      exact z_ireturn (pc := 131) dX7_aboutOf_131 rfl rfl (⟨⟨_, rfl⟩, rfl⟩)
  · refine z_tabOut (pc := 1) (tgt := 132) dX7_aboutOf_1 (by omega) (by decide) ?_
    refine z_aload_n (pc := 132) dX7_aboutOf_132 rfl ?_
    refine z_getA (pc := 133) f_X7_19 dX7_aboutOf_133 (by decide) rfl rfl ?_
    refine z_iload_n (pc := 136) dX7_aboutOf_136 rfl ?_
    refine z_ialdN (pc := 137) dX7_aboutOf_137 (by decide) rfl (by decide) (by omega) ?_
    exact z_ireturn (pc := 138) dX7_aboutOf_138 rfl rfl (⟨⟨_, rfl⟩, rfl⟩)
set_option maxRecDepth 20000 in
theorem m_about {μ : z_Sto} {n e h t : Nat} {x y : Int32} (H : m_ok μ n e h) (N : m_num μ t) : z_R layM iX7_about 0 [some (.ref 0), some (.int x), some (.int y)] [] μ (fun r μ' => x_some r ∧ μ' = μ) := by
  refine z_aload_n (pc := 0) dX7_about_0 rfl ?_
  refine z_iload_n (pc := 1) dX7_about_1 rfl ?_
  refine z_cV1 (pc := 2) mX7_isLine l_X7_154 (by decide) dX7_about_2 (by decide) rfl rfl (by decide) (Nat.le_of_ble_eq_true rfl) (m_isLine H.1 H.2.1) rfl (fun r2 σ2 hr2 => ?_)
  obtain ⟨v2, rfl, g1, g2, rfl⟩ := hr2
  refine z_if_eq (pc := 5) (tgt := 27) dX7_about_5 (by decide) (fun h5 => ?_) (fun h5 => ?_)
  · refine z_bipush (pc := 27) (v := (-2)) dX7_about_27 (by decide) ?_
    exact z_ireturn (pc := 29) dX7_about_29 rfl rfl (⟨⟨_, rfl⟩, rfl⟩)
  · obtain ⟨l, hl, rfl⟩ := g1 h5
    refine z_iload_n (pc := 8) dX7_about_8 rfl ?_
    refine z_iconst (pc := 9) (v := (nI 0)) dX7_about_9 (by decide) ?_
    refine z_bipush (pc := 10) (v := (nI 8)) dX7_about_10 (by decide) ?_
    refine z_cS3 (pc := 12) mX7_in l_X7_124 (by decide) dX7_about_12 (by decide) (Nat.le_of_ble_eq_true rfl) (m_in) rfl (fun r12 σ12 hr12 => ?_)
    obtain ⟨v12, rfl, g3, g4, rfl⟩ := hr12
    refine z_if_eq (pc := 15) (tgt := 27) dX7_about_15 (by decide) (fun h15 => ?_) (fun h15 => ?_)
    · refine z_bipush (pc := 27) (v := (-2)) dX7_about_27 (by decide) ?_
      exact z_ireturn (pc := 29) dX7_about_29 rfl rfl (⟨⟨_, rfl⟩, rfl⟩)
    · refine z_aload_n (pc := 18) dX7_about_18 rfl ?_
      refine z_iload_n (pc := 19) dX7_about_19 rfl ?_
      refine z_iload_n (pc := 20) dX7_about_20 rfl ?_
      refine z_cV2 (pc := 21) mX7_aboutOf l_X7_167 (by decide) dX7_about_21 (by decide) rfl rfl (by decide) (Nat.le_of_ble_eq_true rfl) (m_aboutOf H N hl) rfl (fun r21 σ21 hr21 => ?_)
      obtain ⟨⟨v21, rfl⟩, rfl⟩ := hr21
      refine z_goto (pc := 24) (tgt := 29) dX7_about_24 (by decide) ?_
      exact z_ireturn (pc := 29) dX7_about_29 rfl rfl (⟨⟨_, rfl⟩, rfl⟩)
set_option maxRecDepth 20000 in
theorem m_event {μ : z_Sto} {n e h : Nat} {x y : Int32} (H : m_ok μ n e h) : z_R layM iX7_event 0 [some (.ref 0), some (.int x), some (.int y)] [] μ (fun r μ' => x_some r ∧ μ' = μ) := by
  have h3 := H.2.2.2.1
  refine z_iload_n (pc := 0) dX7_event_0 rfl ?_
  refine z_iconst (pc := 1) (v := (nI 0)) dX7_event_1 (by decide) ?_
  refine z_iconst (pc := 2) (v := (nI 2)) dX7_event_2 (by decide) ?_
  refine z_cS3 (pc := 3) mX7_in l_X7_124 (by decide) dX7_event_3 (by decide) (Nat.le_of_ble_eq_true rfl) (m_in) rfl (fun r3 σ3 hr3 => ?_)
  obtain ⟨v3, rfl, g1, g2, rfl⟩ := hr3
  refine z_if_ne (pc := 6) (tgt := 12) dX7_event_6 (by decide) (fun h6 => ?_) (fun h6 => ?_)
  · refine z_iload_n (pc := 12) dX7_event_12 rfl ?_
    refine z_iconst (pc := 13) (v := (nI 0)) dX7_event_13 (by decide) ?_
    refine z_aload_n (pc := 14) dX7_event_14 rfl ?_
    refine z_getI (pc := 15) f_X7_147 dX7_event_15 (by decide) rfl rfl ?_
    rw [H.2.2.1]
    refine z_iconst (pc := 18) (v := (nI 1)) dX7_event_18 (by decide) ?_
    refine z_isub (pc := 19) dX7_event_19 ?_
    refine z_cS3 (pc := 20) mX7_in l_X7_124 (by decide) dX7_event_20 (by decide) (Nat.le_of_ble_eq_true rfl) (m_in) rfl (fun r20 σ20 hr20 => ?_)
    obtain ⟨v20, rfl, g3, g4, rfl⟩ := hr20
    refine z_if_ne (pc := 23) (tgt := 30) dX7_event_23 (by decide) (fun h23 => ?_) (fun h23 => ?_)
    · obtain ⟨j, hj, rfl⟩ := (m_in_n (n := e) (by omega)).mp (g3 h23)
      refine z_iload_n (pc := 30) dX7_event_30 rfl ?_
      refine z_if_ne (pc := 31) (tgt := 43) dX7_event_31 (by decide) (fun h31 => ?_) (fun h31 => ?_)
      · refine z_iload_n (pc := 43) dX7_event_43 rfl ?_
        refine z_iconst (pc := 44) (v := (nI 1)) dX7_event_44 (by decide) ?_
        refine z_icmp_ne (pc := 45) (tgt := 57) dX7_event_45 (by decide) (fun h45 => ?_) (fun h45 => ?_)
        · refine z_aload_n (pc := 57) dX7_event_57 rfl ?_
          refine z_getA (pc := 58) f_X7_62 dX7_event_58 (by decide) rfl rfl ?_
          refine z_iload_n (pc := 61) dX7_event_61 rfl ?_
          refine z_ialdN (pc := 62) dX7_event_62 (by decide) rfl (by decide) (by omega) ?_
          exact z_ireturn (pc := 63) dX7_event_63 rfl rfl (⟨⟨_, rfl⟩, rfl⟩)
        · refine z_aload_n (pc := 48) dX7_event_48 rfl ?_
          refine z_getA (pc := 49) f_X7_59 dX7_event_49 (by decide) rfl rfl ?_
          refine z_iload_n (pc := 52) dX7_event_52 rfl ?_
          refine z_ialdN (pc := 53) dX7_event_53 (by decide) rfl (by decide) (by omega) ?_
          refine z_goto (pc := 54) (tgt := 63) dX7_event_54 (by decide) ?_
          exact z_ireturn (pc := 63) dX7_event_63 rfl rfl (⟨⟨_, rfl⟩, rfl⟩)
      · refine z_aload_n (pc := 34) dX7_event_34 rfl ?_
        refine z_getA (pc := 35) f_X7_56 dX7_event_35 (by decide) rfl rfl ?_
        refine z_iload_n (pc := 38) dX7_event_38 rfl ?_
        refine z_ialdN (pc := 39) dX7_event_39 (by decide) rfl (by decide) (by omega) ?_
        refine z_goto (pc := 40) (tgt := 63) dX7_event_40 (by decide) ?_
        exact z_ireturn (pc := 63) dX7_event_63 rfl rfl (⟨⟨_, rfl⟩, rfl⟩)
    · refine z_iconst (pc := 26) (v := (-1)) dX7_event_26 (by decide) ?_
      refine z_goto (pc := 27) (tgt := 63) dX7_event_27 (by decide) ?_
      exact z_ireturn (pc := 63) dX7_event_63 rfl rfl (⟨⟨_, rfl⟩, rfl⟩)
  · refine z_bipush (pc := 9) (v := (-2)) dX7_event_9 (by decide) ?_
    exact z_ireturn (pc := 11) dX7_event_11 rfl rfl (⟨⟨_, rfl⟩, rfl⟩)
set_option maxRecDepth 20000 in
theorem m_faded {μ : z_Sto} {n e h : Nat} {x y : Int32} (H : m_ok μ n e h) : z_R layM iX7_faded 0 [some (.ref 0), some (.int x), some (.int y)] [] μ (fun r μ' => x_some r ∧ μ' = μ) := by
  refine z_iload_n (pc := 0) dX7_faded_0 rfl ?_
  refine z_iconst (pc := 1) (v := (nI 0)) dX7_faded_1 (by decide) ?_
  refine z_ldc (pc := 2) k_X7_132 dX7_faded_2 ?_
  refine z_cS3 (pc := 4) mX7_in l_X7_124 (by decide) dX7_faded_4 (by decide) (Nat.le_of_ble_eq_true rfl) (m_in) rfl (fun r4 σ4 hr4 => ?_)
  obtain ⟨v4, rfl, g1, g2, rfl⟩ := hr4
  refine z_if_eq (pc := 7) (tgt := 29) dX7_faded_7 (by decide) (fun h7 => ?_) (fun h7 => ?_)
  · refine z_bipush (pc := 29) (v := (-2)) dX7_faded_29 (by decide) ?_
    exact z_ireturn (pc := 31) dX7_faded_31 rfl rfl (⟨⟨_, rfl⟩, rfl⟩)
  · refine z_iload_n (pc := 10) dX7_faded_10 rfl ?_
    refine z_iconst (pc := 11) (v := (nI 0)) dX7_faded_11 (by decide) ?_
    refine z_ldc (pc := 12) k_X7_132 dX7_faded_12 ?_
    refine z_cS3 (pc := 14) mX7_in l_X7_124 (by decide) dX7_faded_14 (by decide) (Nat.le_of_ble_eq_true rfl) (m_in) rfl (fun r14 σ14 hr14 => ?_)
    obtain ⟨v14, rfl, g3, g4, rfl⟩ := hr14
    refine z_if_eq (pc := 17) (tgt := 29) dX7_faded_17 (by decide) (fun h17 => ?_) (fun h17 => ?_)
    · refine z_bipush (pc := 29) (v := (-2)) dX7_faded_29 (by decide) ?_
      exact z_ireturn (pc := 31) dX7_faded_31 rfl rfl (⟨⟨_, rfl⟩, rfl⟩)
    · refine z_aload_n (pc := 20) dX7_faded_20 rfl ?_
      refine z_iload_n (pc := 21) dX7_faded_21 rfl ?_
      refine z_iload_n (pc := 22) dX7_faded_22 rfl ?_
      refine z_cV2 (pc := 23) mX7_fades l_X7_112 (by decide) dX7_faded_23 (by decide) rfl rfl (by decide) (Nat.le_of_ble_eq_true rfl) (m_fades H.2.2.2.2.2.2.1 H.2.2.2.2.2.2.2.1 H.2.2.2.2.2.2.2.2.1) rfl (fun r23 σ23 hr23 => ?_)
      obtain ⟨rfl, rfl⟩ := hr23
      refine z_goto (pc := 26) (tgt := 31) dX7_faded_26 (by decide) ?_
      exact z_ireturn (pc := 31) dX7_faded_31 rfl rfl (⟨⟨_, rfl⟩, rfl⟩)
