/-! the reference: its small methods -/
theorem z_iincM {lay : z_Lay} {mi : z_MI} {pc : Nat} {L L' : z_Loc} {st : List Value} {σ : z_Sto} {Φ : z_Post} {i x : Nat} (hd : decode mi.2.1 pc = .ok (.iinc i (-1), 3)) (hx : L[i]? = some (some (.int (nI (x + 1))))) (hn : i < mi.2.2.1) (h2 : z_ok1 L i = true) (hL' : L.set i (some (.int (nI x))) = L') (kk : z_R lay mi (pc + 3) L' st σ Φ) : z_R lay mi pc L st σ Φ := z_iinc hd hx hn h2 (by rw [show (Int32.ofInt (-1)) = -1 by decide, pk_m1]; exact hL') kk
set_option maxRecDepth 20000 in
theorem m_in {μ : z_Sto} {x a b : Int32} : z_R layM iX7_in 0 [some (.int x), some (.int a), some (.int b)] [] μ (fun r μ' => ∃ v, r = some (.int v) ∧ (¬ v = 0 → a ≤ x ∧ x ≤ b) ∧ (v = 0 → ¬ (a ≤ x ∧ x ≤ b)) ∧ μ' = μ) := by
  refine z_iload_n (pc := 0) dX7_in_0 rfl ?_
  refine z_iload_n (pc := 1) dX7_in_1 rfl ?_
  refine z_icmp_lt (pc := 2) (tgt := 14) dX7_in_2 (by decide) (fun h2 => ?_) (fun h2 => ?_)
  · refine z_iconst (pc := 14) (v := (nI 0)) dX7_in_14 (by decide) ?_
    exact z_ireturn (pc := 15) dX7_in_15 rfl (by decide) (by first | exact ⟨_, rfl, fun q => absurd rfl q, fun _ g => z_nle h2 g.1, rfl⟩ | exact ⟨_, rfl, fun q => absurd rfl q, fun _ g => z_nle h7 g.2, rfl⟩ | exact ⟨_, rfl, fun _ => ⟨z_nlt h2, z_nlt h7⟩, fun q => absurd q (by decide), rfl⟩)
  · refine z_iload_n (pc := 5) dX7_in_5 rfl ?_
    refine z_iload_n (pc := 6) dX7_in_6 rfl ?_
    refine z_icmp_gt (pc := 7) (tgt := 14) dX7_in_7 (by decide) (fun h7 => ?_) (fun h7 => ?_)
    · refine z_iconst (pc := 14) (v := (nI 0)) dX7_in_14 (by decide) ?_
      exact z_ireturn (pc := 15) dX7_in_15 rfl (by decide) (by first | exact ⟨_, rfl, fun q => absurd rfl q, fun _ g => z_nle h2 g.1, rfl⟩ | exact ⟨_, rfl, fun q => absurd rfl q, fun _ g => z_nle h7 g.2, rfl⟩ | exact ⟨_, rfl, fun _ => ⟨z_nlt h2, z_nlt h7⟩, fun q => absurd q (by decide), rfl⟩)
    · refine z_iconst (pc := 10) (v := (nI 1)) dX7_in_10 (by decide) ?_
      refine z_goto (pc := 11) (tgt := 15) dX7_in_11 (by decide) ?_
      exact z_ireturn (pc := 15) dX7_in_15 rfl (by decide) (by first | exact ⟨_, rfl, fun q => absurd rfl q, fun _ g => z_nle h2 g.1, rfl⟩ | exact ⟨_, rfl, fun q => absurd rfl q, fun _ g => z_nle h7 g.2, rfl⟩ | exact ⟨_, rfl, fun _ => ⟨z_nlt h2, z_nlt h7⟩, fun q => absurd q (by decide), rfl⟩)
set_option maxRecDepth 20000 in
theorem m_in01 {μ : z_Sto} {x a b : Int32} : z_R layM iX7_in 0 [some (.int x), some (.int a), some (.int b)] [] μ (fun r μ' => ∃ v, r = some (.int v) ∧ (v = nI 0 ∨ v = nI 1) ∧ (¬ v = 0 → a ≤ x ∧ x ≤ b) ∧ (v = 0 → ¬ (a ≤ x ∧ x ≤ b)) ∧ μ' = μ) := by
  refine z_iload_n (pc := 0) dX7_in_0 rfl ?_
  refine z_iload_n (pc := 1) dX7_in_1 rfl ?_
  refine z_icmp_lt (pc := 2) (tgt := 14) dX7_in_2 (by decide) (fun h2 => ?_) (fun h2 => ?_)
  · refine z_iconst (pc := 14) (v := (nI 0)) dX7_in_14 (by decide) ?_
    exact z_ireturn (pc := 15) dX7_in_15 rfl (by decide) (by first | exact ⟨_, rfl, Or.inl rfl, fun q => absurd rfl q, fun _ g => z_nle h2 g.1, rfl⟩ | exact ⟨_, rfl, Or.inl rfl, fun q => absurd rfl q, fun _ g => z_nle h7 g.2, rfl⟩ | exact ⟨_, rfl, Or.inr rfl, fun _ => ⟨z_nlt h2, z_nlt h7⟩, fun q => absurd q (by decide), rfl⟩)
  · refine z_iload_n (pc := 5) dX7_in_5 rfl ?_
    refine z_iload_n (pc := 6) dX7_in_6 rfl ?_
    refine z_icmp_gt (pc := 7) (tgt := 14) dX7_in_7 (by decide) (fun h7 => ?_) (fun h7 => ?_)
    · refine z_iconst (pc := 14) (v := (nI 0)) dX7_in_14 (by decide) ?_
      exact z_ireturn (pc := 15) dX7_in_15 rfl (by decide) (by first | exact ⟨_, rfl, Or.inl rfl, fun q => absurd rfl q, fun _ g => z_nle h2 g.1, rfl⟩ | exact ⟨_, rfl, Or.inl rfl, fun q => absurd rfl q, fun _ g => z_nle h7 g.2, rfl⟩ | exact ⟨_, rfl, Or.inr rfl, fun _ => ⟨z_nlt h2, z_nlt h7⟩, fun q => absurd q (by decide), rfl⟩)
    · refine z_iconst (pc := 10) (v := (nI 1)) dX7_in_10 (by decide) ?_
      refine z_goto (pc := 11) (tgt := 15) dX7_in_11 (by decide) ?_
      exact z_ireturn (pc := 15) dX7_in_15 rfl (by decide) (by first | exact ⟨_, rfl, Or.inl rfl, fun q => absurd rfl q, fun _ g => z_nle h2 g.1, rfl⟩ | exact ⟨_, rfl, Or.inl rfl, fun q => absurd rfl q, fun _ g => z_nle h7 g.2, rfl⟩ | exact ⟨_, rfl, Or.inr rfl, fun _ => ⟨z_nlt h2, z_nlt h7⟩, fun q => absurd q (by decide), rfl⟩)
theorem m_in_k {x : Int32} {m : Nat} (hm : m < 2 ^ 31 - 1) : (nI 0 ≤ x ∧ x ≤ nI m) ↔ ∃ k, k < m + 1 ∧ x = nI k := by
  constructor
  · rintro ⟨h1, h2⟩
    exact z_ix (n := m + 1) (by omega) (fun g => absurd (Int32.lt_of_le_of_lt h1 g) (by decide)) (fun g => absurd ((nI_leI (by omega) (by omega)).mp (Int32.le_trans g h2)) (by omega))
  · rintro ⟨k, hk, rfl⟩
    exact ⟨nI_le (by omega) (by omega), nI_le (by omega) (by omega)⟩
/-- in(x, 0, n - 1) -/
theorem m_in_n {x : Int32} {n : Nat} (hn : n < 2 ^ 30) : (nI 0 ≤ x ∧ x ≤ nI n - nI 1) ↔ ∃ k, k < n ∧ x = nI k := by
  cases n with
  | zero =>
    constructor
    · rintro ⟨h1, h2⟩
      exact absurd (Int32.le_trans h1 h2) (by decide)
    · rintro ⟨k, hk, -⟩
      exact absurd hk (by omega)
  | succ m =>
    rw [show nI (m + 1) - nI 1 = nI m by rw [pk_sub (by omega)]; rfl]
    exact m_in_k (by omega)
set_option maxRecDepth 20000 in
theorem m_isLine {μ : z_Sto} {x : Int32} {n : Nat} (hn : μ 0 1 = nI n) (h12 : n ≤ 12) : z_R layM iX7_isLine 0 [some (.ref 0), some (.int x)] [] μ (fun r μ' => ∃ v, r = some (.int v) ∧ (¬ v = 0 → ∃ k, k < n ∧ x = nI k) ∧ (v = 0 → ∀ k, k < n → x ≠ nI k) ∧ μ' = μ) := by
  refine z_iload_n (pc := 0) dX7_isLine_0 rfl ?_
  refine z_iconst (pc := 1) (v := (nI 0)) dX7_isLine_1 (by decide) ?_
  refine z_aload_n (pc := 2) dX7_isLine_2 rfl ?_
  refine z_getI (pc := 3) f_X7_115 dX7_isLine_3 (by decide) rfl rfl ?_
  rw [hn]
  refine z_iconst (pc := 6) (v := (nI 1)) dX7_isLine_6 (by decide) ?_
  refine z_isub (pc := 7) dX7_isLine_7 ?_
  refine z_cS3 (pc := 8) mX7_in l_X7_124 (by decide) dX7_isLine_8 (by decide) (Nat.le_of_ble_eq_true rfl) (m_in01) rfl (fun r8 σ8 hr8 => ?_)
  obtain ⟨v8, rfl, z8, g1, g2, rfl⟩ := hr8
  exact z_ireturn (pc := 11) dX7_isLine_11 rfl (z_nar z8) (⟨_, rfl, fun q => (m_in_n (by omega)).mp (g1 q), fun q k hk e => g2 q ((m_in_n (by omega)).mpr ⟨k, hk, e⟩), rfl⟩)
set_option maxRecDepth 20000 in
theorem m_isHouse {μ : z_Sto} {x : Int32} : z_R layM iX7_isHouse 0 [some (.int x)] [] μ (fun r μ' => ∃ v, r = some (.int v) ∧ (¬ v = 0 → ∃ k, k < 5 ∧ x = nI k) ∧ (v = 0 → ∀ k, k < 5 → x ≠ nI k) ∧ μ' = μ) := by
  refine z_iload_n (pc := 0) dX7_isHouse_0 rfl ?_
  refine z_iconst (pc := 1) (v := (nI 0)) dX7_isHouse_1 (by decide) ?_
  refine z_iconst (pc := 2) (v := (nI 4)) dX7_isHouse_2 (by decide) ?_
  refine z_cS3 (pc := 3) mX7_in l_X7_124 (by decide) dX7_isHouse_3 (by decide) (Nat.le_of_ble_eq_true rfl) (m_in01) rfl (fun r3 σ3 hr3 => ?_)
  obtain ⟨v3, rfl, z3, g1, g2, rfl⟩ := hr3
  exact z_ireturn (pc := 6) dX7_isHouse_6 rfl (z_nar z3) (⟨_, rfl, fun q => (m_in_k (m := 4) (by decide)).mp (g1 q), fun q k hk e => g2 q ((m_in_k (m := 4) (by decide)).mpr ⟨k, hk, e⟩), rfl⟩)
set_option maxRecDepth 20000 in
theorem m_takesMarks {μ : z_Sto} : z_R layM iX7_takesMarks 0 [some (.ref 0)] [] μ (fun r μ' => r = none ∧ μ' = z_up (z_up μ 6 0 (μ 1 4)) 7 0 (μ 1 5)) := by
  refine z_aload_n (pc := 0) dX7_takesMarks_0 rfl ?_
  refine z_getA (pc := 1) f_X7_25 dX7_takesMarks_1 (by decide) rfl rfl ?_
  refine z_iconst (pc := 4) (v := (nI 0)) dX7_takesMarks_4 (by decide) ?_
  refine z_aload_n (pc := 5) dX7_takesMarks_5 rfl ?_
  refine z_getA (pc := 6) f_X7_7 dX7_takesMarks_6 (by decide) rfl rfl ?_
  refine z_iconst (pc := 9) (v := (nI 4)) dX7_takesMarks_9 (by decide) ?_
  refine z_ialdN (pc := 10) dX7_takesMarks_10 (by decide) rfl (by decide) (by decide) ?_
  refine z_iastN (pc := 11) dX7_takesMarks_11 (by decide) rfl (by decide) (by decide) ?_
  refine z_aload_n (pc := 12) dX7_takesMarks_12 rfl ?_
  refine z_getA (pc := 13) f_X7_28 dX7_takesMarks_13 (by decide) rfl rfl ?_
  refine z_iconst (pc := 16) (v := (nI 0)) dX7_takesMarks_16 (by decide) ?_
  refine z_aload_n (pc := 17) dX7_takesMarks_17 rfl ?_
  refine z_getA (pc := 18) f_X7_7 dX7_takesMarks_18 (by decide) rfl rfl ?_
  refine z_iconst (pc := 21) (v := (nI 5)) dX7_takesMarks_21 (by decide) ?_
  refine z_ialdN (pc := 22) dX7_takesMarks_22 (by decide) rfl (by decide) (by decide) ?_
  simp only [z_up_at, reduceIte, Nat.reduceEqDiff]
  refine z_iastN (pc := 23) dX7_takesMarks_23 (by decide) rfl (by decide) (by decide) ?_
  exact z_return (pc := 24) dX7_takesMarks_24 rfl (⟨rfl, rfl⟩)
def m_fv : Nat → Int32 → Int32
  | 0, v => v
  | k + 1, v => if v ≤ 0 then v else m_fv k (v / nI 2)
theorem m_fv_0 : ∀ (k : Nat) {v : Int32}, v ≤ 0 → m_fv k v = v
  | 0, _, _ => rfl
  | k + 1, v, h => by rw [m_fv, if_pos h]
def m_fend (v d h : Int32) : Int32 := v - v * (d - d / h * h) / (nI 2 * h)
def m_fade (p d h : Int32) : Int32 := m_fend (m_fv (d / h).toNatClampNeg p) d h
theorem z_neg_cl {x : Int32} (h : x < 0) : x.toNatClampNeg = 0 := by
  rw [Int32.lt_iff_toInt_lt] at h
  show x.toInt.toNat = 0
  have : (0 : Int32).toInt = 0 := by decide
  omega
set_option maxRecDepth 20000 in
theorem m_fad31 {μ : z_Sto} {p d v : Int32} {h : Nat} {v4 : Option Value} (hh : μ 1 3 = nI h) (h1 : 1 ≤ h) (h2 : h ≤ 500) : z_R layM iX7_fades 31 [some (.ref 0), some (.int p), some (.int d), some (.int v), v4] [] μ (fun r μ' => r = some (.int (m_fend v d (nI h))) ∧ μ' = μ) := by
  refine z_iload_n (pc := 31) dX7_fades_31 rfl ?_
  refine z_iload_n (pc := 32) dX7_fades_32 rfl ?_
  refine z_iload_n (pc := 33) dX7_fades_33 rfl ?_
  refine z_aload_n (pc := 34) dX7_fades_34 rfl ?_
  refine z_getA (pc := 35) f_X7_7 dX7_fades_35 (by decide) rfl rfl ?_
  refine z_iconst (pc := 38) (v := (nI 3)) dX7_fades_38 (by decide) ?_
  refine z_ialdN (pc := 39) dX7_fades_39 (by decide) rfl (by decide) (by decide) ?_
  rw [hh]
  refine z_irem (pc := 40) dX7_fades_40 (x_half_ne h1 h2) ?_
  refine z_imul (pc := 41) dX7_fades_41 ?_
  refine z_iconst (pc := 42) (v := (nI 2)) dX7_fades_42 (by decide) ?_
  refine z_aload_n (pc := 43) dX7_fades_43 rfl ?_
  refine z_getA (pc := 44) f_X7_7 dX7_fades_44 (by decide) rfl rfl ?_
  refine z_iconst (pc := 47) (v := (nI 3)) dX7_fades_47 (by decide) ?_
  refine z_ialdN (pc := 48) dX7_fades_48 (by decide) rfl (by decide) (by decide) ?_
  rw [hh]
  refine z_imulN (pc := 49) dX7_fades_49 ?_
  refine z_idiv (pc := 50) dX7_fades_50 (x_half2_ne h1 h2) ?_
  refine z_isub (pc := 51) dX7_fades_51 ?_
  exact z_ireturn (pc := 52) dX7_fades_52 rfl rfl (⟨by rw [m_fend, pk_mul], rfl⟩)
set_option maxRecDepth 20000 in
theorem m_fadl {μ : z_Sto} {p d v : Int32} {h k : Nat} (hh : μ 1 3 = nI h) (h1 : 1 ≤ h) (h2 : h ≤ 500) (hk : k < 2 ^ 31) : z_R layM iX7_fades 12 [some (.ref 0), some (.int p), some (.int d), some (.int v), some (.int (nI k))] [] μ (fun r μ' => r = some (.int (m_fend (m_fv k v) d (nI h))) ∧ μ' = μ) := by
  induction k generalizing v
  · exact z_iload (pc := 12) dX7_fades_12 rfl (z_if_le (pc := 14) (tgt := 31) dX7_fades_14 (by decide) (fun _ => m_fad31 hh h1 h2) (fun g => absurd (by decide) g))
  rename_i k ih
  refine z_iload (pc := 12) dX7_fades_12 rfl ?_
  refine z_if_le (pc := 14) (tgt := 31) dX7_fades_14 (by decide) (fun h14 => ?_) (fun h14 => ?_)
  · exact absurd h14 (nI_nle (by omega) hk)
  · refine z_iload_n (pc := 17) dX7_fades_17 rfl ?_
    refine z_if_le (pc := 18) (tgt := 31) dX7_fades_18 (by decide) (fun h18 => ?_) (fun h18 => ?_)
    · have q18 : m_fv (k + 1) v = v := by rw [m_fv, if_pos h18]
      exact (m_fad31 hh h1 h2).mono (fun r μ' g => by rw [q18]; exact g)
    · have q18 : m_fv (k + 1) v = m_fv k (v / nI 2) := by rw [m_fv, if_neg h18]
      refine z_iload_n (pc := 21) dX7_fades_21 rfl ?_
      refine z_iconst (pc := 22) (v := (nI 2)) dX7_fades_22 (by decide) ?_
      refine z_idiv (pc := 23) dX7_fades_23 (by decide) ?_
      refine z_istore_n (pc := 24) dX7_fades_24 (by decide) rfl rfl ?_
      refine z_iincM (pc := 25) dX7_fades_25 rfl (by decide) rfl rfl ?_
      refine z_goto (pc := 28) (tgt := 12) dX7_fades_28 (by decide) ?_
      exact (ih (by omega)).mono (fun r μ' g => by rw [q18]; exact g)
set_option maxRecDepth 20000 in
theorem m_fades {μ : z_Sto} {p d : Int32} {h : Nat} (hh : μ 1 3 = nI h) (h1 : 1 ≤ h) (h2 : h ≤ 500) : z_R layM iX7_fades 0 [some (.ref 0), some (.int p), some (.int d), none, none] [] μ (fun r μ' => r = some (.int (m_fade p d (nI h))) ∧ μ' = μ) := by
  refine z_iload_n (pc := 0) dX7_fades_0 rfl ?_
  refine z_istore_n (pc := 1) dX7_fades_1 (by decide) rfl rfl ?_
  refine z_iload_n (pc := 2) dX7_fades_2 rfl ?_
  refine z_aload_n (pc := 3) dX7_fades_3 rfl ?_
  refine z_getA (pc := 4) f_X7_7 dX7_fades_4 (by decide) rfl rfl ?_
  refine z_iconst (pc := 7) (v := (nI 3)) dX7_fades_7 (by decide) ?_
  refine z_ialdN (pc := 8) dX7_fades_8 (by decide) rfl (by decide) (by decide) ?_
  rw [hh]
  refine z_idiv (pc := 9) dX7_fades_9 (x_half_ne h1 h2) ?_
  refine z_istore (pc := 10) dX7_fades_10 (by decide) rfl rfl ?_
  rcases Classical.em (d / nI h < 0) with hneg | hpos
  · exact z_iload (pc := 12) dX7_fades_12 rfl (z_if_le (pc := 14) (tgt := 31) dX7_fades_14 (by decide) (fun _ => (m_fad31 hh h1 h2).mono (fun r μ' g => by rw [m_fade, z_neg_cl hneg]; exact g)) (fun g => absurd (Int32.le_of_lt hneg) g))
  obtain ⟨k, hk, ek⟩ := nI_of hpos
  rw [m_fade, ek, z_cl hk]
  exact m_fadl hh h1 h2 hk
