/-! both sides' contracts together: the relation that the law's loop keeps -/
def lw_rel (σ μ : z_Sto) : Prop := ∃ n, (∃ e h T O, x_inv σ n e h T O) ∧ (∃ e h t T O, m_inv μ n e h t T O) ∧ σ 0 6 = μ 5 0 ∧ (∀ k, k < 8 → σ 2 k = μ 1 k) ∧ (∀ i, i < 12 → σ 6 i = μ 4 i) ∧ (∀ q, q < 25 → σ 36 q = μ 20 q)
def lw_pr (S : Option Value → Prop) (C : Prop) (mx : z_MI) (Lx : z_Loc) (mm : z_MI) (Lm : z_Loc) (σ μ : z_Sto) : Prop := ∃ Ψx Ψm : z_Post, z_R layX mx 0 Lx [] σ Ψx ∧ z_R layM mm 0 Lm [] μ Ψm ∧ (∀ r σ', Ψx r σ' → S r) ∧ (∀ r μ', Ψm r μ' → S r) ∧ ∀ r σ' r' μ', Ψx r σ' → Ψm r' μ' → lw_rel σ' μ' ∧ (C → r = r')
def lw_long (r : Option Value) : Prop := ∃ v : Int64, r = some (.long v)
theorem lw_kx {σ σ' : z_Sto} {n h : Nat} {r : Option Value} (H : x_keepP σ n h r σ') : x_some r ∧ (∃ e h T O, x_inv σ' n e h T O) ∧ σ' 0 6 = σ 0 6 ∧ σ' 2 = σ 2 ∧ σ' 6 = σ 6 ∧ σ' 36 = σ 36 := by
  obtain ⟨a, ⟨e, T, O, b⟩, c1, c2, c3, c4, c5⟩ := H
  exact ⟨a, ⟨e, h, T, O, b⟩, by rw [c1], c2, c4, c5⟩
theorem lw_km {μ μ' : z_Sto} {n h t : Nat} {r : Option Value} (H : m_keepP μ n h t r μ') : x_some r ∧ (∃ e h t T O, m_inv μ' n e h t T O) ∧ μ' 5 0 = μ 5 0 ∧ μ' 1 = μ 1 ∧ μ' 4 = μ 4 ∧ μ' 20 = μ 20 := by
  obtain ⟨a, ⟨e, T, O, b⟩, c1, c2, c3, c4, c5⟩ := H
  exact ⟨a, ⟨e, h, t, T, O, b⟩, c4, c2, c3, c5⟩
theorem lw_pr_keep {σ μ : z_Sto} {n hx hm t : Nat} {mx mm : z_MI} {Lx Lm : z_Loc} (R : σ 0 6 = μ 5 0 ∧ (∀ k, k < 8 → σ 2 k = μ 1 k) ∧ (∀ i, i < 12 → σ 6 i = μ 4 i) ∧ (∀ q, q < 25 → σ 36 q = μ 20 q)) (hX : z_R layX mx 0 Lx [] σ (x_keepP σ n hx)) (hM : z_R layM mm 0 Lm [] μ (m_keepP μ n hm t)) : lw_pr x_some False mx Lx mm Lm σ μ := by
  refine ⟨_, _, hX, hM, fun r σ' h => h.1, fun r μ' h => h.1, fun r σ' r' μ' h1 h2 => ⟨?_, fun q => q.elim⟩⟩
  obtain ⟨-, a2, a3, a4, a5, a6⟩ := lw_kx h1
  obtain ⟨-, b2, b3, b4, b5, b6⟩ := lw_km h2
  refine ⟨n, a2, b2, by rw [a3, b3]; exact R.1, ?_, ?_, ?_⟩
  · rw [a4, b4]; exact R.2.1
  · rw [a5, b5]; exact R.2.2.1
  · rw [a6, b6]; exact R.2.2.2
theorem lw_pr_read {S : Option Value → Prop} {σ μ : z_Sto} {mx mm : z_MI} {Lx Lm : z_Loc} (R : lw_rel σ μ) (hX : z_R layX mx 0 Lx [] σ (fun r σ' => S r ∧ σ' = σ)) (hM : z_R layM mm 0 Lm [] μ (fun r μ' => S r ∧ μ' = μ)) : lw_pr S False mx Lx mm Lm σ μ :=
  ⟨_, _, hX, hM, fun _ _ h => h.1, fun _ _ h => h.1, fun _ _ _ _ h1 h2 => ⟨by rw [h1.2, h2.2]; exact R, fun q => q.elim⟩⟩
section PAIRS
variable {σ μ : z_Sto} {x y z w : Int32}
theorem pr_change (R : lw_rel σ μ) : lw_pr x_some False iX6_change [some (.ref 0), some (.int x), some (.int y)] iX7_change [some (.ref 0), some (.int x), some (.int y)] σ μ := by
  obtain ⟨n, ⟨e, h, T, O, hx⟩, ⟨e', h', t', T', O', hm⟩, R⟩ := R
  exact lw_pr_keep R (k_change hx) (m_change hm)
theorem pr_echo (R : lw_rel σ μ) : lw_pr x_some False iX6_echo [some (.ref 0), some (.int x)] iX7_echo [some (.ref 0), some (.int x)] σ μ := by
  obtain ⟨n, ⟨e, h, T, O, hx⟩, ⟨e', h', t', T', O', hm⟩, R⟩ := R
  exact lw_pr_keep R (k_echo hx) (m_echo hm)
theorem pr_again (R : lw_rel σ μ) : lw_pr x_some False iX6_again [some (.ref 0), some (.int x), some (.int y), some (.int z), some (.int w)] iX7_again [some (.ref 0), some (.int x), some (.int y), some (.int z), some (.int w)] σ μ := by
  obtain ⟨n, ⟨e, h, T, O, hx⟩, ⟨e', h', t', T', O', hm⟩, R⟩ := R
  exact lw_pr_keep R (k_again hx) (m_again hm)
theorem pr_marks (R : lw_rel σ μ) : lw_pr x_some False iX6_marks [some (.ref 0), some (.int x)] iX7_marks [some (.ref 0), some (.int x), none, none, none, none] σ μ := by
  obtain ⟨n, ⟨e, h, T, O, hx⟩, ⟨e', h', t', T', O', hm⟩, R⟩ := R
  exact lw_pr_keep R (k_marks hx) (m_marks hm)
theorem pr_flood {ct : Nat} (hct : ct < 2) (R : lw_rel σ μ) : lw_pr x_some False iX6_flood [some (.ref 0), some (.int (nI ct)), none, none, none] iX7_flood [some (.ref 0), some (.int (nI ct)), none] σ μ := by
  obtain ⟨n, ⟨e, h, T, O, hx⟩, ⟨e', h', t', T', O', hm⟩, R⟩ := R
  exact lw_pr_keep R (k_flood hx hct) (m_flood hm hct)
theorem pr_faded (R : lw_rel σ μ) : lw_pr x_some False iX6_faded [some (.ref 0), some (.int x), some (.int y)] iX7_faded [some (.ref 0), some (.int x), some (.int y)] σ μ := by
  obtain ⟨n, ⟨e, h, T, O, hx⟩, ⟨e', h', t', T', O', hm⟩, -⟩ := id R
  exact lw_pr_read R (k_faded hx) (m_faded hm.1)
theorem pr_about (R : lw_rel σ μ) : lw_pr x_some False iX6_about [some (.ref 0), some (.int x), some (.int y)] iX7_about [some (.ref 0), some (.int x), some (.int y)] σ μ := by
  obtain ⟨n, ⟨e, h, T, O, hx⟩, ⟨e', h', t', T', O', hm⟩, -⟩ := id R
  exact lw_pr_read R (k_about hx) (m_about hm.1 hm.2.1)
theorem pr_longest (R : lw_rel σ μ) : lw_pr x_some False iX6_longest [some (.ref 0)] iX7_longest [some (.ref 0), none] σ μ := by
  obtain ⟨n, ⟨e, h, T, O, hx⟩, ⟨e', h', t', T', O', hm⟩, -⟩ := id R
  exact lw_pr_read R (c_X6_longest.mono (fun r σ' q => ⟨⟨_, q.1⟩, q.2⟩)) (m_longest hm.1 hm.2.1)
theorem pr_event (R : lw_rel σ μ) : lw_pr x_some False iX6_event [some (.ref 0), some (.int x), some (.int y)] iX7_event [some (.ref 0), some (.int x), some (.int y)] σ μ := by
  obtain ⟨n, ⟨e, h, T, O, hx⟩, ⟨e', h', t', T', O', hm⟩, -⟩ := id R
  exact lw_pr_read R (k_event hx) (m_event hm.1)
theorem pr_own (R : lw_rel σ μ) : lw_pr x_some False iX6_own [some (.ref 0), some (.int x), some (.int y)] iX7_own [some (.ref 0), some (.int x), some (.int y)] σ μ := by
  obtain ⟨n, ⟨e, h, T, O, hx⟩, ⟨e', h', t', T', O', hm⟩, -⟩ := id R
  exact lw_pr_read R k_own (m_own hm)
theorem pr_echoes (R : lw_rel σ μ) : lw_pr x_some False iX6_echoes [some (.ref 0), some (.int x)] iX7_echoes [some (.ref 0), some (.int x)] σ μ :=
  lw_pr_read R k_echoes m_echoes
theorem pr_count (R : lw_rel σ μ) : lw_pr x_some False iX6_count [some (.ref 0), some (.int x)] iX7_count [some (.ref 0), some (.int x), none, none] σ μ := by
  obtain ⟨n, ⟨e, h, T, O, hx⟩, ⟨e', h', t', T', O', hm⟩, -⟩ := id R
  exact lw_pr_read R (k_count hx) (m_count hm.1)
theorem pr_digest (R : lw_rel σ μ) : lw_pr lw_long False iX6_digest [some (.ref 0), none, none, none, none] iX7_digest [some (.ref 0), none, none, none, none] σ μ := by
  obtain ⟨n, ⟨e, h, T, O, hx⟩, ⟨e', h', t', T', O', hm⟩, -⟩ := id R
  exact lw_pr_read R (k_digest hx) (m_digest hm)
theorem pr_line (R : lw_rel σ μ) : lw_pr x_some True iX6_line [some (.ref 0), some (.int x), some (.int y), none] iX7_line [some (.ref 0), some (.int x), some (.int y)] σ μ := by
  obtain ⟨n, ⟨e, h, T, O, hx⟩, ⟨e', h', t', T', O', hm⟩, R'⟩ := id R
  refine ⟨_, _, k_line hx, m_line hm, fun r σ' q => ?_, fun r μ' q => ?_, fun r σ' r' μ' q1 q2 => ?_⟩
  · rcases q with q | q | q
    · exact ⟨_, q.2.1⟩
    · exact ⟨_, q.2.2.1⟩
    · exact ⟨_, q.2.2.1⟩
  · rcases q with q | q | q
    · exact ⟨_, q.2.1⟩
    · exact ⟨_, q.2.2.1⟩
    · exact ⟨_, q.2.2.1⟩
  · rcases q1 with ⟨a1, a2, a3⟩ | ⟨a1, a2, a3, a4⟩ | ⟨a1, a2, a3, a4, a5⟩ <;> rcases q2 with ⟨b1, b2, b3⟩ | ⟨b1, b2, b3, b4⟩ | ⟨b1, b2, b3, b4, b5⟩
    · exact ⟨by rw [a3, b3]; exact R, fun _ => by rw [a2, b2]⟩
    · exact absurd b1 a1
    · exact absurd b1 a1
    · exact absurd a1 b1
    · exact ⟨by rw [a4, b4]; exact R, fun _ => by rw [a3, b3]⟩
    · omega
    · exact absurd a1 b1
    · omega
    · refine ⟨⟨n + 1, ⟨_, _, _, _, a4⟩, ⟨_, _, _, _, _, b4⟩, ?_, ?_, ?_, ?_⟩, fun _ => by rw [a3, b3]⟩
      · rw [a5.1, b5.2.2.1]; exact R'.1
      · rw [a5.2.1, b5.1]; exact R'.2.1
      · rw [a5.2.2.1, b5.2.1]; exact R'.2.2.1
      · rw [a5.2.2.2, b5.2.2.2]; exact R'.2.2.2
theorem lw_adm (h : ∀ k, k < 8 → σ 2 k = μ 1 k) : x_adm σ x y ↔ m_adm μ x y := by
  unfold x_adm m_adm
  rw [h 5 (by decide), h 4 (by decide)]
theorem pr_rule (R : lw_rel σ μ) : lw_pr x_some True iX6_rule [some (.ref 0), some (.int x), some (.int y), none] iX7_rule [some (.ref 0), some (.int x), some (.int y), none] σ μ := by
  obtain ⟨n, ⟨e, h, T, O, hx⟩, ⟨e', h', t', T', O', hm⟩, R'⟩ := id R
  refine ⟨_, _, k_rule hx, m_rule hm, fun r σ' q => ?_, fun r μ' q => ?_, fun r σ' r' μ' q1 q2 => ?_⟩
  · rcases q with q | ⟨k, hk, q⟩
    · exact ⟨_, q.2.1⟩
    · exact ⟨_, q.2.2.1⟩
  · rcases q with q | ⟨k, hk, q⟩
    · exact ⟨_, q.2.1⟩
    · exact ⟨_, q.2.2.1⟩
  · rcases q1 with ⟨a1, a2, a3⟩ | ⟨k, hk, a1, a2, a3, a4⟩ <;> rcases q2 with ⟨b1, b2, b3⟩ | ⟨j, hj, b1, b2, b3, b4⟩
    · exact ⟨by rw [a3, b3]; exact R, fun _ => by rw [a2, b2]⟩
    · exact absurd ((lw_adm R'.2.1).mpr b2) a1
    · exact absurd ((lw_adm R'.2.1).mp a2) b1
    · have hkj : k = j := z_nI_inj (by omega) (by omega) (a1.symm.trans b1)
      subst hkj
      rw [a1] at a2 b2
      obtain ⟨h1, g1⟩ := x_rul_inv hx hk a2
      obtain ⟨h2, g2⟩ := m_rul_inv hm hk b2
      rw [a4, b4]
      refine ⟨⟨n, ⟨_, _, _, _, g1⟩, ⟨_, _, _, _, _, g2⟩, ?_, ?_, ?_, ?_⟩, fun _ => by rw [a3, b3, R'.2.1 k hk]⟩
      · rw [x_rul_fr (by decide), m_rul_fr (by decide)]; exact R'.1
      · intro i hi
        rw [x_rul_2, m_rul_1]
        by_cases q : i = k
        · subst q
          rw [z_upd_s, z_upd_s]
        · rw [z_upd_n q, z_upd_n q]
          exact R'.2.1 i hi
      · rw [x_rul_fr (by decide), m_rul_fr (by decide)]; exact R'.2.2.1
      · rw [x_rul_fr (by decide), m_rul_fr (by decide)]; exact R'.2.2.2
theorem pr_tick (R : lw_rel σ μ) : lw_pr x_some True iX6_tick [some (.ref 0), some (.int x)] iX7_tick [some (.ref 0), some (.int x), none] σ μ := by
  obtain ⟨n, ⟨e, h, T, O, hx⟩, ⟨e', h', t', T', O', hm⟩, R'⟩ := id R
  refine ⟨_, _, k_tick hx, m_tick hm, fun r σ' q => ?_, fun r μ' q => ?_, fun r σ' r' μ' q1 q2 => ?_⟩
  · rcases q with q | q | q
    · exact ⟨_, q.2.1⟩
    · exact ⟨_, q.2.2.1⟩
    · exact ⟨_, q.2.2.1⟩
  · rcases q with q | q | q
    · exact ⟨_, q.2.1⟩
    · exact ⟨_, q.2.2.1⟩
    · exact ⟨_, q.2.2.1⟩
  · rw [R'.1] at q1
    rcases q1 with ⟨a1, a2, a3⟩ | ⟨a1, a2, a3, a4⟩ | ⟨a1, a2, a3, a4⟩ <;> rcases q2 with ⟨b1, b2, b3⟩ | ⟨b1, b2, b3, b4⟩ | ⟨b1, b2, b3, ⟨t1, b4⟩, b5, b6, b7, b8, b9⟩
    · exact ⟨by rw [a3, b3]; exact R, fun _ => by rw [a2, b2]⟩
    · exact absurd a1 b1
    · exact absurd a1 b1
    · exact absurd b1 a1
    · exact ⟨by rw [a4, b4]; exact R, fun _ => by rw [a3, b3]⟩
    · exact absurd a2 b2
    · exact absurd b1 a1
    · exact absurd b2 a2
    · refine ⟨⟨n, ⟨e, h, T, O, by rw [a4]; exact x_tik_inv hx⟩, ⟨_, _, _, _, _, b4⟩, ?_, ?_, ?_, ?_⟩, fun _ => by rw [a3, b3]⟩
      · rw [a4, x_tik_0, b5, R'.1]
      · rw [a4, x_tik_fr (by decide), b6]; exact R'.2.1
      · rw [a4, x_tik_fr (by decide), b7]; exact R'.2.2.1
      · rw [a4, x_tik_fr (by decide), b8]; exact R'.2.2.2
theorem pr_mark (R : lw_rel σ μ) : lw_pr x_some True iX6_mark [some (.ref 0), some (.int x), some (.int y)] iX7_mark [some (.ref 0), some (.int x), some (.int y), none] σ μ := by
  obtain ⟨n, ⟨e, h, T, O, hx⟩, ⟨e', h', t', T', O', hm⟩, R'⟩ := id R
  have hn := hx.1.2.1
  refine ⟨_, _, k_mark hx, m_mark hm, fun r σ' q => ?_, fun r μ' q => ?_, fun r σ' r' μ' q1 q2 => ?_⟩
  · rcases q with q | ⟨i, j, q⟩
    · exact ⟨_, q.2.1⟩
    · exact ⟨_, q.2.2.2.2.1⟩
  · rcases q with q | ⟨i, j, q⟩
    · exact ⟨_, q.2.1⟩
    · exact ⟨_, q.2.2.2.2.1⟩
  · rcases q1 with ⟨a1, a2, a3⟩ | ⟨i, j, a1, a2, a3, a4, a5, a6⟩ <;> rcases q2 with ⟨b1, b2, b3⟩ | ⟨i', j', b1, b2, b3, b4, b5, b6⟩
    · exact ⟨by rw [a3, b3]; exact R, fun _ => by rw [a2, b2]⟩
    · exact absurd ⟨⟨i', b1, b3⟩, ⟨j', b2, b4⟩⟩ a1
    · exact absurd ⟨⟨i, a1, a3⟩, ⟨j, a2, a4⟩⟩ b1
    · have e1 : i = i' := z_nI_inj (by omega) (by omega) (a3.symm.trans b3)
      have e2 : j = j' := z_nI_inj (by omega) (by omega) (a4.symm.trans b4)
      subst e1
      subst e2
      rw [a6, b6]
      refine ⟨⟨n, ⟨e, h, T, O, x_mark_inv hx⟩, ⟨_, _, _, _, _, m_up_inv hm (Or.inl rfl)⟩, ?_, ?_, ?_, ?_⟩, fun _ => by rw [a5, b5, R'.2.2.1 i (by omega)]⟩
      · rw [z_up_ne _ _ _ (by decide), z_up_ne _ _ _ (by decide)]; exact R'.1
      · rw [z_up_ne _ _ _ (by decide), z_up_ne _ _ _ (by decide)]; exact R'.2.1
      · intro k hk
        rw [z_up_same, z_up_same]
        by_cases q : k = i
        · subst q
          rw [z_upd_s, z_upd_s]
        · rw [z_upd_n q, z_upd_n q]
          exact R'.2.2.1 k hk
      · rw [z_up_ne _ _ _ (by decide), z_up_ne _ _ _ (by decide)]; exact R'.2.2.2
theorem x_wy_eq {a b t : Nat} {f : Nat → Int32} (ht : t < 2) : x_wy a b t f = upd (upd f (a * 5 + b) (nI t)) (b * 5 + a) (nI t) := by
  unfold x_wy
  rcases (show t = 0 ∨ t = 1 by omega) with rfl | rfl
  · first | rfl | (rw [if_pos rfl])
  · first | rfl | (rw [if_neg (by decide)])
theorem pr_way {t : Nat} (ht : t < 2) (R : lw_rel σ μ) : lw_pr x_some True iX6_way [some (.ref 0), some (.int x), some (.int y), some (.int (nI t))] iX7_way [some (.ref 0), some (.int x), some (.int y), some (.int (nI t))] σ μ := by
  obtain ⟨n, ⟨e, h, T, O, hx⟩, ⟨e', h', t', T', O', hm⟩, R'⟩ := id R
  refine ⟨_, _, k_way hx ht, m_wayC hm ht, fun r σ' q => ?_, fun r μ' q => ?_, fun r σ' r' μ' q1 q2 => ?_⟩
  · rcases q with q | ⟨a, b, q1, q2, q3, q4, q5, q | q⟩
    · exact ⟨_, q.2.1⟩
    · exact ⟨_, q.2.1⟩
    · exact ⟨_, q.2.1⟩
  · rcases q with q | ⟨a, b, q1, q2, q3, q4, q5, q | q⟩
    · exact ⟨_, q.2.1⟩
    · exact ⟨_, q.2.1⟩
    · exact ⟨_, q.2.1⟩
  · rcases q1 with ⟨a1, a2, a3⟩ | ⟨a, b, a1, a2, a3, a4, a5, q1⟩ <;> rcases q2 with ⟨b1, b2, b3⟩ | ⟨a', b', b1, b2, b3, b4, b5, q2⟩
    · exact ⟨by rw [a3, b3]; exact R, fun _ => by rw [a2, b2]⟩
    · exact absurd ⟨a', b', b1, b2, b3, b4, b5⟩ a1
    · exact absurd ⟨a, b, a1, a2, a3, a4, a5⟩ b1
    · have e1 : a = a' := z_nI_inj (by omega) (by omega) (a4.symm.trans b4)
      have e2 : b = b' := z_nI_inj (by omega) (by omega) (a5.symm.trans b5)
      subst e1
      subst e2
      have e3 : 5 * a + b = a * 5 + b := by omega
      have e4 : 5 * b + a = b * 5 + a := by omega
      rw [e3, ← R'.2.2.2 (a * 5 + b) (by omega)] at q2
      rcases q1 with ⟨c1, c2, c3⟩ | ⟨c1, c2, c3⟩ <;> rcases q2 with ⟨d1, d2, d3⟩ | ⟨d1, d2, d3⟩
      · exact ⟨by rw [c3, d3]; exact R, fun _ => by rw [c2, d2]⟩
      · exact absurd c1 d1
      · exact absurd d1 c1
      · obtain ⟨T2, g⟩ := m_way_inv ht a1 a2 a3 hm
        rw [c3, d3]
        refine ⟨⟨n, ⟨_, _, _, _, x_way_inv ht hx⟩, ⟨_, _, _, _, _, g⟩, ?_, ?_, ?_, ?_⟩, fun _ => by rw [c2, d2]⟩
        · rw [x_way_fr (by decide), m_way_fr (by decide)]; exact R'.1
        · rw [x_way_fr (by decide), m_way_fr (by decide)]; exact R'.2.1
        · rw [x_way_fr (by decide), m_way_fr (by decide)]; exact R'.2.2.1
        · intro k hk
          rw [x_way_36 ht, m_way_20, x_wy_eq ht, e3, e4]
          by_cases q : k = b * 5 + a
          · rw [q, z_upd_s, z_upd_s]
          · rw [z_upd_n q, z_upd_n q]
            by_cases q' : k = a * 5 + b
            · rw [q', z_upd_s, z_upd_s]
            · rw [z_upd_n q', z_upd_n q']
              exact R'.2.2.2 k hk
theorem pr_bind (R : lw_rel σ μ) : lw_pr x_some True iX6_bind [some (.ref 0), some (.int x), some (.int y), some (.int z)] iX7_bind [some (.ref 0), some (.int x), some (.int y), some (.int z)] σ μ := by
  obtain ⟨n, ⟨e, h, T, O, hx⟩, ⟨e', h', t', T', O', hm⟩, R'⟩ := id R
  refine ⟨_, _, k_bind hx, m_bind hm, fun r σ' q => ?_, fun r μ' q => ?_, fun r σ' r' μ' q1 q2 => ?_⟩
  · rcases q with q | ⟨i, a, b, q1, q2, q3, q4, q5, q6, q7, q8, q9, q10⟩
    · exact ⟨_, q.2.1⟩
    · exact ⟨_, q9⟩
  · rcases q with q | ⟨i, a, b, q1, q2, q3, q4, q5, q6, q7, q8, q9, q10⟩
    · exact ⟨_, q.2.1⟩
    · exact ⟨_, q9⟩
  · rcases q1 with ⟨a1, a2, a3⟩ | ⟨i, a, b, p1, p2, p3, p4, p5, p6, p7, p8, p9, p10⟩ <;> rcases q2 with ⟨b1, b2, b3⟩ | ⟨i', a', b', q1, q2, q3, q4, q5, q6, q7, q8, q9, q10⟩
    · exact ⟨by rw [a3, b3]; exact R, fun _ => by rw [a2, b2]⟩
    · exact absurd ⟨i', a', b', q1, q2, q3, q4, q5, q6, q7, q8⟩ a1
    · exact absurd ⟨i, a, b, p1, p2, p3, p4, p5, p6, p7, p8⟩ b1
    · rw [p10, q10]
      refine ⟨⟨n, ⟨_, _, _, _, x_bind_inv p1 hx⟩, ⟨_, _, _, _, _, m_bind_inv q1 hm⟩, ?_, ?_, ?_, ?_⟩, fun _ => by rw [p9, q9]⟩
      · rw [z_up_ne _ _ _ (by decide), z_up_ne _ _ _ (by decide)]; exact R'.1
      · rw [z_up_ne _ _ _ (by decide), z_up_ne _ _ _ (by decide)]; exact R'.2.1
      · rw [z_up_ne _ _ _ (by decide), z_up_ne _ _ _ (by decide)]; exact R'.2.2.1
      · rw [z_up_ne _ _ _ (by decide), z_up_ne _ _ _ (by decide)]; exact R'.2.2.2
end PAIRS
