/-! a call from the law: one side's cells change, the other's stay -/
def R_law : String := "CalmLinesLaw"
def z_sep (w1 w2 : va_W) : Prop := ∀ (i j : Nat) (p q : Nat × va_E), w1[i]? = some p → w2[j]? = some q → p.1 ≠ q.1
theorem z_sep.sym {w1 w2 : va_W} (h : z_sep w1 w2) : z_sep w2 w1 := fun i j p q h1 h2 e => h j i q p h2 h1 e.symm
theorem z_wd_ad {lay : z_Lay} {ad : Nat → Nat} {cI cZ : ClassId} {σ σ' : z_Sto} {i : Nat} {p : Nat × va_E} (h : (z_wd lay ad cI cZ σ)[i]? = some p) : ∃ p', (z_wd lay ad cI cZ σ')[i]? = some p' ∧ p'.1 = p.1 := by
  by_cases hi : i < lay.1
  · rw [z_wd_at hi] at h
    cases h
    exact ⟨_, z_wd_at hi, rfl⟩
  · rw [z_wd_out hi] at h
    cases h
theorem z_sep_wd {lay : z_Lay} {ad : Nat → Nat} {cI cZ : ClassId} {σ σ' : z_Sto} {w2 : va_W} (h : z_sep (z_wd lay ad cI cZ σ) w2) : z_sep (z_wd lay ad cI cZ σ') w2 := by
  intro i j p q h1 h2
  obtain ⟨p', e1, e2⟩ := z_wd_ad (σ' := σ) h1
  rw [← e2]
  exact h i j p' q e1 h2
theorem z_A_wd {lay : z_Lay} {ad : Nat → Nat} {cI cZ : ClassId} {σ : z_Sto} {w2 : va_W} {D : va_G} {H : Heap} (h : z_sep (z_wd lay ad cI cZ σ) w2) (hP : va_P D vwCl w2 H) {k : Nat} {q : Nat × va_E} (hk : w2[k]? = some q) : q.1 < H.size ∧ ¬ va_A (z_wd lay ad cI cZ σ) H.size q.1 := by
  have hl := (hP k q hk).lt
  refine ⟨hl, fun g => ?_⟩
  rcases g with ⟨i, e, g⟩ | g
  · exact h i k (q.1, e) q g hk rfl
  · omega
section ZLAW
variable {p : Program} {l : Launch} {e : Env} {s : State} {m : MethodId} {args : Array Value} {below : List Frame} {meth : Method} {c : Code} {H : Heap} {locs : List Loc} {cells slots : Nat} {Q : State → Prop} {pc : Nat} {ls : Array Slot} {rest st0 : List Value} {A : Nat → Prop}
theorem z_callg {R : Room} {a : Array Value} {A0 A1 : Nat → Prop} {H0 : Heap} {lay : z_Lay} {ad : Nat → Nat} {cI cZ : ClassId} {D : va_G} {Ψ : z_Post}
    (hr : va_Run p l e R s m args below meth c H locs cells slots 0 0 (F0 m pc ls st0) rest (z_Q lay ad cI cZ D A1 Ψ a) A1) (hS : va_S A0 H0 H locs) (hA : ∀ q, A1 q → A0 q)
    (kk : ∀ (r : Option Value) (σ : z_Sto) (t : State) (H1 : Heap) (locs1 : List Loc), t.heap = H1 → s.vm.Alike t.vm → Ψ r σ → va_P D vwCl (z_wd lay ad cI cZ σ) H1 → va_D A1 (z_wd lay ad cI cZ σ) → H.size ≤ H1.size → (∀ q : Nat, q < H.size → ¬ A1 q → H1[q]? = H[q]?) → va_S A0 H0 H1 locs1 → W p l e R s m args below meth c H1 locs1 cells slots Q (F0 m (pc + 3) ls ((r.map (z_v ad)).toList ++ rest))) : W p l e R s m args below meth c H locs cells slots Q (F0 m pc ls st0) := by
  intro T hT X
  obtain ⟨v, st₀, t, T', L, h0, X', hL, e1, e2, ⟨⟨r, σ, hv, hp, hP, hK, hD⟩, hz, hk⟩, st⟩ := hr T hT X
  cases hv
  rw [h0] at hz hk
  obtain ⟨t2, a1, b1⟩ := kk r σ t T'.heap (locs ++ L) e1.symm (by rw [← e2]; exact X'.warmed.alike) hp (by rw [e1]; exact hP) hD (by rw [e1]; exact hz) (fun q h1 h2 => by rw [e1]; exact hk q h1 h2)
    ⟨Nat.le_trans hS.1 (by rw [e1]; exact hz), fun q h1 h2 => by rw [e1, hk q (Nat.lt_of_lt_of_le h1 hS.1) (fun z => h2 (hA q z))]; exact hS.2.1 q h1 h2, fun q hq => by
      rcases List.mem_append.mp hq with h | h
      · exact hS.2.2 q h
      · exact hA _ (hL q h)⟩ T' rfl X'
  exact ⟨t2, st t2 a1, b1⟩
theorem z_lawV {lay : z_Lay} {mj : z_MI} {n index : Nat} {As : List Value} {b ci : Nat} {fs : List (Option Nat)} {T : u_T} {N : Nat} {w2 : va_W} {ad : Nat → Nat} {cI cZ : ClassId} {D : va_G} {σ : z_Sto} {Ψ : z_Post} {L' : z_Loc} (hx : p.tables.exec = Jvm.exec) (hb : c.code = code) (hml : c.maxLocals = ls.size) (hown : s.vm.findClass R_law = some m.cls) (hts : ∀ w ∈ lw_tbl, w.before args s = true)
    (hM : z_MV mj n) (hlk : Cond.methodLink R_law index mj.1 ∈ z_tbl) (hdp : mj.2.2.2.2 ≤ 7) (hdg : decode code pc = .ok (.invokevirtual index, 3)) (hbl : b < lay.1) (hl : lay.2 b = .inr (ci, fs)) (hcl : vwCl[ci]? = some (mj.1.cls, T, N)) (hc1 : z_c1 As = true) (hn : As.length = n) (hnn : n + 1 ≤ mj.2.2.1) (hrest : (rest.map (fun v => v.category)).sum ≤ 8)
    (hs : st0 = (As.map (z_v ad)).reverse ++ .ref (ad b) :: rest) (hcal : z_R lay mj 0 L' [] σ Ψ) (hL' : L' = (.ref b :: As).map some ++ List.replicate (mj.2.2.1 - (n + 1)) none) (hce : cells ≤ 600000) (hsl : slots ≤ 7302250)
    (hT : z_T A s) (hA : ∀ q, s.heap.size ≤ q → A q) (hK : va_K D vwCl (z_tys cI cZ) s) (hP : va_P D vwCl (z_wd lay ad cI cZ σ) H) (hD : va_D A (z_wd lay ad cI cZ σ)) (hP2 : va_P D vwCl w2 H) (hsep : z_sep (z_wd lay ad cI cZ σ) w2) (hS : va_S A s.heap H locs)
    (kk : ∀ r σ' H1 locs1, Ψ r σ' → va_P D vwCl (z_wd lay ad cI cZ σ') H1 → va_D A (z_wd lay ad cI cZ σ') → va_P D vwCl w2 H1 → z_sep (z_wd lay ad cI cZ σ') w2 → va_S A s.heap H1 locs1 → W p l e room_1 s m args below meth c H1 locs1 cells slots Q (F0 m (pc + 3) ls ((r.map (z_v ad)).toList ++ rest))) : W p l e room_1 s m args below meth c H locs cells slots Q (F0 m pc ls st0) := by
  subst hn
  subst hL'
  have hG : GoodIn lw_tbl (wsV R_law index mj.1.cls mj.1 (z_ws mj)) := fun w hw => by
    have hz : w ∈ z_tbl := by
      simp only [wsV, List.cons_append, List.nil_append, List.mem_cons] at hw
      rcases hw with rfl | rfl | rfl | rfl | hw
      · exact hlk
      · exact hM.2.1
      · exact hM.2.2
      · exact hM.1.2.1
      · exact z_ws_in hM.1 w hw
    exact ⟨z_out hz, z_good hz⟩
  have hw := z_wd_at (ad := ad) (cI := cI) (cZ := cZ) (σ := σ) hbl
  rw [hl] at hw
  have hF : ∀ q, va_A (z_wd lay ad cI cZ σ) H.size q → A q := fun q h => by
    rcases h with ⟨k, e, h⟩ | h
    · exact hD.2 k (q, e) h
    · exact hA q (Nat.le_trans hS.1 h)
  have hMet := z_met (l := l) (ad := ad) (cI := cI) (cZ := cZ) (D := D) (sz := H.size) (vs := .ref b :: As) hM.1.1 (by simp only [z_c1, List.all_cons] at hc1 ⊢; rw [hc1]; rfl) hnn hcal
  refine z_callg (va_runV (As := As.map (z_v ad)) (rest := rest) (b := ad b) ⟨hx, hb, hml, hown, hts⟩ hMet (cwV As.length hts hG rfl rfl rfl ⟨rfl, hM.1.2.2.2.1, hM.1.2.2.2.2.1, hM.1.2.2.2.2.2.1⟩ ⟨?_, ?_⟩) ⟨fun a U g mk q => by obtain ⟨q0, q1, qP, qK, qD, qT⟩ := q; exact ⟨q0, q1, qP, va_K.moved (u := U) (U := U.calling g mk a) (Vm.Alike.refl U.vm) qK, qD, qT.calling⟩, va_recv hK hP hcl hw, fun U hU hW => ⟨rfl, by rw [hU], by rw [hU]; exact hP, va_K.moved hW.alike hK, hD.weaken (fun _ _ _ _ => trivial), hT.go hS hU hW.alike hF⟩⟩ rfl (by rw [List.length_map]) rfl hs (lv_room hrest) hdg ⟨hce, hsl⟩) hS hF (fun r σ' t H1 locs1 ht hvm hΨ hP1 hD1 hz hk hS1 => ?_)
  · show mj.2.2.2.2 + 1 ≤ 10
    omega
  · have h13 := hM.1.2.2.2.2.2.2
    show 8 + (mj.2.2.1 + 11) + 32 * mj.2.2.2.2 ≤ 390
    omega
  · refine kk r σ' H1 locs1 hΨ hP1 (hD1.weaken (fun k q _ h => hF q.1 h)) (fun k q hq => ?_) (z_sep_wd hsep) hS1
    obtain ⟨g1, g2⟩ := z_A_wd hsep hP2 hq
    exact (hP2 k q hq).kept (hk q.1 g1 g2)
end ZLAW
