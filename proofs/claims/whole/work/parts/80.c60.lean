/-! the law from its beginning -/
theorem law_from {L : Nat} (hLL : L ≤ 2048) {h : AH} (e0 : ∀ s, s < 8 → h.1 s = 0) (e8 : hL h 8 0 = L) : TT 101 0 [rv 8 (some 0), un, un, un] [] h ((28 + ((22 + 2 * 512) + 1)) + 1) ((358 + ((1543 + 10 * 512) + (cT 3).2.2)) + (cT 0).2.2) (fun r _ => r = some (iv 1)) := by
  have a0 : ∀ s, 0 < s → s < 8 → (nw h 0 0).1 s = 0 := fun s h1 h2 => (if_neg (by omega)).trans (e0 s h2)
  have rz : ∀ k, hR (nw h 0 0) 0 0 k = none := fun k => by
    have z := wR_at (h := h) (s := 0) (n := 0) (k := k)
    rw [e0 0 (by decide)] at z
    exact z
  have iz : ∀ k, hI (nw h 0 0) 0 0 k = nI 0 := fun k => by
    have z := wI_at (h := h) (s := 0) (n := 0) (k := k)
    rw [e0 0 (by decide)] at z
    exact z
  have nC : ∀ (g : AH) s, s ≠ 3 → (nw g 3 0).1 s = g.1 s := fun g s hs => if_neg hs
  have l8 : hL (nw h 0 0) 8 0 = L := (nS_L (by decide)).trans e8
  refine r_new 3 0 d_101_0 rfl nk_4_7 ?_
  rw [e0 0 (by decide)]
  refine r_dup 4 d_101_3 rfl rfl ?_
  refine r_callI (k1 := 28) (n1 := 358) (k := (22 + 2 * 512) + 1) (n := (1543 + 10 * 512) + (cT 3).2.2) 7 9 0 [] d_101_4 rfl mk_9 lk_4_9 mv_9 rfl rfl rfl rfl rfl _ (c_RegionHeap (h := nw h 0 0) ⟨a0 1 (by decide) (by decide), a0 2 (by decide) (by decide), a0 4 (by decide) (by decide), a0 5 (by decide) (by decide)⟩ (rz 5) ⟨iz 6, iz 7, iz 8, iz 9⟩) ?_
  intro r_4 h_4 q_4
  obtain ⟨q1, q2, q3⟩ := q_4
  subst q1
  have c3 : h_4.1 3 = 0 := ((q3 3 rfl).1).trans (a0 3 (by decide) (by decide))
  have c6 : (nw h_4 3 0).1 6 = 0 := (nC h_4 6 (by decide)).trans (((q3 6 rfl).1).trans (a0 6 (by decide) (by decide)))
  have c7 : (nw h_4 3 0).1 7 = 0 := (nC h_4 7 (by decide)).trans (((q3 7 rfl).1).trans (a0 7 (by decide) (by decide)))
  have r3 : ∀ k, hR (nw h_4 3 0) 3 0 k = none := (fun k => by have z := wR_at (h := h_4) (s := 3) (n := 0) (k := k); rw [c3] at z; exact z)
  have i3 : hI (nw h_4 3 0) 3 0 11 = 0 := (by have z := wI_at (h := h_4) (s := 3) (n := 0) (k := 11); rw [c3] at z; exact z)
  have l8x : hL (nw h_4 3 0) 8 0 = L := (nS_L (by decide)).trans (((q3 8 rfl).2.1 0).trans l8)
  show TT 101 7 [rv 8 (some 0), un, un, un] [rv 0 (some 0)] h_4 _ _ _
  refine r_astore_n 8 [rv 8 (some 0), rv 0 (some 0), un, un] d_101_7 rfl rfl rfl ?_
  refine r_new 11 3 d_101_8 rfl nk_4_10 ?_
  rw [c3]
  refine r_dup 12 d_101_11 rfl rfl ?_
  refine r_callI (k1 := 22) (n1 := 1543) (k := 2 * 512) (n := 10 * 512) 15 61 3 [] d_101_12 rfl mk_61 lk_4_12 mv_61 rfl rfl rfl rfl rfl _ (m_init (h := nw h_4 3 0) (fun _ => 0) c6 c7 r3 i3) ?_
  intro r_12 h_12 q_12
  obtain ⟨p1, p2, p3⟩ := q_12
  subst p1
  show TT 101 15 [rv 8 (some 0), rv 0 (some 0), un, un] [rv 3 (some 0)] h_12 _ _ _
  refine r_astore_n 16 [rv 8 (some 0), rv 0 (some 0), rv 3 (some 0), un] d_101_15 rfl rfl rfl ?_
  refine r_iconst 17 (nI 0) d_101_16 rfl (by decide) ?_
  refine r_istore_n 18 [rv 8 (some 0), rv 0 (some 0), rv 3 (some 0), iv (nI 0)] d_101_17 rfl rfl rfl ?_
  exact law_loop hLL 512 0 h_12 S0 _ (by omega) (by omega) (RC_MF q2 ((MF_nw (MF.rf h_4) rfl).tr p3)) p2 S0_IV (((p3 8 rfl).2.1 0).trans l8x)
