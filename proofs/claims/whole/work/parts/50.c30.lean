/-! contracts of the class: its constructor -/
theorem na_0_18 : 4 = 4 ∧ Cond.classLink "RegionHeap" 18 C_Item ∈ gd ∨ 4 = 5 ∧ Cond.classLink "RegionHeap" 18 C_Region ∈ gd := Or.inl ⟨rfl, g_in 124 (by decide +kernel) rfl⟩
theorem na_0_9 : 5 = 4 ∧ Cond.classLink "RegionHeap" 9 C_Item ∈ gd ∨ 5 = 5 ∧ Cond.classLink "RegionHeap" 9 C_Region ∈ gd := Or.inr ⟨rfl, g_in 70 (by decide +kernel) rfl⟩
theorem nn_0_9 : nok "RegionHeap" 9 2 := ⟨by decide, g_in 70 (by decide +kernel) rfl, g_in 72 (by decide +kernel) rfl, g_in 58 (by decide +kernel) rfl⟩
theorem wI_at {h : AH} {s n k : Nat} : hI (nw h s n) s (h.1 s) k = 0 := if_pos ⟨rfl, rfl⟩
def CIv (h : AH) (r : Nat) : Prop := (h.1 1 = 0 ∧ h.1 2 = r ∧ h.1 4 = r ∧ h.1 5 = 1) ∧ hL h 5 0 = 12 ∧ hR h 0 0 0 = some 0 ∧ hR h 0 0 5 = none ∧ (hI h 0 0 6 = nI 0 ∧ hI h 0 0 7 = nI 0 ∧ hI h 0 0 8 = nI 0 ∧ hI h 0 0 9 = nI 0) ∧ ∀ q, q < r → hR h 5 0 q = some q ∧ hI h 2 q 0 = nI q ∧ hR h 2 q 1 = some q ∧ hL h 4 q = 8 ∧ hI h 2 q 3 = nI 0 ∧ hI h 2 q 4 = nI 0 ∧ hI h 2 q 5 = -1 ∧ hI h 2 q 2 = nI 0
theorem CIv_step {h : AH} {r : Nat} (c : CIv h r) : CIv (sR (riH (nw h 2 0) r (nI r)) 5 0 r (some r)) (r + 1) := by
  obtain ⟨⟨e1, e2, e4, e5⟩, l5, r0, r5, i0, f⟩ := c
  have z2 : r = h.1 2 := e2.symm
  refine ⟨⟨e1, by show h.1 2 + 1 = r + 1; rw [e2], by show h.1 4 + 1 = r + 1; rw [e4], e5⟩, l5, r0, r5, i0, fun q hq => ?_⟩
  by_cases e : q = r
  · subst e
    refine ⟨hR_at, hI_at (h := nw h 2 0), ?_, ?_, hI_at (h := nw h 2 0), ?_, hI_at (h := nw h 2 0), ?_⟩
    · refine (hR_at (h := nw h 2 0) (s := 2) (i := q) (k := 1) (v := some (h.1 4))).trans ?_
      rw [e4]
    · have := wL_at (h := sI (nw h 2 0) 2 q 0 (nI q)) (s := 4) (n := 8)
      rw [show (sI (nw h 2 0) 2 q 0 (nI q)).1 4 = q from e4] at this
      exact this
    · have := wI_at (h := h) (s := 2) (n := 0) (k := 4)
      rw [e2] at this
      exact this
    · have := wI_at (h := h) (s := 2) (n := 0) (k := 2)
      rw [e2] at this
      exact this
  · obtain ⟨g1, g2, g3, g4, g5, g6, g7, g8⟩ := f q (by omega)
    have hn2 : q ≠ h.1 2 := by omega
    have hn4 : q ≠ h.1 4 := by omega
    refine ⟨(hR_nk e 0).trans g1, (hI_ne (h := nw h 2 0) (k := 0) (v := nI r) e 0).trans ((wI_ne hn2).trans g2), (hR_ne (h := nw h 2 0) (k := 1) (v := some (h.1 4)) e 1).trans ((wR_ne hn2).trans g3), (wL_ne (h := sI (nw h 2 0) 2 r 0 (nI r)) (s := 4) (n := 8) hn4).trans g4, (hI_ne (h := nw h 2 0) (k := 3) (v := nI 0) e 3).trans ((wI_ne hn2).trans g5), (wI_ne (h := h) (s := 2) (n := 0) hn2).trans g6, (hI_ne (h := nw h 2 0) (k := 5) (v := -1) e 5).trans ((wI_ne hn2).trans g7), (wI_ne (h := h) (s := 2) (n := 0) hn2).trans g8⟩
/-- the state of a new heap -/
def S0 : SS := mkS (fun _ => 0) (fun _ => 0) (fun _ => none) (fun _ => []) (fun _ => none) (fun _ => 0) (fun _ => []) (fun _ => 0) (fun _ => 0) none (fun _ => 0)
theorem S0_all : all S0 = [] := by decide
theorem rc_init {h : AH} (c : CIv h 12) : RC (sR (nw (sR (nw (sR (nw h 4 6) 0 0 1 (some 12)) 4 96) 0 0 2 (some 13)) 5 4) 0 0 4 (some 1)) S0 := by
  obtain ⟨⟨e1, e2, e4, e5⟩, l5, r0, r5, i0, f⟩ := c
  have l4 : ∀ q, q < 12 → hL (sR (nw (sR (nw (sR (nw h 4 6) 0 0 1 (some 12)) 4 96) 0 0 2 (some 13)) 5 4) 0 0 4 (some 1)) 4 q = hL h 4 q := by
    intro q hq
    have h1 := wL_ne (h := sR (nw h 4 6) 0 0 1 (some 12)) (s := 4) (n := 96) (i := q) (by show q ≠ h.1 4 + 1; omega)
    have h2 := wL_ne (h := h) (s := 4) (n := 6) (i := q) (by omega)
    exact h1.trans h2
  have r4 : ∀ q k, q < 12 → hR (sR (nw (sR (nw (sR (nw h 4 6) 0 0 1 (some 12)) 4 96) 0 0 2 (some 13)) 5 4) 0 0 4 (some 1)) 4 q k = hR h 4 q k := by
    intro q k hq
    have h1 := wR_ne (h := sR (nw h 4 6) 0 0 1 (some 12)) (s := 4) (n := 96) (i := q) (k := k) (by show q ≠ h.1 4 + 1; omega)
    have h2 := wR_ne (h := h) (s := 4) (n := 6) (i := q) (k := k) (by omega)
    exact h1.trans h2
  refine ⟨⟨⟨r0, rfl, rfl, rfl⟩, ⟨?_, ?_, ?_, ?_⟩, fun r hr => ⟨?_, (f r hr).2.1, (f r hr).2.2.1, (l4 r hr).trans (f r hr).2.2.2.1⟩, fun o ho => ?_⟩, fun r hr => ⟨(f r hr).2.2.2.2.1, (f r hr).2.2.2.2.2.1, (f r hr).2.2.2.2.2.2.1, (f r hr).2.2.2.2.2.2.2, fun i o ho => (by cases ho)⟩, ⟨e1, (by show h.1 4 + 1 + 1 = 14; omega)⟩, fun o ho => (by cases ho), fun o ho => (by rw [S0_all] at ho; cases ho), fun i hi => ?_, r5, i0.1, i0.2.1, i0.2.2.1, i0.2.2.2⟩
  · exact (wL_ne (h := sR (nw (sR (nw h 4 6) 0 0 1 (some 12)) 4 96) 0 0 2 (some 13)) (s := 5) (n := 4) (i := 0) (by show 0 ≠ h.1 5; omega)).trans l5
  · have := wL_at (h := sR (nw (sR (nw h 4 6) 0 0 1 (some 12)) 4 96) 0 0 2 (some 13)) (s := 5) (n := 4)
    rw [show (sR (nw (sR (nw h 4 6) 0 0 1 (some 12)) 4 96) 0 0 2 (some 13)).1 5 = 1 from e5] at this
    exact this
  · have h1 := wL_ne (h := sR (nw h 4 6) 0 0 1 (some 12)) (s := 4) (n := 96) (i := 12) (by show 12 ≠ h.1 4 + 1; omega)
    have h2 := wL_at (h := h) (s := 4) (n := 6)
    rw [e4] at h2
    exact h1.trans h2
  · have h1 := wL_at (h := sR (nw h 4 6) 0 0 1 (some 12)) (s := 4) (n := 96)
    rw [show (sR (nw h 4 6) 0 0 1 (some 12)).1 4 = 13 by show h.1 4 + 1 = 13; omega] at h1
    exact h1
  · exact (wR_ne (h := sR (nw (sR (nw h 4 6) 0 0 1 (some 12)) 4 96) 0 0 2 (some 13)) (s := 5) (n := 4) (i := 0) (k := r) (by show 0 ≠ h.1 5; omega)).trans (f r hr).1
  · have : o < h.1 1 := ho
    omega
  · have h1 := wR_ne (h := sR (nw h 4 6) 0 0 1 (some 12)) (s := 4) (n := 96) (i := 12) (k := i) (by show 12 ≠ h.1 4 + 1; omega)
    have h2 := wR_at (h := h) (s := 4) (n := 6) (k := i)
    rw [e4] at h2
    exact h1.trans h2
theorem c_RegionHeap {h : AH} (e0 : h.1 1 = 0 ∧ h.1 2 = 0 ∧ h.1 4 = 0 ∧ h.1 5 = 0) (r5 : hR h 0 0 5 = none) (i0 : hI h 0 0 6 = nI 0 ∧ hI h 0 0 7 = nI 0 ∧ hI h 0 0 8 = nI 0 ∧ hI h 0 0 9 = nI 0) : TT 9 0 [rv 0 (some 0), un] [] h 28 358 (fun x h' => x = none ∧ RC h' S0 ∧ CF h h') := by
  have loop : ∀ n r h1, r + n = 12 → CIv h1 r → CF h h1 → TT 9 15 [rv 0 (some 0), iv (nI r)] [] h1 (3 + 2 * n) (106 + 20 * n) (fun x h' => x = none ∧ RC h' S0 ∧ CF h h') := by
    intro n
    induction n with
    | zero =>
      intro r h1 hr c1 cf
      obtain rfl : r = 12 := by omega
      have e4 := c1.1.2.2.1
      have e5 := c1.1.2.2.2
      refine TT.widen (k := ((0 + 1) + 1) + 1) (n := ((0 + 4) + 96) + 6) (by omega) (by omega) ?_
      refine r_iload_n 16 d_9_15 rfl rfl ?_
      refine r_bipush 18 (nI 12) d_9_16 rfl (by decide) ?_
      refine r_icmp_ge 41 21 d_9_18 (by decide) rfl (fun c_18 => ?_) (fun c_18 => absurd (nI_le (Nat.le_refl _) (by decide)) c_18)
      refine r_aload_n 42 d_9_41 rfl rfl ?_
      refine r_bipush 44 (nI 6) d_9_42 rfl (by decide) ?_
      refine r_newq 47 4 6 d_9_44 rfl na_0_18 rfl (by omega) ?_
      rw [e4]
      refine r_putR 50 0 1 4 d_9_47 rfl fk_0_20 (Or.inr fn_9_20) rfl (by decide) (fun o => by cases o <;> exact ⟨rfl, rfl⟩) ?_
      refine r_aload_n 51 d_9_50 rfl rfl ?_
      refine r_bipush 53 (nI 96) d_9_51 rfl (by decide) ?_
      refine r_newq 56 4 96 d_9_53 rfl na_0_18 rfl (by omega) ?_
      rw [show (sR (nw h1 4 6) 0 0 1 (some 12)).1 4 = 13 by show h1.1 4 + 1 = 13; omega]
      refine r_putR 59 0 2 4 d_9_56 rfl fk_0_24 (Or.inr fn_9_24) rfl (by decide) (fun o => by cases o <;> exact ⟨rfl, rfl⟩) ?_
      refine r_aload_n 60 d_9_59 rfl rfl ?_
      refine r_iconst 61 (nI 4) d_9_60 rfl (by decide) ?_
      refine r_newq 64 5 4 d_9_61 rfl na_0_9 rfl (by omega) ?_
      rw [show (sR (nw (sR (nw h1 4 6) 0 0 1 (some 12)) 4 96) 0 0 2 (some 13)).1 5 = 1 from e5]
      refine r_putR 67 0 4 5 d_9_64 rfl fk_0_27 (Or.inr fn_9_27) rfl (by decide) (fun o => by cases o <;> exact ⟨rfl, rfl⟩) ?_
      refine r_return d_9_67 rfl ?_
      exact ⟨rfl, rc_init c1, CF_sR (CF_nw (CF_sR (CF_nw (CF_sR (CF_nw cf rfl) rfl) rfl) rfl) rfl) rfl⟩
    | succ n ih =>
      intro r h1 hr c1 cf
      have hr12 : r < 12 := by omega
      have e2 := c1.1.2.1
      have z := ih (r + 1) _ (by omega) (CIv_step c1) (CF_sR (CF_sI (CF_sI (CF_sR (CF_nw (CF_sI (CF_nw cf rfl) rfl) rfl) rfl) rfl) rfl) rfl)
      refine TT.widen (k := ((0 + 1) + (3 + 2 * n)) + 1) (n := ((0 + 8) + (106 + 20 * n)) + (cT 2).2.2) (by omega) (by show 0 + 8 + (106 + 20 * n) + 12 ≤ 106 + 20 * (n + 1); omega) ?_
      refine r_iload_n 16 d_9_15 rfl rfl ?_
      refine r_bipush 18 (nI 12) d_9_16 rfl (by decide) ?_
      refine r_icmp_ge 41 21 d_9_18 (by decide) rfl (fun c_18 => absurd c_18 (nI_ge hr12 (by decide))) (fun c_18 => ?_)
      refine r_aload_n 22 d_9_21 rfl rfl ?_
      refine r_getR 25 0 0 5 (some 0) d_9_22 rfl fk_0_11 rfl (by decide) c1.2.2.1 ?_
      refine r_iload_n 26 d_9_25 rfl rfl ?_
      refine r_new 29 2 d_9_26 rfl nn_0_9 ?_
      rw [e2]
      refine r_dup 30 d_9_29 rfl rfl ?_
      refine r_iload_n 31 d_9_30 rfl rfl ?_
      refine r_callI (k1 := 0 + 1) (n1 := 0 + 8) (k := 3 + 2 * n) (n := 106 + 20 * n) 34 2 2 [iv (nI r)] d_9_31 rfl mk_2 lk_0_15 mv_2 rfl rfl rfl rfl rfl _ (c_Region _ r (nI r)) ?_
      intro r_31 h_31 q_31
      obtain ⟨q1, q2⟩ := q_31
      subst q1
      subst q2
      show TT 9 34 [rv 0 (some 0), iv (nI r)] [rv 2 (some r), iv (nI r), rv 5 (some 0)] (riH (nw h1 2 0) r (nI r)) _ _ _
      refine r_aast 35 5 2 r d_9_34 rfl (Or.inr ⟨rfl, rfl⟩) rfl (by show r < hL h1 5 0; rw [c1.2.1]; exact hr12) ?_
      refine r_iinc 38 (nI (r + 1)) [rv 0 (some 0), iv (nI (r + 1))] d_9_35 rfl rfl (nI_1 r) rfl rfl ?_
      refine r_goto 15 d_9_38 (by decide) ?_
      exact z
  refine TT.widen (k := (3 + 2 * 12) + 1) (n := (106 + 20 * 12) + 12) (by omega) (by omega) ?_
  refine r_aload_n 1 d_9_0 rfl rfl ?_
  refine r_obj 4 d_9_1 rfl lk_0_3 rfl rfl rfl ?_
  refine r_aload_n 5 d_9_4 rfl rfl ?_
  refine r_bipush 7 (nI 12) d_9_5 rfl (by decide) ?_
  refine r_newq 10 5 12 d_9_7 rfl na_0_9 rfl (by omega) ?_
  rw [e0.2.2.2]
  refine r_putR 13 0 0 5 d_9_10 rfl fk_0_11 (Or.inr fn_9_11) rfl (by decide) (fun o => by cases o <;> exact ⟨rfl, rfl⟩) ?_
  refine r_iconst 14 (nI 0) d_9_13 rfl (by decide) ?_
  refine r_istore_n 15 [rv 0 (some 0), iv (nI 0)] d_9_14 rfl rfl rfl ?_
  refine loop 12 0 _ rfl ⟨⟨e0.1, e0.2.1, e0.2.2.1, by show h.1 5 + 1 = 1; rw [e0.2.2.2]⟩, ?_, rfl, r5, i0, fun q hq => absurd hq (Nat.not_lt_zero q)⟩ (CF_sR (CF_nw (CF.rf h) rfl) rfl)
  have := wL_at (h := h) (s := 5) (n := 12)
  rw [e0.2.2.2] at this
  exact this
