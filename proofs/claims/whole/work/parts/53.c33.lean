/-! contracts of the reference: questions -/
theorem ol_map {sg : Nat → Nat} {x : Option Nat} : ol (x.map sg) = match x with
  | none => -1
  | some o => nI (sg o) := by cases x <;> rfl
theorem m_empty {h : AH} {S : SS} {sg : Nat → Nat} (m : RM h S sg) (v : IV S) (a : Int32) : TT 91 0 [rv 3 (some 0), iv a] [] h 0 0 (fun x h' => h' = h ∧ x = some (iv (bI (hel S a).isNone))) := by
  cases e1 : ix 6 a with
  | none =>
    have e0 : hel S a = none := by unfold hel; rw [e1]; rfl
    rw [e0]
    refine r_aload_n 1 d_91_0 rfl rfl ?_
    refine r_iload_n 2 d_91_1 rfl rfl ?_
    refine r_callV (k1 := 0) (n1 := 0) (k := 0) (n := 0) 5 62 3 [iv a] d_91_2 rfl mk_62 lk_3_132 mv_62 rfl rfl rfl rfl rfl _ (m_noRoot h a) ?_
    intro r_2 h_2 q_2
    obtain ⟨q1, q2⟩ := q_2
    rw [e1] at q2
    subst q2
    rw [q1]
    show TT 91 5 [rv 3 (some 0), iv a] [iv (bI (none : Option Nat).isNone)] h _ _ _
    refine r_if_ne 17 8 d_91_5 (by decide) rfl (fun c_5 => ?_) (fun c_5 => absurd c_5 bI_t0)
    refine r_iconst 18 (nI 1) d_91_17 rfl (by decide) ?_
    refine r_goto 22 d_91_18 (by decide) ?_
    refine r_zreturn d_91_22 rfl rfl ?_
    exact ⟨rfl, rfl⟩
  | some i =>
    obtain ⟨hi, rfl⟩ := ix_some (by decide) e1
    have e0 : hel S (nI i) = ro S i := by unfold hel; rw [e1]; rfl
    rw [e0]
    cases e2 : ro S i with
    | none =>
      refine r_aload_n 1 d_91_0 rfl rfl ?_
      refine r_iload_n 2 d_91_1 rfl rfl ?_
      refine r_callV (k1 := 0) (n1 := 0) (k := 0) (n := 0) 5 62 3 [iv (nI i)] d_91_2 rfl mk_62 lk_3_132 mv_62 rfl rfl rfl rfl rfl _ (m_noRoot h (nI i)) ?_
      intro r_2 h_2 q_2
      obtain ⟨q1, q2⟩ := q_2
      rw [e1] at q2
      subst q2
      rw [q1]
      show TT 91 5 [rv 3 (some 0), iv (nI i)] [iv (bI (some i).isNone)] h _ _ _
      refine r_if_ne 17 8 d_91_5 (by decide) rfl (fun c_5 => absurd c_5 (fun z => z rfl)) (fun c_5 => ?_)
      refine r_aload_n 9 d_91_8 rfl rfl ?_
      refine r_getR 12 3 7 6 (some 7) d_91_9 rfl fk_3_31 rfl (by decide) (MT.f7 m.mt) ?_
      refine r_iload_n 13 d_91_12 rfl rfl ?_
      refine r_iald 14 i (-1) d_91_13 rfl rfl (MT.l6_7 m.mt hi) ((m.ro hi).trans (by rw [e2]; rfl)) ?_
      refine r_if_ge 21 17 d_91_14 (by decide) rfl (fun c_14 => absurd c_14 (by decide)) (fun c_14 => ?_)
      refine r_iconst 18 (nI 1) d_91_17 rfl (by decide) ?_
      refine r_goto 22 d_91_18 (by decide) ?_
      refine r_zreturn d_91_22 rfl rfl ?_
      exact ⟨rfl, rfl⟩
    | some o =>
      have hs := m.lt (v.2.2.1 i o hi e2)
      refine r_aload_n 1 d_91_0 rfl rfl ?_
      refine r_iload_n 2 d_91_1 rfl rfl ?_
      refine r_callV (k1 := 0) (n1 := 0) (k := 0) (n := 0) 5 62 3 [iv (nI i)] d_91_2 rfl mk_62 lk_3_132 mv_62 rfl rfl rfl rfl rfl _ (m_noRoot h (nI i)) ?_
      intro r_2 h_2 q_2
      obtain ⟨q1, q2⟩ := q_2
      rw [e1] at q2
      subst q2
      rw [q1]
      show TT 91 5 [rv 3 (some 0), iv (nI i)] [iv (bI (some i).isNone)] h _ _ _
      refine r_if_ne 17 8 d_91_5 (by decide) rfl (fun c_5 => absurd c_5 (fun z => z rfl)) (fun c_5 => ?_)
      refine r_aload_n 9 d_91_8 rfl rfl ?_
      refine r_getR 12 3 7 6 (some 7) d_91_9 rfl fk_3_31 rfl (by decide) (MT.f7 m.mt) ?_
      refine r_iload_n 13 d_91_12 rfl rfl ?_
      refine r_iald 14 i (nI (sg o)) d_91_13 rfl rfl (MT.l6_7 m.mt hi) ((m.ro hi).trans (by rw [e2]; rfl)) ?_
      refine r_if_ge 21 17 d_91_14 (by decide) rfl (fun c_14 => ?_) (fun c_14 => absurd (nI_pos' (by omega)) c_14)
      refine r_iconst 22 (nI 0) d_91_21 rfl (by decide) ?_
      refine r_zreturn d_91_22 rfl rfl ?_
      exact ⟨rfl, rfl⟩
theorem m_serial {h : AH} {S : SS} {sg : Nat → Nat} (m : RM h S sg) (v : IV S) (a : Int32) : TT 92 0 [rv 3 (some 0), iv a] [] h 0 0 (fun x h' => h' = h ∧ x = some (iv (serA S a))) := by
  cases e1 : ix 6 a with
  | none =>
    have e0 : serA S a = -1 := by unfold serA; rw [e1]
    rw [e0]
    refine r_aload_n 1 d_92_0 rfl rfl ?_
    refine r_iload_n 2 d_92_1 rfl rfl ?_
    refine r_callV (k1 := 0) (n1 := 0) (k := 0) (n := 0) 5 62 3 [iv a] d_92_2 rfl mk_62 lk_3_132 mv_62 rfl rfl rfl rfl rfl _ (m_noRoot h a) ?_
    intro r_2 h_2 q_2
    obtain ⟨q1, q2⟩ := q_2
    rw [e1] at q2
    subst q2
    rw [q1]
    show TT 92 5 [rv 3 (some 0), iv a] [iv (bI (none : Option Nat).isNone)] h _ _ _
    refine r_if_eq 12 8 d_92_5 (by decide) rfl (fun c_5 => absurd c_5 bI_t0) (fun c_5 => ?_)
    refine r_iconst 9 (-1) d_92_8 rfl (by decide) ?_
    refine r_goto 36 d_92_9 (by decide) ?_
    refine r_ireturn d_92_36 rfl ?_
    exact ⟨rfl, rfl⟩
  | some i =>
    obtain ⟨hi, rfl⟩ := ix_some (by decide) e1
    cases e2 : ro S i with
    | none =>
      have e0 : serA S (nI i) = nI 0 := by unfold serA; simp only [e1, e2]
      rw [e0]
      refine r_aload_n 1 d_92_0 rfl rfl ?_
      refine r_iload_n 2 d_92_1 rfl rfl ?_
      refine r_callV (k1 := 0) (n1 := 0) (k := 0) (n := 0) 5 62 3 [iv (nI i)] d_92_2 rfl mk_62 lk_3_132 mv_62 rfl rfl rfl rfl rfl _ (m_noRoot h (nI i)) ?_
      intro r_2 h_2 q_2
      obtain ⟨q1, q2⟩ := q_2
      rw [e1] at q2
      subst q2
      rw [q1]
      show TT 92 5 [rv 3 (some 0), iv (nI i)] [iv (bI (some i).isNone)] h _ _ _
      refine r_if_eq 12 8 d_92_5 (by decide) rfl (fun c_5 => ?_) (fun c_5 => absurd rfl c_5)
      refine r_aload_n 13 d_92_12 rfl rfl ?_
      refine r_getR 16 3 7 6 (some 7) d_92_13 rfl fk_3_31 rfl (by decide) (MT.f7 m.mt) ?_
      refine r_iload_n 17 d_92_16 rfl rfl ?_
      refine r_iald 18 i (-1) d_92_17 rfl rfl (MT.l6_7 m.mt hi) ((m.ro hi).trans (by rw [e2]; rfl)) ?_
      refine r_if_ge 25 21 d_92_18 (by decide) rfl (fun c_18 => absurd c_18 (by decide)) (fun c_18 => ?_)
      refine r_iconst 22 (nI 0) d_92_21 rfl (by decide) ?_
      refine r_goto 36 d_92_22 (by decide) ?_
      refine r_ireturn d_92_36 rfl ?_
      exact ⟨rfl, rfl⟩
    | some o =>
      have e0 : serA S (nI i) = nI (o + 1) := by unfold serA; simp only [e1, e2]
      rw [e0]
      have hoa := v.2.2.1 i o hi e2
      have hs := m.lt hoa
      refine r_aload_n 1 d_92_0 rfl rfl ?_
      refine r_iload_n 2 d_92_1 rfl rfl ?_
      refine r_callV (k1 := 0) (n1 := 0) (k := 0) (n := 0) 5 62 3 [iv (nI i)] d_92_2 rfl mk_62 lk_3_132 mv_62 rfl rfl rfl rfl rfl _ (m_noRoot h (nI i)) ?_
      intro r_2 h_2 q_2
      obtain ⟨q1, q2⟩ := q_2
      rw [e1] at q2
      subst q2
      rw [q1]
      show TT 92 5 [rv 3 (some 0), iv (nI i)] [iv (bI (some i).isNone)] h _ _ _
      refine r_if_eq 12 8 d_92_5 (by decide) rfl (fun c_5 => ?_) (fun c_5 => absurd rfl c_5)
      refine r_aload_n 13 d_92_12 rfl rfl ?_
      refine r_getR 16 3 7 6 (some 7) d_92_13 rfl fk_3_31 rfl (by decide) (MT.f7 m.mt) ?_
      refine r_iload_n 17 d_92_16 rfl rfl ?_
      refine r_iald 18 i (nI (sg o)) d_92_17 rfl rfl (MT.l6_7 m.mt hi) ((m.ro hi).trans (by rw [e2]; rfl)) ?_
      refine r_if_ge 25 21 d_92_18 (by decide) rfl (fun c_18 => ?_) (fun c_18 => absurd (nI_pos' (by omega)) c_18)
      refine r_aload_n 26 d_92_25 rfl rfl ?_
      refine r_getR 29 3 0 6 (some 0) d_92_26 rfl fk_3_7 rfl (by decide) (MT.f0 m.mt) ?_
      refine r_aload_n 30 d_92_29 rfl rfl ?_
      refine r_getR 33 3 7 6 (some 7) d_92_30 rfl fk_3_31 rfl (by decide) (MT.f7 m.mt) ?_
      refine r_iload_n 34 d_92_33 rfl rfl ?_
      refine r_iald 35 i (nI (sg o)) d_92_34 rfl rfl (MT.l6_7 m.mt hi) ((m.ro hi).trans (by rw [e2]; rfl)) ?_
      refine r_iald 36 (sg o) (nI (o + 1)) d_92_35 rfl rfl (MT.l6_0 m.mt hs) (m.no hoa) ?_
      refine r_ireturn d_92_36 rfl ?_
      exact ⟨rfl, rfl⟩
theorem m_region {h : AH} {S : SS} {sg : Nat → Nat} (m : RM h S sg) (v : IV S) (a : Int32) : TT 93 0 [rv 3 (some 0), iv a] [] h 0 0 (fun x h' => h' = h ∧ x = some (iv (obA S (hm S) a))) := by
  cases e1 : hel S a with
  | none =>
    have e0 : obA S (hm S) a = -1 := by unfold obA; rw [e1]
    rw [e0]
    refine r_aload_n 1 d_93_0 rfl rfl ?_
    refine r_iload_n 2 d_93_1 rfl rfl ?_
    refine r_callV (k1 := 0) (n1 := 0) (k := 0) (n := 0) 5 91 3 [iv a] d_93_2 rfl mk_91 lk_3_152 mv_91 rfl rfl rfl rfl rfl _ (m_empty m v a) ?_
    intro r_2 h_2 q_2
    obtain ⟨q1, q2⟩ := q_2
    rw [e1] at q2
    subst q2
    rw [q1]
    show TT 93 5 [rv 3 (some 0), iv a] [iv (bI (none : Option Nat).isNone)] h _ _ _
    refine r_if_eq 12 8 d_93_5 (by decide) rfl (fun c_5 => absurd c_5 bI_t0) (fun c_5 => ?_)
    refine r_iconst 9 (-1) d_93_8 rfl (by decide) ?_
    refine r_goto 23 d_93_9 (by decide) ?_
    refine r_ireturn d_93_23 rfl ?_
    exact ⟨rfl, rfl⟩
  | some o =>
    have e0 : obA S (hm S) a = nI (hm S o) := by unfold obA; rw [e1]
    rw [e0]
    have hoa := hel_mem v.cl e1
    have hs := m.lt hoa
    have e2 := e1
    unfold hel at e2
    cases e3 : ix 6 a with
    | none => rw [e3] at e2; cases e2
    | some i =>
      rw [e3] at e2
      have e4 : ro S i = some o := e2
      obtain ⟨hi, rfl⟩ := ix_some (by decide) e3
      refine r_aload_n 1 d_93_0 rfl rfl ?_
      refine r_iload_n 2 d_93_1 rfl rfl ?_
      refine r_callV (k1 := 0) (n1 := 0) (k := 0) (n := 0) 5 91 3 [iv (nI i)] d_93_2 rfl mk_91 lk_3_152 mv_91 rfl rfl rfl rfl rfl _ (m_empty m v (nI i)) ?_
      intro r_2 h_2 q_2
      obtain ⟨q1, q2⟩ := q_2
      rw [e1] at q2
      subst q2
      rw [q1]
      show TT 93 5 [rv 3 (some 0), iv (nI i)] [iv (bI (some o).isNone)] h _ _ _
      refine r_if_eq 12 8 d_93_5 (by decide) rfl (fun c_5 => ?_) (fun c_5 => absurd rfl c_5)
      refine r_aload_n 13 d_93_12 rfl rfl ?_
      refine r_getR 16 3 4 6 (some 4) d_93_13 rfl fk_3_22 rfl (by decide) (MT.f4 m.mt) ?_
      refine r_aload_n 17 d_93_16 rfl rfl ?_
      refine r_getR 20 3 7 6 (some 7) d_93_17 rfl fk_3_31 rfl (by decide) (MT.f7 m.mt) ?_
      refine r_iload_n 21 d_93_20 rfl rfl ?_
      refine r_iald 22 i (nI (sg o)) d_93_21 rfl rfl (MT.l6_7 m.mt hi) ((m.ro hi).trans (by rw [e4]; rfl)) ?_
      refine r_iald 23 (sg o) (nI (hm S o)) d_93_22 rfl rfl (MT.l6_4 m.mt hs) (m.hm hoa) ?_
      refine r_ireturn d_93_23 rfl ?_
      exact ⟨rfl, rfl⟩
theorem m_offset {h : AH} {S : SS} {sg : Nat → Nat} (m : RM h S sg) (v : IV S) (a : Int32) : TT 94 0 [rv 3 (some 0), iv a] [] h 0 0 (fun x h' => h' = h ∧ x = some (iv (obA S (so S) a))) := by
  cases e1 : hel S a with
  | none =>
    have e0 : obA S (so S) a = -1 := by unfold obA; rw [e1]
    rw [e0]
    refine r_aload_n 1 d_94_0 rfl rfl ?_
    refine r_iload_n 2 d_94_1 rfl rfl ?_
    refine r_callV (k1 := 0) (n1 := 0) (k := 0) (n := 0) 5 91 3 [iv a] d_94_2 rfl mk_91 lk_3_152 mv_91 rfl rfl rfl rfl rfl _ (m_empty m v a) ?_
    intro r_2 h_2 q_2
    obtain ⟨q1, q2⟩ := q_2
    rw [e1] at q2
    subst q2
    rw [q1]
    show TT 94 5 [rv 3 (some 0), iv a] [iv (bI (none : Option Nat).isNone)] h _ _ _
    refine r_if_eq 12 8 d_94_5 (by decide) rfl (fun c_5 => absurd c_5 bI_t0) (fun c_5 => ?_)
    refine r_iconst 9 (-1) d_94_8 rfl (by decide) ?_
    refine r_goto 23 d_94_9 (by decide) ?_
    refine r_ireturn d_94_23 rfl ?_
    exact ⟨rfl, rfl⟩
  | some o =>
    have e0 : obA S (so S) a = nI (so S o) := by unfold obA; rw [e1]
    rw [e0]
    have hoa := hel_mem v.cl e1
    have hs := m.lt hoa
    have e2 := e1
    unfold hel at e2
    cases e3 : ix 6 a with
    | none => rw [e3] at e2; cases e2
    | some i =>
      rw [e3] at e2
      have e4 : ro S i = some o := e2
      obtain ⟨hi, rfl⟩ := ix_some (by decide) e3
      refine r_aload_n 1 d_94_0 rfl rfl ?_
      refine r_iload_n 2 d_94_1 rfl rfl ?_
      refine r_callV (k1 := 0) (n1 := 0) (k := 0) (n := 0) 5 91 3 [iv (nI i)] d_94_2 rfl mk_91 lk_3_152 mv_91 rfl rfl rfl rfl rfl _ (m_empty m v (nI i)) ?_
      intro r_2 h_2 q_2
      obtain ⟨q1, q2⟩ := q_2
      rw [e1] at q2
      subst q2
      rw [q1]
      show TT 94 5 [rv 3 (some 0), iv (nI i)] [iv (bI (some o).isNone)] h _ _ _
      refine r_if_eq 12 8 d_94_5 (by decide) rfl (fun c_5 => ?_) (fun c_5 => absurd rfl c_5)
      refine r_aload_n 13 d_94_12 rfl rfl ?_
      refine r_getR 16 3 5 6 (some 5) d_94_13 rfl fk_3_25 rfl (by decide) (MT.f5 m.mt) ?_
      refine r_aload_n 17 d_94_16 rfl rfl ?_
      refine r_getR 20 3 7 6 (some 7) d_94_17 rfl fk_3_31 rfl (by decide) (MT.f7 m.mt) ?_
      refine r_iload_n 21 d_94_20 rfl rfl ?_
      refine r_iald 22 i (nI (sg o)) d_94_21 rfl rfl (MT.l6_7 m.mt hi) ((m.ro hi).trans (by rw [e4]; rfl)) ?_
      refine r_iald 23 (sg o) (nI (so S o)) d_94_22 rfl rfl (MT.l6_5 m.mt hs) (m.so hoa) ?_
      refine r_ireturn d_94_23 rfl ?_
      exact ⟨rfl, rfl⟩
theorem m_size {h : AH} {S : SS} {sg : Nat → Nat} (m : RM h S sg) (v : IV S) (a : Int32) : TT 95 0 [rv 3 (some 0), iv a] [] h 0 0 (fun x h' => h' = h ∧ x = some (iv (obA S (wd S) a))) := by
  cases e1 : hel S a with
  | none =>
    have e0 : obA S (wd S) a = -1 := by unfold obA; rw [e1]
    rw [e0]
    refine r_aload_n 1 d_95_0 rfl rfl ?_
    refine r_iload_n 2 d_95_1 rfl rfl ?_
    refine r_callV (k1 := 0) (n1 := 0) (k := 0) (n := 0) 5 91 3 [iv a] d_95_2 rfl mk_91 lk_3_152 mv_91 rfl rfl rfl rfl rfl _ (m_empty m v a) ?_
    intro r_2 h_2 q_2
    obtain ⟨q1, q2⟩ := q_2
    rw [e1] at q2
    subst q2
    rw [q1]
    show TT 95 5 [rv 3 (some 0), iv a] [iv (bI (none : Option Nat).isNone)] h _ _ _
    refine r_if_eq 12 8 d_95_5 (by decide) rfl (fun c_5 => absurd c_5 bI_t0) (fun c_5 => ?_)
    refine r_iconst 9 (-1) d_95_8 rfl (by decide) ?_
    refine r_goto 23 d_95_9 (by decide) ?_
    refine r_ireturn d_95_23 rfl ?_
    exact ⟨rfl, rfl⟩
  | some o =>
    have e0 : obA S (wd S) a = nI (wd S o) := by unfold obA; rw [e1]
    rw [e0]
    have hoa := hel_mem v.cl e1
    have hs := m.lt hoa
    have e2 := e1
    unfold hel at e2
    cases e3 : ix 6 a with
    | none => rw [e3] at e2; cases e2
    | some i =>
      rw [e3] at e2
      have e4 : ro S i = some o := e2
      obtain ⟨hi, rfl⟩ := ix_some (by decide) e3
      refine r_aload_n 1 d_95_0 rfl rfl ?_
      refine r_iload_n 2 d_95_1 rfl rfl ?_
      refine r_callV (k1 := 0) (n1 := 0) (k := 0) (n := 0) 5 91 3 [iv (nI i)] d_95_2 rfl mk_91 lk_3_152 mv_91 rfl rfl rfl rfl rfl _ (m_empty m v (nI i)) ?_
      intro r_2 h_2 q_2
      obtain ⟨q1, q2⟩ := q_2
      rw [e1] at q2
      subst q2
      rw [q1]
      show TT 95 5 [rv 3 (some 0), iv (nI i)] [iv (bI (some o).isNone)] h _ _ _
      refine r_if_eq 12 8 d_95_5 (by decide) rfl (fun c_5 => ?_) (fun c_5 => absurd rfl c_5)
      refine r_aload_n 13 d_95_12 rfl rfl ?_
      refine r_getR 16 3 1 6 (some 1) d_95_13 rfl fk_3_13 rfl (by decide) (MT.f1 m.mt) ?_
      refine r_aload_n 17 d_95_16 rfl rfl ?_
      refine r_getR 20 3 7 6 (some 7) d_95_17 rfl fk_3_31 rfl (by decide) (MT.f7 m.mt) ?_
      refine r_iload_n 21 d_95_20 rfl rfl ?_
      refine r_iald 22 i (nI (sg o)) d_95_21 rfl rfl (MT.l6_7 m.mt hi) ((m.ro hi).trans (by rw [e4]; rfl)) ?_
      refine r_iald 23 (sg o) (nI (wd S o)) d_95_22 rfl rfl (MT.l6_1 m.mt hs) (m.wd hoa) ?_
      refine r_ireturn d_95_23 rfl ?_
      exact ⟨rfl, rfl⟩
theorem m_kind {h : AH} {S : SS} {sg : Nat → Nat} (m : RM h S sg) (a : Int32) : TT 96 0 [rv 3 (some 0), iv a] [] h 0 0 (fun x h' => h' = h ∧ x = some (iv (reA (fun r => nI (kd S r)) a))) := by
  cases e1 : ix 12 a with
  | none =>
    have e0 : reA (fun r => nI (kd S r)) a = -1 := by unfold reA; rw [e1]
    rw [e0]
    refine r_aload_n 1 d_96_0 rfl rfl ?_
    refine r_iload_n 2 d_96_1 rfl rfl ?_
    refine r_callV (k1 := 0) (n1 := 0) (k := 0) (n := 0) 5 63 3 [iv a] d_96_2 rfl mk_63 lk_3_155 mv_63 rfl rfl rfl rfl rfl _ (m_noRegion h a) ?_
    intro r_2 h_2 q_2
    obtain ⟨q1, q2⟩ := q_2
    rw [e1] at q2
    subst q2
    rw [q1]
    show TT 96 5 [rv 3 (some 0), iv a] [iv (bI (none : Option Nat).isNone)] h _ _ _
    refine r_if_eq 12 8 d_96_5 (by decide) rfl (fun c_5 => absurd c_5 bI_t0) (fun c_5 => ?_)
    refine r_iconst 9 (-1) d_96_8 rfl (by decide) ?_
    refine r_goto 18 d_96_9 (by decide) ?_
    refine r_ireturn d_96_18 rfl ?_
    exact ⟨rfl, rfl⟩
  | some r =>
    obtain ⟨hr, rfl⟩ := ix_some (by decide) e1
    have e0 : reA (fun r => nI (kd S r)) (nI r) = nI (kd S r) := by unfold reA; rw [e1]
    rw [e0]
    refine r_aload_n 1 d_96_0 rfl rfl ?_
    refine r_iload_n 2 d_96_1 rfl rfl ?_
    refine r_callV (k1 := 0) (n1 := 0) (k := 0) (n := 0) 5 63 3 [iv (nI r)] d_96_2 rfl mk_63 lk_3_155 mv_63 rfl rfl rfl rfl rfl _ (m_noRegion h (nI r)) ?_
    intro r_2 h_2 q_2
    obtain ⟨q1, q2⟩ := q_2
    rw [e1] at q2
    subst q2
    rw [q1]
    show TT 96 5 [rv 3 (some 0), iv (nI r)] [iv (bI (some r).isNone)] h _ _ _
    refine r_if_eq 12 8 d_96_5 (by decide) rfl (fun c_5 => ?_) (fun c_5 => absurd rfl c_5)
    refine r_aload_n 13 d_96_12 rfl rfl ?_
    refine r_getR 16 3 8 6 (some 8) d_96_13 rfl fk_3_34 rfl (by decide) (MT.f8 m.mt) ?_
    refine r_iload_n 17 d_96_16 rfl rfl ?_
    refine r_iald 18 r (nI (kd S r)) d_96_17 rfl rfl (MT.l6_8 m.mt hr) (m.kd hr) ?_
    refine r_ireturn d_96_18 rfl ?_
    exact ⟨rfl, rfl⟩
theorem m_used {h : AH} {S : SS} {sg : Nat → Nat} (m : RM h S sg) (a : Int32) : TT 97 0 [rv 3 (some 0), iv a] [] h 0 0 (fun x h' => h' = h ∧ x = some (iv (reA (fun r => nI (us S r)) a))) := by
  cases e1 : ix 12 a with
  | none =>
    have e0 : reA (fun r => nI (us S r)) a = -1 := by unfold reA; rw [e1]
    rw [e0]
    refine r_aload_n 1 d_97_0 rfl rfl ?_
    refine r_iload_n 2 d_97_1 rfl rfl ?_
    refine r_callV (k1 := 0) (n1 := 0) (k := 0) (n := 0) 5 63 3 [iv a] d_97_2 rfl mk_63 lk_3_155 mv_63 rfl rfl rfl rfl rfl _ (m_noRegion h a) ?_
    intro r_2 h_2 q_2
    obtain ⟨q1, q2⟩ := q_2
    rw [e1] at q2
    subst q2
    rw [q1]
    show TT 97 5 [rv 3 (some 0), iv a] [iv (bI (none : Option Nat).isNone)] h _ _ _
    refine r_if_eq 12 8 d_97_5 (by decide) rfl (fun c_5 => absurd c_5 bI_t0) (fun c_5 => ?_)
    refine r_iconst 9 (-1) d_97_8 rfl (by decide) ?_
    refine r_goto 18 d_97_9 (by decide) ?_
    refine r_ireturn d_97_18 rfl ?_
    exact ⟨rfl, rfl⟩
  | some r =>
    obtain ⟨hr, rfl⟩ := ix_some (by decide) e1
    have e0 : reA (fun r => nI (us S r)) (nI r) = nI (us S r) := by unfold reA; rw [e1]
    rw [e0]
    refine r_aload_n 1 d_97_0 rfl rfl ?_
    refine r_iload_n 2 d_97_1 rfl rfl ?_
    refine r_callV (k1 := 0) (n1 := 0) (k := 0) (n := 0) 5 63 3 [iv (nI r)] d_97_2 rfl mk_63 lk_3_155 mv_63 rfl rfl rfl rfl rfl _ (m_noRegion h (nI r)) ?_
    intro r_2 h_2 q_2
    obtain ⟨q1, q2⟩ := q_2
    rw [e1] at q2
    subst q2
    rw [q1]
    show TT 97 5 [rv 3 (some 0), iv (nI r)] [iv (bI (some r).isNone)] h _ _ _
    refine r_if_eq 12 8 d_97_5 (by decide) rfl (fun c_5 => ?_) (fun c_5 => absurd rfl c_5)
    refine r_aload_n 13 d_97_12 rfl rfl ?_
    refine r_getR 16 3 9 6 (some 9) d_97_13 rfl fk_3_37 rfl (by decide) (MT.f9 m.mt) ?_
    refine r_iload_n 17 d_97_16 rfl rfl ?_
    refine r_iald 18 r (nI (us S r)) d_97_17 rfl rfl (MT.l6_9 m.mt hr) (m.us hr) ?_
    refine r_ireturn d_97_18 rfl ?_
    exact ⟨rfl, rfl⟩
theorem m_live {h : AH} {S : SS} {sg : Nat → Nat} (m : RM h S sg) (a : Int32) : TT 98 0 [rv 3 (some 0), iv a] [] h 0 0 (fun x h' => h' = h ∧ x = some (iv (reA (fun r => ol (lw S r)) a))) := by
  cases e1 : ix 12 a with
  | none =>
    have e0 : reA (fun r => ol (lw S r)) a = -1 := by unfold reA; rw [e1]
    rw [e0]
    refine r_aload_n 1 d_98_0 rfl rfl ?_
    refine r_iload_n 2 d_98_1 rfl rfl ?_
    refine r_callV (k1 := 0) (n1 := 0) (k := 0) (n := 0) 5 63 3 [iv a] d_98_2 rfl mk_63 lk_3_155 mv_63 rfl rfl rfl rfl rfl _ (m_noRegion h a) ?_
    intro r_2 h_2 q_2
    obtain ⟨q1, q2⟩ := q_2
    rw [e1] at q2
    subst q2
    rw [q1]
    show TT 98 5 [rv 3 (some 0), iv a] [iv (bI (none : Option Nat).isNone)] h _ _ _
    refine r_if_eq 12 8 d_98_5 (by decide) rfl (fun c_5 => absurd c_5 bI_t0) (fun c_5 => ?_)
    refine r_iconst 9 (-1) d_98_8 rfl (by decide) ?_
    refine r_goto 18 d_98_9 (by decide) ?_
    refine r_ireturn d_98_18 rfl ?_
    exact ⟨rfl, rfl⟩
  | some r =>
    obtain ⟨hr, rfl⟩ := ix_some (by decide) e1
    have e0 : reA (fun r => ol (lw S r)) (nI r) = ol (lw S r) := by unfold reA; rw [e1]
    rw [e0]
    refine r_aload_n 1 d_98_0 rfl rfl ?_
    refine r_iload_n 2 d_98_1 rfl rfl ?_
    refine r_callV (k1 := 0) (n1 := 0) (k := 0) (n := 0) 5 63 3 [iv (nI r)] d_98_2 rfl mk_63 lk_3_155 mv_63 rfl rfl rfl rfl rfl _ (m_noRegion h (nI r)) ?_
    intro r_2 h_2 q_2
    obtain ⟨q1, q2⟩ := q_2
    rw [e1] at q2
    subst q2
    rw [q1]
    show TT 98 5 [rv 3 (some 0), iv (nI r)] [iv (bI (some r).isNone)] h _ _ _
    refine r_if_eq 12 8 d_98_5 (by decide) rfl (fun c_5 => ?_) (fun c_5 => absurd rfl c_5)
    refine r_aload_n 13 d_98_12 rfl rfl ?_
    refine r_getR 16 3 10 6 (some 10) d_98_13 rfl fk_3_40 rfl (by decide) (MT.f10 m.mt) ?_
    refine r_iload_n 17 d_98_16 rfl rfl ?_
    refine r_iald 18 r (ol (lw S r)) d_98_17 rfl rfl (MT.l6_10 m.mt hr) (m.lw hr) ?_
    refine r_ireturn d_98_18 rfl ?_
    exact ⟨rfl, rfl⟩
theorem m_count {h : AH} {S : SS} {sg : Nat → Nat} (m : RM h S sg) (a : Int32) : TT 100 0 [rv 3 (some 0), iv a] [] h 0 0 (fun x h' => h' = h ∧ x = some (iv (coA S a))) := by
  cases e1 : ix 4 a with
  | none =>
    have e0 : coA S a = -1 := by unfold coA; rw [e1]
    rw [e0]
    refine r_iload_n 1 d_100_0 rfl rfl ?_
    refine r_if_lt 9 4 d_100_1 (by decide) rfl (fun c_1 => ?_) (fun c_1 => ?_)
    · skip
      refine r_iconst 10 (-1) d_100_9 rfl (by decide) ?_
      refine r_goto 19 d_100_10 (by decide) ?_
      refine r_ireturn d_100_19 rfl ?_
      exact ⟨rfl, rfl⟩
    · skip
      refine r_iload_n 5 d_100_4 rfl rfl ?_
      refine r_iconst 6 (nI 3) d_100_5 rfl (by decide) ?_
      refine r_icmp_le 13 9 d_100_6 (by decide) rfl (fun c_6 => ?_) (fun c_6 => ?_)
      · skip
        exfalso
        obtain ⟨j, -, -, hj⟩ := ix_in (n := 4) (a := a) (by decide) c_1 (fun z => absurd c_6 (Int32.not_le.mpr (lt_of_le4 z)))
        rw [hj] at e1
        cases e1
      · skip
        refine r_iconst 10 (-1) d_100_9 rfl (by decide) ?_
        refine r_goto 19 d_100_10 (by decide) ?_
        refine r_ireturn d_100_19 rfl ?_
        exact ⟨rfl, rfl⟩
  | some k =>
    obtain ⟨hk, rfl⟩ := ix_some (by decide) e1
    have e0 : coA S (nI k) = nI (ct S k) := by unfold coA; rw [e1]
    rw [e0]
    refine r_iload_n 1 d_100_0 rfl rfl ?_
    refine r_if_lt 9 4 d_100_1 (by decide) rfl (fun c_1 => absurd c_1 (nI_pos (by omega))) (fun c_1 => ?_)
    refine r_iload_n 5 d_100_4 rfl rfl ?_
    refine r_iconst 6 (nI 3) d_100_5 rfl (by decide) ?_
    refine r_icmp_le 13 9 d_100_6 (by decide) rfl (fun c_6 => ?_) (fun c_6 => absurd (nI_le (by omega) (by decide)) c_6)
    refine r_aload_n 14 d_100_13 rfl rfl ?_
    refine r_getR 17 3 12 6 (some 11) d_100_14 rfl fk_3_47 rfl (by decide) (MT.f12 m.mt) ?_
    refine r_iload_n 18 d_100_17 rfl rfl ?_
    refine r_iald 19 k (nI (ct S k)) d_100_18 rfl rfl (MT.l6_11 m.mt hk) (m.ct hk) ?_
    refine r_ireturn d_100_19 rfl ?_
    exact ⟨rfl, rfl⟩
