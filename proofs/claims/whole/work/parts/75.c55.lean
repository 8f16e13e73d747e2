/-! contracts of the reference: roots and fields -/
def noF (S : SS) (a b : Int32) : Bool := match hel S a with
  | none => true
  | some o => (ix (fd S o).length b).isNone
theorem hel_some {S : SS} {a : Int32} {o : Nat} (h : hel S a = some o) : ∃ i, i < 6 ∧ a = nI i ∧ ix 6 a = some i ∧ ro S i = some o := by
  unfold hel at h
  cases e : ix 6 a with
  | none => rw [e] at h; cases h
  | some i =>
    rw [e] at h
    obtain ⟨h1, h2⟩ := ix_some (by decide) e
    exact ⟨i, h1, h2, rfl, h⟩
theorem m_noField {h : AH} {S : SS} {sg : Nat → Nat} (m : RM h S sg) (v : IV S) (a b : Int32) : TT 87 0 [rv 3 (some 0), iv a, iv b] [] h 0 0 (fun x h' => h' = h ∧ x = some (iv (bI (noF S a b)))) := by
  cases e1 : ix 6 a with
  | none =>
    have e0 : noF S a b = true := by unfold noF hel; rw [e1]; rfl
    rw [e0]
    refine r_aload_n 1 d_87_0 rfl rfl ?_
    refine r_iload_n 2 d_87_1 rfl rfl ?_
    refine r_callV (k1 := 0) (n1 := 0) (k := 0) (n := 0) 5 62 3 [iv a] d_87_2 rfl mk_62 lk_3_132 mv_62 rfl rfl rfl rfl rfl _ (m_noRoot h a) ?_
    intro r_2 h_2 q_2
    obtain ⟨q1, q2⟩ := q_2
    rw [e1] at q2
    subst q2
    rw [q1]
    show TT 87 5 [rv 3 (some 0), iv a, iv b] [iv (bI true)] h _ _ _
    refine r_if_ne 36 8 d_87_5 (by decide) rfl (fun c_5 => ?_) (fun c_5 => absurd c_5 bI_t0)
    refine r_iconst 37 (nI 1) d_87_36 rfl (by decide) ?_
    refine r_goto 41 d_87_37 (by decide) ?_
    refine r_zreturn d_87_41 rfl rfl ?_
    exact ⟨rfl, rfl⟩
  | some i =>
    obtain ⟨hi, rfl⟩ := ix_some (by decide) e1
    have hro := m.ro hi
    cases e2 : ro S i with
    | none =>
      have e0 : noF S (nI i) b = true := by unfold noF hel; rw [e1]; show (match ro S i with | none => true | some o => _) = true; rw [e2]
      rw [e0]
      rw [e2] at hro
      refine r_aload_n 1 d_87_0 rfl rfl ?_
      refine r_iload_n 2 d_87_1 rfl rfl ?_
      refine r_callV (k1 := 0) (n1 := 0) (k := 0) (n := 0) 5 62 3 [iv (nI i)] d_87_2 rfl mk_62 lk_3_132 mv_62 rfl rfl rfl rfl rfl _ (m_noRoot h (nI i)) ?_
      intro r_2 h_2 q_2
      obtain ⟨q1, q2⟩ := q_2
      rw [e1] at q2
      subst q2
      rw [q1]
      show TT 87 5 [rv 3 (some 0), iv (nI i), iv b] [iv (bI false)] h _ _ _
      refine r_if_ne 36 8 d_87_5 (by decide) rfl (fun c_5 => absurd c_5 (fun z => z rfl)) (fun c_5 => ?_)
      refine r_aload_n 9 d_87_8 rfl rfl ?_
      refine r_getR 12 3 7 6 (some 7) d_87_9 rfl fk_3_31 rfl (by decide) (MT.f7 m.mt) ?_
      refine r_iload_n 13 d_87_12 rfl rfl ?_
      refine r_iald 14 i (-1) d_87_13 rfl rfl (MT.l6_7 m.mt hi) hro ?_
      refine r_if_lt 36 17 d_87_14 (by decide) rfl (fun c_14 => ?_) (fun c_14 => absurd (by decide) c_14)
      refine r_iconst 37 (nI 1) d_87_36 rfl (by decide) ?_
      refine r_goto 41 d_87_37 (by decide) ?_
      refine r_zreturn d_87_41 rfl rfl ?_
      exact ⟨rfl, rfl⟩
    | some o =>
      have hoa : o ∈ all S := v.2.2.1 i o hi e2
      have hso := m.lt hoa
      have hl3 := (v.2.2.2.2.1 o (v.2.2.2.2.2.1 o hoa)).2.2
      have e0 : noF S (nI i) b = (ix (fd S o).length b).isNone := by unfold noF hel; rw [e1]; show (match ro S i with | none => true | some o => _) = _; rw [e2]
      rw [e0]
      rw [e2] at hro
      have hro : hI h 6 7 i = nI (sg o) := hro
      refine r_aload_n 1 d_87_0 rfl rfl ?_
      refine r_iload_n 2 d_87_1 rfl rfl ?_
      refine r_callV (k1 := 0) (n1 := 0) (k := 0) (n := 0) 5 62 3 [iv (nI i)] d_87_2 rfl mk_62 lk_3_132 mv_62 rfl rfl rfl rfl rfl _ (m_noRoot h (nI i)) ?_
      intro r_2 h_2 q_2
      obtain ⟨q1, q2⟩ := q_2
      rw [e1] at q2
      subst q2
      rw [q1]
      show TT 87 5 [rv 3 (some 0), iv (nI i), iv b] [iv (bI false)] h _ _ _
      refine r_if_ne 36 8 d_87_5 (by decide) rfl (fun c_5 => absurd c_5 (fun z => z rfl)) (fun c_5 => ?_)
      refine r_aload_n 9 d_87_8 rfl rfl ?_
      refine r_getR 12 3 7 6 (some 7) d_87_9 rfl fk_3_31 rfl (by decide) (MT.f7 m.mt) ?_
      refine r_iload_n 13 d_87_12 rfl rfl ?_
      refine r_iald 14 i (nI (sg o)) d_87_13 rfl rfl (MT.l6_7 m.mt hi) hro ?_
      refine r_if_lt 36 17 d_87_14 (by decide) rfl (fun c_14 => absurd c_14 (nI_pos (by omega))) (fun c_14 => ?_)
      refine r_iload_n 18 d_87_17 rfl rfl ?_
      refine r_if_lt 36 21 d_87_18 (by decide) rfl (fun c_18 => ?_) (fun c_18 => ?_)
      · skip
        refine r_iconst 37 (nI 1) d_87_36 rfl (by decide) ?_
        refine r_goto 41 d_87_37 (by decide) ?_
        refine r_zreturn d_87_41 rfl rfl ?_
        refine ⟨rfl, ?_⟩
        first
        | (rw [ix_lt c_18]; rfl)
        | (rw [ix_ge (Int32.not_lt.mp c_33)]; rfl)
        | (obtain ⟨j, -, -, hj⟩ := ix_in (n := (fd S o).length) (a := b) (by omega) c_18 (fun z => Int32.not_le.mpr c_33 z)
           rw [hj]
           rfl)
      · skip
        refine r_iload_n 22 d_87_21 rfl rfl ?_
        refine r_aload_n 23 d_87_22 rfl rfl ?_
        refine r_getR 26 3 2 6 (some 2) d_87_23 rfl fk_3_16 rfl (by decide) (MT.f2 m.mt) ?_
        refine r_aload_n 27 d_87_26 rfl rfl ?_
        refine r_getR 30 3 7 6 (some 7) d_87_27 rfl fk_3_31 rfl (by decide) (MT.f7 m.mt) ?_
        refine r_iload_n 31 d_87_30 rfl rfl ?_
        refine r_iald 32 i (nI (sg o)) d_87_31 rfl rfl (MT.l6_7 m.mt hi) hro ?_
        refine r_iald 33 (sg o) (nI (fd S o).length) d_87_32 rfl rfl (MT.l6_2 m.mt hso) (m.fl hoa) ?_
        refine r_icmp_lt 40 36 d_87_33 (by decide) rfl (fun c_33 => ?_) (fun c_33 => ?_)
        · skip
          refine r_iconst 41 (nI 0) d_87_40 rfl (by decide) ?_
          refine r_zreturn d_87_41 rfl rfl ?_
          refine ⟨rfl, ?_⟩
          first
          | (rw [ix_lt c_18]; rfl)
          | (rw [ix_ge (Int32.not_lt.mp c_33)]; rfl)
          | (obtain ⟨j, -, -, hj⟩ := ix_in (n := (fd S o).length) (a := b) (by omega) c_18 (fun z => Int32.not_le.mpr c_33 z)
             rw [hj]
             rfl)
        · skip
          refine r_iconst 37 (nI 1) d_87_36 rfl (by decide) ?_
          refine r_goto 41 d_87_37 (by decide) ?_
          refine r_zreturn d_87_41 rfl rfl ?_
          refine ⟨rfl, ?_⟩
          first
          | (rw [ix_lt c_18]; rfl)
          | (rw [ix_ge (Int32.not_lt.mp c_33)]; rfl)
          | (obtain ⟨j, -, -, hj⟩ := ix_in (n := (fd S o).length) (a := b) (by omega) c_18 (fun z => Int32.not_le.mpr c_33 z)
             rw [hj]
             rfl)
theorem rx_fd {h : AH} {S : SS} {sg : Nat → Nat} (m : RM h S sg) (v : IV S) {o f : Nat} (ho : o ∈ all S) (hf : f < (fd S o).length) (x : Option Nat) : RM (sI h 6 3 (3 * sg o + f) (ol (x.map sg))) (fdS S o f x) sg := by
  have hl : ∀ o, o ∈ all S → (fd S o).length ≤ 3 := fun o ho => (v.2.2.2.2.1 o (v.2.2.2.2.2.1 o ho)).2.2
  have hlo := hl o ho
  refine ⟨m.mt, fun r hr => ⟨(w6n (by decide)).trans (m.kd hr), (w6n (by decide)).trans (m.us hr), (w6n (by decide)).trans (m.lw hr)⟩, fun o' ho' => ?_, fun o' ho' => ⟨ho', (w6n (by decide)).trans (m.hm ho'), (w6n (by decide)).trans (m.so ho'), (w6n (by decide)).trans (m.at ho')⟩, m.2.2.2.2.1, fun j hj hn _ => (w6n (by decide)).trans (m.fr hj hn), fun w hw hn => (w6n (by decide)).trans (m.an hw hn), fun k hk => (w6n (by decide)).trans (m.ro hk), (wS (by decide)).trans m.cu, fun k hk => (w6n (by decide)).trans (m.ct hk)⟩
  have ho' : o' ∈ all S := ho'
  have hlo' := hl o' ho'
  refine ⟨m.lt ho', (w6n (by decide)).trans (m.no ho'), (w6n (by decide)).trans (m.wd ho'), (w6n (by decide)).trans ?_, fun g u hg => ?_⟩
  · show hI h 6 2 (sg o') = nI (va_up (fd S) o ((fd S o).set f x) o').length
    by_cases e : o' = o
    · subst e
      rw [va_up_self, List.length_set]; exact m.fl ho'
    · rw [va_up_ne _ _ e]; exact m.fl ho'
  · have hg' : (va_up (fd S) o ((fd S o).set f x) o')[g]? = some u := hg
    rw [wA]
    by_cases e : o' = o
    · subst e
      rw [va_up_self] at hg'
      by_cases e2 : g = f
      · subst e2
        rw [if_pos rfl]
        rw [List.getElem?_set] at hg'
        simp only [if_true] at hg'
        split at hg'
        · cases hg'; rfl
        · exact absurd hf (by assumption)
      · rw [List.getElem?_set_ne (Ne.symm e2)] at hg'
        rw [if_neg (by omega)]
        exact m.fd ho' hg'
    · rw [va_up_ne _ _ e] at hg'
      have hg3 := (List.getElem?_eq_some_iff.mp hg').1
      have hne : sg o' ≠ sg o := fun z => e (m.inj ho' ho z)
      rw [if_neg (by omega)]
      exact m.fd ho' hg'
theorem m_link {h : AH} {S : SS} {sg : Nat → Nat} (m : RM h S sg) (v : IV S) (a b d : Int32) : TT 88 0 [rv 3 (some 0), iv a, iv b, iv d] [] h 0 0 (fun x h' => x = some (iv (bI (lkO S a b d).isSome)) ∧ RM h' (lkS S a b d) sg ∧ MF h h') := by
  have bad : noF S a b = true → lkO S a b d = none → TT 88 0 [rv 3 (some 0), iv a, iv b, iv d] [] h 0 0 (fun x h' => x = some (iv (bI (lkO S a b d).isSome)) ∧ RM h' (lkS S a b d) sg ∧ MF h h') := by
    intro e1 e0
    have e9 : lkS S a b d = S := by unfold lkS; rw [e0]
    rw [e9, e0]
    refine r_aload_n 1 d_88_0 rfl rfl ?_
    refine r_iload_n 2 d_88_1 rfl rfl ?_
    refine r_iload_n 3 d_88_2 rfl rfl ?_
    refine r_callV (k1 := 0) (n1 := 0) (k := 0) (n := 0) 6 87 3 [iv a, iv b] d_88_3 rfl mk_87 lk_3_149 mv_87 rfl rfl rfl rfl rfl _ (m_noField m v a b) ?_
    intro r_3 h_3 q_3
    obtain ⟨q1, q2⟩ := q_3
    rw [e1] at q2
    subst q2
    rw [q1]
    show TT 88 6 [rv 3 (some 0), iv a, iv b, iv d] [iv (bI true)] h _ _ _
    refine r_if_ne 22 9 d_88_6 (by decide) rfl (fun c_6 => ?_) (fun c_6 => absurd c_6 bI_t0)
    refine r_iconst 23 (nI 0) d_88_22 rfl (by decide) ?_
    refine r_zreturn d_88_23 rfl rfl ?_
    exact ⟨rfl, m, MF.rf h⟩
  cases e1 : hel S a with
  | none => exact bad (by unfold noF; rw [e1]) (by unfold lkO; rw [e1])
  | some o =>
    cases e2 : ix (fd S o).length b with
    | none => exact bad (by unfold noF; rw [e1]; show (ix (fd S o).length b).isNone = true; rw [e2]; rfl) (by unfold lkO; rw [e1]; show (match ix (fd S o).length b with | none => none | some f => _) = _; rw [e2])
    | some f =>
      have hoa := hel_mem v.cl e1
      have hso := m.lt hoa
      have hl3 := (v.2.2.2.2.1 o (v.2.2.2.2.2.1 o hoa)).2.2
      obtain ⟨hf, rfl⟩ := ix_some (by omega) e2
      obtain ⟨i, hi, rfl, e3, e4⟩ := hel_some e1
      have hro : hI h 6 7 i = nI (sg o) := (m.ro hi).trans (by rw [e4]; rfl)
      have enf : noF S (nI i) (nI f) = false := by unfold noF; rw [e1]; show (ix (fd S o).length (nI f)).isNone = false; rw [e2]; rfl
      have eo : lkO S (nI i) (nI f) d = if (decide (d = -1) || (ix 6 d).isSome) = true then some (o, f) else none := by
        unfold lkO; rw [e1]; show (match ix (fd S o).length (nI f) with | none => none | some f => _) = _; rw [e2]
      have hix : 3 * sg o + f < 291 := by omega
      by_cases ed : d = -1
      · have e0 : lkO S (nI i) (nI f) d = some (o, f) := by rw [eo, decide_eq_true ed]; rfl
        have eh : hel S d = none := by rw [ed]; rfl
        have e9 : lkS S (nI i) (nI f) d = fdS S o f none := by unfold lkS; rw [e0, eh]
        rw [e9, e0]
        subst ed
        refine r_aload_n 1 d_88_0 rfl rfl ?_
        refine r_iload_n 2 d_88_1 rfl rfl ?_
        refine r_iload_n 3 d_88_2 rfl rfl ?_
        refine r_callV (k1 := 0) (n1 := 0) (k := 0) (n := 0) 6 87 3 [iv (nI i), iv (nI f)] d_88_3 rfl mk_87 lk_3_149 mv_87 rfl rfl rfl rfl rfl _ (m_noField m v (nI i) (nI f)) ?_
        intro r_3 h_3 q_3
        obtain ⟨q1, q2⟩ := q_3
        rw [enf] at q2
        subst q2
        rw [q1]
        show TT 88 6 [rv 3 (some 0), iv (nI i), iv (nI f), iv (-1)] [iv (bI false)] h _ _ _
        refine r_if_ne 22 9 d_88_6 (by decide) rfl (fun c_6 => absurd c_6 (fun z => z rfl)) (fun c_6 => ?_)
        refine r_iload_n 10 d_88_9 rfl rfl ?_
        refine r_iconst 11 (-1) d_88_10 rfl (by decide) ?_
        refine r_icmp_eq 24 14 d_88_11 (by decide) rfl (fun c_11 => ?_) (fun c_11 => absurd rfl c_11)
        refine r_aload_n 25 d_88_24 rfl rfl ?_
        refine r_getR 28 3 3 6 (some 3) d_88_25 rfl fk_3_19 rfl (by decide) (MT.f3 m.mt) ?_
        refine r_iconst 29 (nI 3) d_88_28 rfl (by decide) ?_
        refine r_aload_n 30 d_88_29 rfl rfl ?_
        refine r_getR 33 3 7 6 (some 7) d_88_30 rfl fk_3_31 rfl (by decide) (MT.f7 m.mt) ?_
        refine r_iload_n 34 d_88_33 rfl rfl ?_
        refine r_iald 35 i (nI (sg o)) d_88_34 rfl rfl (MT.l6_7 m.mt hi) hro ?_
        refine r_imul 36 (nI (3 * sg o)) d_88_35 rfl (pk_mul _ _) ?_
        refine r_iload_n 37 d_88_36 rfl rfl ?_
        refine r_iadd 38 (nI (3 * sg o + f)) d_88_37 rfl (nI_add _ _) ?_
        refine r_iload_n 39 d_88_38 rfl rfl ?_
        refine r_iconst 40 (-1) d_88_39 rfl (by decide) ?_
        refine r_icmp_ne 47 43 d_88_40 (by decide) rfl (fun c_40 => absurd c_40 (fun z => z rfl)) (fun c_40 => ?_)
        refine r_iconst 44 (-1) d_88_43 rfl (by decide) ?_
        refine r_goto 53 d_88_44 (by decide) ?_
        refine r_iast 54 (3 * sg o + f) d_88_53 rfl rfl (MT.l6_3 m.mt hix) ?_
        refine r_iconst 55 (nI 1) d_88_54 rfl (by decide) ?_
        refine r_zreturn d_88_55 rfl rfl ?_
        exact ⟨rfl, rx_fd m v hoa hf none, MF_sI (MF.rf h) rfl⟩
      · cases e5 : ix 6 d with
        | none =>
          have e0 : lkO S (nI i) (nI f) d = none := by rw [eo, decide_eq_false ed, e5]; rfl
          have e9 : lkS S (nI i) (nI f) d = S := by unfold lkS; rw [e0]
          rw [e9, e0]
          refine r_aload_n 1 d_88_0 rfl rfl ?_
          refine r_iload_n 2 d_88_1 rfl rfl ?_
          refine r_iload_n 3 d_88_2 rfl rfl ?_
          refine r_callV (k1 := 0) (n1 := 0) (k := 0) (n := 0) 6 87 3 [iv (nI i), iv (nI f)] d_88_3 rfl mk_87 lk_3_149 mv_87 rfl rfl rfl rfl rfl _ (m_noField m v (nI i) (nI f)) ?_
          intro r_3 h_3 q_3
          obtain ⟨q1, q2⟩ := q_3
          rw [enf] at q2
          subst q2
          rw [q1]
          show TT 88 6 [rv 3 (some 0), iv (nI i), iv (nI f), iv d] [iv (bI false)] h _ _ _
          refine r_if_ne 22 9 d_88_6 (by decide) rfl (fun c_6 => absurd c_6 (fun z => z rfl)) (fun c_6 => ?_)
          refine r_iload_n 10 d_88_9 rfl rfl ?_
          refine r_iconst 11 (-1) d_88_10 rfl (by decide) ?_
          refine r_icmp_eq 24 14 d_88_11 (by decide) rfl (fun c_11 => absurd c_11 ed) (fun c_11 => ?_)
          refine r_aload_n 15 d_88_14 rfl rfl ?_
          refine r_iload_n 16 d_88_15 rfl rfl ?_
          refine r_callV (k1 := 0) (n1 := 0) (k := 0) (n := 0) 19 62 3 [iv d] d_88_16 rfl mk_62 lk_3_132 mv_62 rfl rfl rfl rfl rfl _ (m_noRoot h d) ?_
          intro r_16 h_16 q_16
          obtain ⟨q3, q4⟩ := q_16
          rw [e5] at q4
          subst q4
          rw [q3]
          show TT 88 19 [rv 3 (some 0), iv (nI i), iv (nI f), iv d] [iv (bI true)] h _ _ _
          refine r_if_eq 24 22 d_88_19 (by decide) rfl (fun c_19 => absurd c_19 bI_t0) (fun c_19 => ?_)
          refine r_iconst 23 (nI 0) d_88_22 rfl (by decide) ?_
          refine r_zreturn d_88_23 rfl rfl ?_
          exact ⟨rfl, m, MF.rf h⟩
        | some q =>
          obtain ⟨hq, rfl⟩ := ix_some (by decide) e5
          have e0 : lkO S (nI i) (nI f) (nI q) = some (o, f) := by rw [eo, e5, Option.isSome_some, Bool.or_true]; rfl
          have eh : hel S (nI q) = ro S q := by unfold hel; rw [e5]; rfl
          have e9 : lkS S (nI i) (nI f) (nI q) = fdS S o f (ro S q) := by unfold lkS; rw [e0, eh]
          rw [e9, e0]
          refine r_aload_n 1 d_88_0 rfl rfl ?_
          refine r_iload_n 2 d_88_1 rfl rfl ?_
          refine r_iload_n 3 d_88_2 rfl rfl ?_
          refine r_callV (k1 := 0) (n1 := 0) (k := 0) (n := 0) 6 87 3 [iv (nI i), iv (nI f)] d_88_3 rfl mk_87 lk_3_149 mv_87 rfl rfl rfl rfl rfl _ (m_noField m v (nI i) (nI f)) ?_
          intro r_3 h_3 q_3
          obtain ⟨q1, q2⟩ := q_3
          rw [enf] at q2
          subst q2
          rw [q1]
          show TT 88 6 [rv 3 (some 0), iv (nI i), iv (nI f), iv (nI q)] [iv (bI false)] h _ _ _
          refine r_if_ne 22 9 d_88_6 (by decide) rfl (fun c_6 => absurd c_6 (fun z => z rfl)) (fun c_6 => ?_)
          refine r_iload_n 10 d_88_9 rfl rfl ?_
          refine r_iconst 11 (-1) d_88_10 rfl (by decide) ?_
          refine r_icmp_eq 24 14 d_88_11 (by decide) rfl (fun c_11 => absurd c_11 ed) (fun c_11 => ?_)
          refine r_aload_n 15 d_88_14 rfl rfl ?_
          refine r_iload_n 16 d_88_15 rfl rfl ?_
          refine r_callV (k1 := 0) (n1 := 0) (k := 0) (n := 0) 19 62 3 [iv (nI q)] d_88_16 rfl mk_62 lk_3_132 mv_62 rfl rfl rfl rfl rfl _ (m_noRoot h (nI q)) ?_
          intro r_16 h_16 q_16
          obtain ⟨q3, q4⟩ := q_16
          rw [e5] at q4
          subst q4
          rw [q3]
          show TT 88 19 [rv 3 (some 0), iv (nI i), iv (nI f), iv (nI q)] [iv (bI false)] h _ _ _
          refine r_if_eq 24 22 d_88_19 (by decide) rfl (fun c_19 => ?_) (fun c_19 => absurd rfl c_19)
          refine r_aload_n 25 d_88_24 rfl rfl ?_
          refine r_getR 28 3 3 6 (some 3) d_88_25 rfl fk_3_19 rfl (by decide) (MT.f3 m.mt) ?_
          refine r_iconst 29 (nI 3) d_88_28 rfl (by decide) ?_
          refine r_aload_n 30 d_88_29 rfl rfl ?_
          refine r_getR 33 3 7 6 (some 7) d_88_30 rfl fk_3_31 rfl (by decide) (MT.f7 m.mt) ?_
          refine r_iload_n 34 d_88_33 rfl rfl ?_
          refine r_iald 35 i (nI (sg o)) d_88_34 rfl rfl (MT.l6_7 m.mt hi) hro ?_
          refine r_imul 36 (nI (3 * sg o)) d_88_35 rfl (pk_mul _ _) ?_
          refine r_iload_n 37 d_88_36 rfl rfl ?_
          refine r_iadd 38 (nI (3 * sg o + f)) d_88_37 rfl (nI_add _ _) ?_
          refine r_iload_n 39 d_88_38 rfl rfl ?_
          refine r_iconst 40 (-1) d_88_39 rfl (by decide) ?_
          refine r_icmp_ne 47 43 d_88_40 (by decide) rfl (fun c_40 => ?_) (fun c_40 => absurd c_40 ed)
          refine r_aload_n 48 d_88_47 rfl rfl ?_
          refine r_getR 51 3 7 6 (some 7) d_88_48 rfl fk_3_31 rfl (by decide) (MT.f7 m.mt) ?_
          refine r_iload_n 52 d_88_51 rfl rfl ?_
          refine r_iald 53 q (ol ((ro S q).map sg)) d_88_52 rfl rfl (MT.l6_7 m.mt hq) (m.ro hq) ?_
          refine r_iast 54 (3 * sg o + f) d_88_53 rfl rfl (MT.l6_3 m.mt hix) ?_
          refine r_iconst 55 (nI 1) d_88_54 rfl (by decide) ?_
          refine r_zreturn d_88_55 rfl rfl ?_
          exact ⟨rfl, rx_fd m v hoa hf (ro S q), MF_sI (MF.rf h) rfl⟩
theorem m_load {h : AH} {S : SS} {sg : Nat → Nat} (m : RM h S sg) (v : IV S) (a b d : Int32) : TT 89 0 [rv 3 (some 0), iv a, iv b, iv d] [] h 0 0 (fun x h' => x = some (iv (bI (ldO S a b d).isSome)) ∧ RM h' (ldS S (ldO S a b d)) sg ∧ MF h h') := by
  cases e1 : ix 6 a with
  | none =>
    have e0 : ldO S a b d = none := by unfold ldO; rw [e1]
    rw [e0]
    refine r_aload_n 1 d_89_0 rfl rfl ?_
    refine r_iload_n 2 d_89_1 rfl rfl ?_
    refine r_callV (k1 := 0) (n1 := 0) (k := 0) (n := 0) 5 62 3 [iv a] d_89_2 rfl mk_62 lk_3_132 mv_62 rfl rfl rfl rfl rfl _ (m_noRoot h a) ?_
    intro r_2 h_2 q_2
    obtain ⟨q1, q2⟩ := q_2
    rw [e1] at q2
    subst q2
    rw [q1]
    show TT 89 5 [rv 3 (some 0), iv a, iv b, iv d] [iv (bI true)] h _ _ _
    refine r_if_ne 17 8 d_89_5 (by decide) rfl (fun c_5 => ?_) (fun c_5 => absurd c_5 bI_t0)
    refine r_iconst 18 (nI 0) d_89_17 rfl (by decide) ?_
    refine r_zreturn d_89_18 rfl rfl ?_
    exact ⟨rfl, m, MF.rf h⟩
  | some i =>
    obtain ⟨hi, rfl⟩ := ix_some (by decide) e1
    have bad : noF S b d = true → ldO S (nI i) b d = none → TT 89 0 [rv 3 (some 0), iv (nI i), iv b, iv d] [] h 0 0 (fun x h' => x = some (iv (bI (ldO S (nI i) b d).isSome)) ∧ RM h' (ldS S (ldO S (nI i) b d)) sg ∧ MF h h') := by
      intro e2 e0
      rw [e0]
      refine r_aload_n 1 d_89_0 rfl rfl ?_
      refine r_iload_n 2 d_89_1 rfl rfl ?_
      refine r_callV (k1 := 0) (n1 := 0) (k := 0) (n := 0) 5 62 3 [iv (nI i)] d_89_2 rfl mk_62 lk_3_132 mv_62 rfl rfl rfl rfl rfl _ (m_noRoot h (nI i)) ?_
      intro r_2 h_2 q_2
      obtain ⟨q1, q2⟩ := q_2
      rw [e1] at q2
      subst q2
      rw [q1]
      show TT 89 5 [rv 3 (some 0), iv (nI i), iv b, iv d] [iv (bI false)] h _ _ _
      refine r_if_ne 17 8 d_89_5 (by decide) rfl (fun c_5 => absurd c_5 (fun z => z rfl)) (fun c_5 => ?_)
      refine r_aload_n 9 d_89_8 rfl rfl ?_
      refine r_iload_n 10 d_89_9 rfl rfl ?_
      refine r_iload_n 11 d_89_10 rfl rfl ?_
      refine r_callV (k1 := 0) (n1 := 0) (k := 0) (n := 0) 14 87 3 [iv b, iv d] d_89_11 rfl mk_87 lk_3_149 mv_87 rfl rfl rfl rfl rfl _ (m_noField m v b d) ?_
      intro r_11 h_11 q_11
      obtain ⟨q3, q4⟩ := q_11
      rw [e2] at q4
      subst q4
      rw [q3]
      show TT 89 14 [rv 3 (some 0), iv (nI i), iv b, iv d] [iv (bI true)] h _ _ _
      refine r_if_eq 19 17 d_89_14 (by decide) rfl (fun c_14 => absurd c_14 bI_t0) (fun c_14 => ?_)
      refine r_iconst 18 (nI 0) d_89_17 rfl (by decide) ?_
      refine r_zreturn d_89_18 rfl rfl ?_
      exact ⟨rfl, m, MF.rf h⟩
    cases e2 : hel S b with
    | none => exact bad (by unfold noF; rw [e2]) (by unfold ldO; simp only [e1, e2])
    | some o =>
      cases e3 : ix (fd S o).length d with
      | none => exact bad (by unfold noF; rw [e2]; show (ix (fd S o).length d).isNone = true; rw [e3]; rfl) (by unfold ldO; simp only [e1, e2, e3])
      | some f =>
        have hoa := hel_mem v.cl e2
        have hso := m.lt hoa
        have hl3 := (v.2.2.2.2.1 o (v.2.2.2.2.2.1 o hoa)).2.2
        obtain ⟨hf, rfl⟩ := ix_some (by omega) e3
        obtain ⟨q, hq, rfl, e5, e4⟩ := hel_some e2
        have hro : hI h 6 7 q = nI (sg o) := (m.ro hq).trans (by rw [e4]; rfl)
        have enf : noF S (nI q) (nI f) = false := by unfold noF; rw [e2]; show (ix (fd S o).length (nI f)).isNone = false; rw [e3]; rfl
        obtain ⟨u, hu⟩ : ∃ u, (fd S o)[f]? = some u := ⟨_, List.getElem?_eq_getElem hf⟩
        have e0 : ldO S (nI i) (nI q) (nI f) = some (i, u) := by unfold ldO; simp only [e1, e2, e3, hu]; rfl
        have hix : 3 * sg o + f < 291 := by omega
        rw [e0]
        refine r_aload_n 1 d_89_0 rfl rfl ?_
        refine r_iload_n 2 d_89_1 rfl rfl ?_
        refine r_callV (k1 := 0) (n1 := 0) (k := 0) (n := 0) 5 62 3 [iv (nI i)] d_89_2 rfl mk_62 lk_3_132 mv_62 rfl rfl rfl rfl rfl _ (m_noRoot h (nI i)) ?_
        intro r_2 h_2 q_2
        obtain ⟨q1, q2⟩ := q_2
        rw [e1] at q2
        subst q2
        rw [q1]
        show TT 89 5 [rv 3 (some 0), iv (nI i), iv (nI q), iv (nI f)] [iv (bI false)] h _ _ _
        refine r_if_ne 17 8 d_89_5 (by decide) rfl (fun c_5 => absurd c_5 (fun z => z rfl)) (fun c_5 => ?_)
        refine r_aload_n 9 d_89_8 rfl rfl ?_
        refine r_iload_n 10 d_89_9 rfl rfl ?_
        refine r_iload_n 11 d_89_10 rfl rfl ?_
        refine r_callV (k1 := 0) (n1 := 0) (k := 0) (n := 0) 14 87 3 [iv (nI q), iv (nI f)] d_89_11 rfl mk_87 lk_3_149 mv_87 rfl rfl rfl rfl rfl _ (m_noField m v (nI q) (nI f)) ?_
        intro r_11 h_11 q_11
        obtain ⟨q3, q4⟩ := q_11
        rw [enf] at q4
        subst q4
        rw [q3]
        show TT 89 14 [rv 3 (some 0), iv (nI i), iv (nI q), iv (nI f)] [iv (bI false)] h _ _ _
        refine r_if_eq 19 17 d_89_14 (by decide) rfl (fun c_14 => ?_) (fun c_14 => absurd rfl c_14)
        refine r_aload_n 20 d_89_19 rfl rfl ?_
        refine r_getR 23 3 7 6 (some 7) d_89_20 rfl fk_3_31 rfl (by decide) (MT.f7 m.mt) ?_
        refine r_iload_n 24 d_89_23 rfl rfl ?_
        refine r_aload_n 25 d_89_24 rfl rfl ?_
        refine r_getR 28 3 3 6 (some 3) d_89_25 rfl fk_3_19 rfl (by decide) (MT.f3 m.mt) ?_
        refine r_iconst 29 (nI 3) d_89_28 rfl (by decide) ?_
        refine r_aload_n 30 d_89_29 rfl rfl ?_
        refine r_getR 33 3 7 6 (some 7) d_89_30 rfl fk_3_31 rfl (by decide) (MT.f7 m.mt) ?_
        refine r_iload_n 34 d_89_33 rfl rfl ?_
        refine r_iald 35 q (nI (sg o)) d_89_34 rfl rfl (MT.l6_7 m.mt hq) hro ?_
        refine r_imul 36 (nI (3 * sg o)) d_89_35 rfl (pk_mul _ _) ?_
        refine r_iload_n 37 d_89_36 rfl rfl ?_
        refine r_iadd 38 (nI (3 * sg o + f)) d_89_37 rfl (nI_add _ _) ?_
        refine r_iald 39 (3 * sg o + f) (ol (u.map sg)) d_89_38 rfl rfl (MT.l6_3 m.mt hix) (m.fd hoa hu) ?_
        refine r_iast 40 i d_89_39 rfl rfl (MT.l6_7 m.mt hi) ?_
        refine r_iconst 41 (nI 1) d_89_40 rfl (by decide) ?_
        refine r_zreturn d_89_41 rfl rfl ?_
        exact ⟨rfl, rx_ro m i u, MF_sI (MF.rf h) rfl⟩
theorem m_hold {h : AH} {S : SS} {sg : Nat → Nat} (m : RM h S sg) (a b : Int32) : TT 90 0 [rv 3 (some 0), iv a, iv b] [] h 0 0 (fun x h' => x = some (iv (bI (hoO S a b).isSome)) ∧ RM h' (ldS S (hoO S a b)) sg ∧ MF h h') := by
  cases e1 : ix 6 a with
  | none =>
    have e0 : hoO S a b = none := by unfold hoO; rw [e1]
    rw [e0]
    refine r_aload_n 1 d_90_0 rfl rfl ?_
    refine r_iload_n 2 d_90_1 rfl rfl ?_
    refine r_callV (k1 := 0) (n1 := 0) (k := 0) (n := 0) 5 62 3 [iv a] d_90_2 rfl mk_62 lk_3_132 mv_62 rfl rfl rfl rfl rfl _ (m_noRoot h a) ?_
    intro r_2 h_2 q_2
    obtain ⟨q1, q2⟩ := q_2
    rw [e1] at q2
    subst q2
    rw [q1]
    show TT 90 5 [rv 3 (some 0), iv a, iv b] [iv (bI true)] h _ _ _
    refine r_if_ne 21 8 d_90_5 (by decide) rfl (fun c_5 => ?_) (fun c_5 => absurd c_5 bI_t0)
    refine r_iconst 22 (nI 0) d_90_21 rfl (by decide) ?_
    refine r_zreturn d_90_22 rfl rfl ?_
    exact ⟨rfl, m, MF.rf h⟩
  | some i =>
    obtain ⟨hi, rfl⟩ := ix_some (by decide) e1
    have eo : hoO S (nI i) b = if (decide (b = -1) || (ix 6 b).isSome) = true then some (i, hel S b) else none := by unfold hoO; simp only [e1]
    by_cases ed : b = -1
    · have eh : hel S b = none := by rw [ed]; rfl
      have e0 : hoO S (nI i) b = some (i, none) := by rw [eo, decide_eq_true ed, eh]; rfl
      rw [e0]
      subst ed
      refine r_aload_n 1 d_90_0 rfl rfl ?_
      refine r_iload_n 2 d_90_1 rfl rfl ?_
      refine r_callV (k1 := 0) (n1 := 0) (k := 0) (n := 0) 5 62 3 [iv (nI i)] d_90_2 rfl mk_62 lk_3_132 mv_62 rfl rfl rfl rfl rfl _ (m_noRoot h (nI i)) ?_
      intro r_2 h_2 q_2
      obtain ⟨q1, q2⟩ := q_2
      rw [e1] at q2
      subst q2
      rw [q1]
      show TT 90 5 [rv 3 (some 0), iv (nI i), iv (-1)] [iv (bI false)] h _ _ _
      refine r_if_ne 21 8 d_90_5 (by decide) rfl (fun c_5 => absurd c_5 (fun z => z rfl)) (fun c_5 => ?_)
      refine r_iload_n 9 d_90_8 rfl rfl ?_
      refine r_iconst 10 (-1) d_90_9 rfl (by decide) ?_
      refine r_icmp_eq 23 13 d_90_10 (by decide) rfl (fun c_10 => ?_) (fun c_10 => absurd rfl c_10)
      refine r_aload_n 24 d_90_23 rfl rfl ?_
      refine r_getR 27 3 7 6 (some 7) d_90_24 rfl fk_3_31 rfl (by decide) (MT.f7 m.mt) ?_
      refine r_iload_n 28 d_90_27 rfl rfl ?_
      refine r_iload_n 29 d_90_28 rfl rfl ?_
      refine r_iconst 30 (-1) d_90_29 rfl (by decide) ?_
      refine r_icmp_ne 37 33 d_90_30 (by decide) rfl (fun c_30 => absurd c_30 (fun z => z rfl)) (fun c_30 => ?_)
      refine r_iconst 34 (-1) d_90_33 rfl (by decide) ?_
      refine r_goto 43 d_90_34 (by decide) ?_
      refine r_iast 44 i d_90_43 rfl rfl (MT.l6_7 m.mt hi) ?_
      refine r_iconst 45 (nI 1) d_90_44 rfl (by decide) ?_
      refine r_zreturn d_90_45 rfl rfl ?_
      exact ⟨rfl, rx_ro m i none, MF_sI (MF.rf h) rfl⟩
    · cases e5 : ix 6 b with
      | none =>
        have e0 : hoO S (nI i) b = none := by rw [eo, decide_eq_false ed, e5]; rfl
        rw [e0]
        refine r_aload_n 1 d_90_0 rfl rfl ?_
        refine r_iload_n 2 d_90_1 rfl rfl ?_
        refine r_callV (k1 := 0) (n1 := 0) (k := 0) (n := 0) 5 62 3 [iv (nI i)] d_90_2 rfl mk_62 lk_3_132 mv_62 rfl rfl rfl rfl rfl _ (m_noRoot h (nI i)) ?_
        intro r_2 h_2 q_2
        obtain ⟨q1, q2⟩ := q_2
        rw [e1] at q2
        subst q2
        rw [q1]
        show TT 90 5 [rv 3 (some 0), iv (nI i), iv b] [iv (bI false)] h _ _ _
        refine r_if_ne 21 8 d_90_5 (by decide) rfl (fun c_5 => absurd c_5 (fun z => z rfl)) (fun c_5 => ?_)
        refine r_iload_n 9 d_90_8 rfl rfl ?_
        refine r_iconst 10 (-1) d_90_9 rfl (by decide) ?_
        refine r_icmp_eq 23 13 d_90_10 (by decide) rfl (fun c_10 => absurd c_10 ed) (fun c_10 => ?_)
        refine r_aload_n 14 d_90_13 rfl rfl ?_
        refine r_iload_n 15 d_90_14 rfl rfl ?_
        refine r_callV (k1 := 0) (n1 := 0) (k := 0) (n := 0) 18 62 3 [iv b] d_90_15 rfl mk_62 lk_3_132 mv_62 rfl rfl rfl rfl rfl _ (m_noRoot h b) ?_
        intro r_15 h_15 q_15
        obtain ⟨q3, q4⟩ := q_15
        rw [e5] at q4
        subst q4
        rw [q3]
        show TT 90 18 [rv 3 (some 0), iv (nI i), iv b] [iv (bI true)] h _ _ _
        refine r_if_eq 23 21 d_90_18 (by decide) rfl (fun c_18 => absurd c_18 bI_t0) (fun c_18 => ?_)
        refine r_iconst 22 (nI 0) d_90_21 rfl (by decide) ?_
        refine r_zreturn d_90_22 rfl rfl ?_
        exact ⟨rfl, m, MF.rf h⟩
      | some q =>
        obtain ⟨hq, rfl⟩ := ix_some (by decide) e5
        have eh : hel S (nI q) = ro S q := by unfold hel; rw [e5]; rfl
        have e0 : hoO S (nI i) (nI q) = some (i, ro S q) := by rw [eo, e5, Option.isSome_some, Bool.or_true, eh]; rfl
        rw [e0]
        refine r_aload_n 1 d_90_0 rfl rfl ?_
        refine r_iload_n 2 d_90_1 rfl rfl ?_
        refine r_callV (k1 := 0) (n1 := 0) (k := 0) (n := 0) 5 62 3 [iv (nI i)] d_90_2 rfl mk_62 lk_3_132 mv_62 rfl rfl rfl rfl rfl _ (m_noRoot h (nI i)) ?_
        intro r_2 h_2 q_2
        obtain ⟨q1, q2⟩ := q_2
        rw [e1] at q2
        subst q2
        rw [q1]
        show TT 90 5 [rv 3 (some 0), iv (nI i), iv (nI q)] [iv (bI false)] h _ _ _
        refine r_if_ne 21 8 d_90_5 (by decide) rfl (fun c_5 => absurd c_5 (fun z => z rfl)) (fun c_5 => ?_)
        refine r_iload_n 9 d_90_8 rfl rfl ?_
        refine r_iconst 10 (-1) d_90_9 rfl (by decide) ?_
        refine r_icmp_eq 23 13 d_90_10 (by decide) rfl (fun c_10 => absurd c_10 ed) (fun c_10 => ?_)
        refine r_aload_n 14 d_90_13 rfl rfl ?_
        refine r_iload_n 15 d_90_14 rfl rfl ?_
        refine r_callV (k1 := 0) (n1 := 0) (k := 0) (n := 0) 18 62 3 [iv (nI q)] d_90_15 rfl mk_62 lk_3_132 mv_62 rfl rfl rfl rfl rfl _ (m_noRoot h (nI q)) ?_
        intro r_15 h_15 q_15
        obtain ⟨q3, q4⟩ := q_15
        rw [e5] at q4
        subst q4
        rw [q3]
        show TT 90 18 [rv 3 (some 0), iv (nI i), iv (nI q)] [iv (bI false)] h _ _ _
        refine r_if_eq 23 21 d_90_18 (by decide) rfl (fun c_18 => ?_) (fun c_18 => absurd rfl c_18)
        refine r_aload_n 24 d_90_23 rfl rfl ?_
        refine r_getR 27 3 7 6 (some 7) d_90_24 rfl fk_3_31 rfl (by decide) (MT.f7 m.mt) ?_
        refine r_iload_n 28 d_90_27 rfl rfl ?_
        refine r_iload_n 29 d_90_28 rfl rfl ?_
        refine r_iconst 30 (-1) d_90_29 rfl (by decide) ?_
        refine r_icmp_ne 37 33 d_90_30 (by decide) rfl (fun c_30 => ?_) (fun c_30 => absurd c_30 ed)
        refine r_aload_n 38 d_90_37 rfl rfl ?_
        refine r_getR 41 3 7 6 (some 7) d_90_38 rfl fk_3_31 rfl (by decide) (MT.f7 m.mt) ?_
        refine r_iload_n 42 d_90_41 rfl rfl ?_
        refine r_iald 43 q (ol ((ro S q).map sg)) d_90_42 rfl rfl (MT.l6_7 m.mt hq) (m.ro hq) ?_
        refine r_iast 44 i d_90_43 rfl rfl (MT.l6_7 m.mt hi) ?_
        refine r_iconst 45 (nI 1) d_90_44 rfl (by decide) ?_
        refine r_zreturn d_90_45 rfl rfl ?_
        exact ⟨rfl, rx_ro m i (ro S q), MF_sI (MF.rf h) rfl⟩
theorem lkS_IV {S : SS} (v : IV S) (a b d : Int32) : IV (lkS S a b d) := by
  unfold lkS
  cases lkO S a b d with
  | none => exact v
  | some q => exact fd_IV v (fun x hx => hel_mem v.cl hx)
theorem ldS_IV {S : SS} (v : IV S) (a b d : Int32) : IV (ldS S (ldO S a b d)) := by
  cases e : ldO S a b d with
  | none => exact v
  | some q =>
    refine ro_IV v (fun x hx => ?_)
    unfold ldO at e
    cases e1 : ix 6 a with
    | none => rw [e1] at e; cases e
    | some i =>
      rw [e1] at e
      cases e2 : hel S b with
      | none => simp only [e2] at e; cases e
      | some o =>
        simp only [e2] at e
        cases e3 : ix (fd S o).length d with
        | none => simp only [e3] at e; cases e
        | some f =>
          simp only [e3] at e
          cases e
          have hx : (fd S o)[f]?.getD none = some x := hx
          cases e4 : (fd S o)[f]? with
          | none => rw [e4] at hx; cases hx
          | some u =>
            rw [e4] at hx
            have hx : u = some x := hx
            exact v.2.2.2.1 o x (hel_mem v.cl e2) (by rw [← hx]; exact List.mem_of_getElem? e4)
theorem hoS_IV {S : SS} (v : IV S) (a b : Int32) : IV (ldS S (hoO S a b)) := by
  cases e : hoO S a b with
  | none => exact v
  | some q =>
    refine ro_IV v (fun x hx => ?_)
    unfold hoO at e
    cases e1 : ix 6 a with
    | none => rw [e1] at e; cases e
    | some i =>
      rw [e1] at e
      simp only at e
      split at e
      · cases e
        exact hel_mem v.cl hx
      · cases e
