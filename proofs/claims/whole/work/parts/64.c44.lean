/-! contracts of the reference: trace -/
theorem m_trace {h : AH} {S : SS} {col : Nat → Bool} {sg : Nat → Nat} (m : RM h S sg) (v : IV S) (sm : SMc S col) (hco : ∀ r, r < 12 → hI h 7 0 r = bI (col r)) : TT 74 0 [rv 3 (some 0), un] [] h 0 0 (fun x h' => x = none ∧ XF h h' ∧ RQ h' S col (plan S col) sg ∧ PI S col (plan S col)) := by
  have b := v.bd
  have cl := v.cl
  have bfs : ∀ n i h1 P, i + n = 97 → XF h h1 → RQ h1 S col P sg → PI S col P → i ≤ (pf P).length → plan S col = bfsP S col n i P → TT 74 138 [rv 3 (some 0), iv (nI i)] [] h1 0 0 (fun x h' => x = none ∧ XF h h' ∧ RQ h' S col (plan S col) sg ∧ PI S col (plan S col)) := by
    intro n
    induction n with
    | zero =>
      intro i h1 P hn xf q pi hi he
      have := PI_len b pi
      omega
    | succ n ih =>
      intro i h1 P hn xf q pi hi he
      have hl := PI_len b pi
      have m1 := RX_XF m xf
      rcases Nat.lt_or_ge i (pf P).length with hlt | hge
      · obtain ⟨o, ho⟩ := at_lt hlt
        have hoa := (pi.2.1 o (List.mem_of_getElem? ho)).1
        have e : bfsP S col (n + 1) i P = bfsP S col n (i + 1) (finds S col P (fd S o)) := by rw [bfsP, ho]
        rw [e] at he
        refine r_iload_n 139 d_74_138 rfl rfl ?_
        refine r_aload_n 140 d_74_139 rfl rfl ?_
        refine r_getI 143 3 15 (nI (pf P).length) d_74_140 rfl fk_3_100 rfl q.fo ?_
        refine r_icmp_ge 162 146 d_74_143 (by decide) rfl (fun c_143 => absurd c_143 (nI_ge hlt (by omega))) (fun c_143 => ?_)
        refine r_aload_n 147 d_74_146 rfl rfl ?_
        refine r_aload_n 148 d_74_147 rfl rfl ?_
        refine r_getR 151 3 16 6 (some 13) d_74_148 rfl fk_3_57 rfl (by decide) (MT.f16 m1.mt) ?_
        refine r_iload_n 152 d_74_151 rfl rfl ?_
        refine r_iald 153 i (nI (sg o)) d_74_152 rfl rfl (MT.l6_13 m1.mt (by omega)) (q.qu ho) ?_
        refine r_callV (k1 := 0) (n1 := 0) (k := 0) (n := 0) 156 73 3 [iv (nI (sg o))] d_74_153 rfl mk_73 lk_3_106 mv_73 rfl rfl rfl rfl rfl _ (m_findFields m1 v sm q pi hoa) ?_
        intro r_153 h_153 q_153
        obtain ⟨q1x, q2x, q3x⟩ := q_153
        subst q1x
        show TT 74 156 [rv 3 (some 0), iv (nI i)] [] h_153 _ _ _
        refine r_iinc 159 (nI (i + 1)) [rv 3 (some 0), iv (nI (i + 1))] d_74_156 rfl rfl (nI_1 i) rfl rfl ?_
        refine r_goto 138 d_74_159 (by decide) ?_
        exact ih (i + 1) h_153 _ (by omega) (xf.tr q2x) q3x (finds_PI sm _ _ pi (fun x hx => cl.2.1 o x hoa hx)) (by have := finds_len (S := S) (col := col) (fd S o) P; omega) he
      · have e : bfsP S col (n + 1) i P = P := by rw [bfsP, List.getElem?_eq_none (by omega)]
        rw [e] at he
        rw [he]
        refine r_iload_n 139 d_74_138 rfl rfl ?_
        refine r_aload_n 140 d_74_139 rfl rfl ?_
        refine r_getI 143 3 15 (nI (pf P).length) d_74_140 rfl fk_3_100 rfl q.fo ?_
        refine r_icmp_ge 162 146 d_74_143 (by decide) rfl (fun c_143 => ?_) (fun c_143 => absurd (nI_le hge (by omega)) c_143)
        refine r_return d_74_162 rfl ?_
        exact ⟨rfl, xf, q, pi⟩
  have words : ∀ n w h1 P, w + n = 192 → XF h h1 → RQ h1 S col P sg → PI S col P → plan S col = bfsP S col 97 0 (finds S col P ((wl (atO S) n w).flatMap (gS S col))) → TT 74 92 [rv 3 (some 0), iv (nI w)] [] h1 0 0 (fun x h' => x = none ∧ XF h h' ∧ RQ h' S col (plan S col) sg ∧ PI S col (plan S col)) := by
    intro n
    induction n with
    | zero =>
      intro w h1 P hw xf q pi he
      obtain rfl : w = 192 := by omega
      have z := bfs 97 0 h1 P rfl xf q pi (Nat.zero_le _) he
      refine r_iload_n 93 d_74_92 rfl rfl ?_
      refine r_sipush 96 (nI 192) d_74_93 rfl (by decide) ?_
      refine r_icmp_ge 136 99 d_74_96 (by decide) rfl (fun c_96 => ?_) (fun c_96 => absurd (nI_le (Nat.le_refl _) (by decide)) c_96)
      refine r_iconst 137 (nI 0) d_74_136 rfl (by decide) ?_
      refine r_istore_n 138 [rv 3 (some 0), iv (nI 0)] d_74_137 rfl rfl rfl ?_
      exact z
    | succ n ih =>
      intro w h1 P hw xf q pi he
      have hw192 : w < 192 := by omega
      have m1 := RX_XF m xf
      have hat := rx_atO m1 hw192
      rw [wl] at he
      cases ea : atO S w with
      | none =>
        rw [ea] at he hat
        refine r_iload_n 93 d_74_92 rfl rfl ?_
        refine r_sipush 96 (nI 192) d_74_93 rfl (by decide) ?_
        refine r_icmp_ge 136 99 d_74_96 (by decide) rfl (fun c_96 => absurd c_96 (nI_ge hw192 (by decide))) (fun c_96 => ?_)
        refine r_aload_n 100 d_74_99 rfl rfl ?_
        refine r_getR 103 3 6 6 (some 6) d_74_100 rfl fk_3_28 rfl (by decide) (MT.f6 m1.mt) ?_
        refine r_iload_n 104 d_74_103 rfl rfl ?_
        refine r_iald 105 w (-1) d_74_104 rfl rfl (MT.l6_6 m1.mt hw192) hat ?_
        refine r_if_lt 130 108 d_74_105 (by decide) rfl (fun c_105 => ?_) (fun c_105 => absurd (by decide) c_105)
        refine r_iinc 133 (nI (w + 1)) [rv 3 (some 0), iv (nI (w + 1))] d_74_130 rfl rfl (nI_1 w) rfl rfl ?_
        refine r_goto 92 d_74_133 (by decide) ?_
        exact ih (w + 1) h1 P (by omega) xf q pi he
      | some o =>
        rw [ea] at he hat
        obtain ⟨hoa, hps⟩ := atO_mem ea
        have hs16 := so_lt v hoa
        have hr12 := hm_lt cl hoa
        have hso := m.lt hoa
        have hdv : w / 16 = hm S o := by unfold ps at hps; omega
        rw [show (some o).toList ++ wl (atO S) n (w + 1) = o :: wl (atO S) n (w + 1) from rfl, List.flatMap_cons, finds_app] at he
        cases hc : col (hm S o) with
        | true =>
          have hcv : hI h1 7 0 (hm S o) = bI true := (q.co hr12).trans (by rw [hc])
          rw [show gS S col o = [] from if_pos hc] at he
          refine r_iload_n 93 d_74_92 rfl rfl ?_
          refine r_sipush 96 (nI 192) d_74_93 rfl (by decide) ?_
          refine r_icmp_ge 136 99 d_74_96 (by decide) rfl (fun c_96 => absurd c_96 (nI_ge hw192 (by decide))) (fun c_96 => ?_)
          refine r_aload_n 100 d_74_99 rfl rfl ?_
          refine r_getR 103 3 6 6 (some 6) d_74_100 rfl fk_3_28 rfl (by decide) (MT.f6 m1.mt) ?_
          refine r_iload_n 104 d_74_103 rfl rfl ?_
          refine r_iald 105 w (nI (sg o)) d_74_104 rfl rfl (MT.l6_6 m1.mt hw192) hat ?_
          refine r_if_lt 130 108 d_74_105 (by decide) rfl (fun c_105 => absurd c_105 (nI_pos (by omega))) (fun c_105 => ?_)
          refine r_aload_n 109 d_74_108 rfl rfl ?_
          refine r_getR 112 3 13 7 (some 0) d_74_109 rfl fk_3_50 rfl (by decide) (MT.f13 m1.mt) ?_
          refine r_iload_n 113 d_74_112 rfl rfl ?_
          refine r_bipush 115 (nI 16) d_74_113 rfl (by decide) ?_
          refine r_idiv 116 (nI (hm S o)) d_74_115 rfl (by decide) ((pk_div (by omega) (by decide) (by decide)).trans (by rw [hdv])) ?_
          refine r_bald 117 (hm S o) (bI true) d_74_116 rfl rfl (MT.l7_0 m1.mt hr12) hcv ?_
          refine r_if_ne 130 120 d_74_117 (by decide) rfl (fun c_117 => ?_) (fun c_117 => absurd c_117 bI_t0)
          refine r_iinc 133 (nI (w + 1)) [rv 3 (some 0), iv (nI (w + 1))] d_74_130 rfl rfl (nI_1 w) rfl rfl ?_
          refine r_goto 92 d_74_133 (by decide) ?_
          exact ih (w + 1) h1 P (by omega) xf q pi he
        | false =>
          have hcv : hI h1 7 0 (hm S o) = bI false := (q.co hr12).trans (by rw [hc])
          rw [show gS S col o = fd S o from if_neg (by rw [hc]; exact Bool.false_ne_true)] at he
          refine r_iload_n 93 d_74_92 rfl rfl ?_
          refine r_sipush 96 (nI 192) d_74_93 rfl (by decide) ?_
          refine r_icmp_ge 136 99 d_74_96 (by decide) rfl (fun c_96 => absurd c_96 (nI_ge hw192 (by decide))) (fun c_96 => ?_)
          refine r_aload_n 100 d_74_99 rfl rfl ?_
          refine r_getR 103 3 6 6 (some 6) d_74_100 rfl fk_3_28 rfl (by decide) (MT.f6 m1.mt) ?_
          refine r_iload_n 104 d_74_103 rfl rfl ?_
          refine r_iald 105 w (nI (sg o)) d_74_104 rfl rfl (MT.l6_6 m1.mt hw192) hat ?_
          refine r_if_lt 130 108 d_74_105 (by decide) rfl (fun c_105 => absurd c_105 (nI_pos (by omega))) (fun c_105 => ?_)
          refine r_aload_n 109 d_74_108 rfl rfl ?_
          refine r_getR 112 3 13 7 (some 0) d_74_109 rfl fk_3_50 rfl (by decide) (MT.f13 m1.mt) ?_
          refine r_iload_n 113 d_74_112 rfl rfl ?_
          refine r_bipush 115 (nI 16) d_74_113 rfl (by decide) ?_
          refine r_idiv 116 (nI (hm S o)) d_74_115 rfl (by decide) ((pk_div (by omega) (by decide) (by decide)).trans (by rw [hdv])) ?_
          refine r_bald 117 (hm S o) (bI false) d_74_116 rfl rfl (MT.l7_0 m1.mt hr12) hcv ?_
          refine r_if_ne 130 120 d_74_117 (by decide) rfl (fun c_117 => absurd c_117 (fun z => z rfl)) (fun c_117 => ?_)
          refine r_aload_n 121 d_74_120 rfl rfl ?_
          refine r_aload_n 122 d_74_121 rfl rfl ?_
          refine r_getR 125 3 6 6 (some 6) d_74_122 rfl fk_3_28 rfl (by decide) (MT.f6 m1.mt) ?_
          refine r_iload_n 126 d_74_125 rfl rfl ?_
          refine r_iald 127 w (nI (sg o)) d_74_126 rfl rfl (MT.l6_6 m1.mt hw192) hat ?_
          refine r_callV (k1 := 0) (n1 := 0) (k := 0) (n := 0) 130 73 3 [iv (nI (sg o))] d_74_127 rfl mk_73 lk_3_106 mv_73 rfl rfl rfl rfl rfl _ (m_findFields m1 v sm q pi hoa) ?_
          intro r_127 h_127 q_127
          obtain ⟨q1x, q2x, q3x⟩ := q_127
          subst q1x
          show TT 74 130 [rv 3 (some 0), iv (nI w)] [] h_127 _ _ _
          refine r_iinc 133 (nI (w + 1)) [rv 3 (some 0), iv (nI (w + 1))] d_74_130 rfl rfl (nI_1 w) rfl rfl ?_
          refine r_goto 92 d_74_133 (by decide) ?_
          exact ih (w + 1) h_127 _ (by omega) (xf.tr q2x) q3x (finds_PI sm _ _ pi (fun x hx => cl.2.1 o x hoa hx)) he
  have roots : ∀ n i h1 P, i + n = 6 → XF h h1 → RQ h1 S col P sg → PI S col P → plan S col = bfsP S col 97 0 (finds S col (finds S col P (roL S i n)) (stL S col 12 0)) → TT 74 68 [rv 3 (some 0), iv (nI i)] [] h1 0 0 (fun x h' => x = none ∧ XF h h' ∧ RQ h' S col (plan S col) sg ∧ PI S col (plan S col)) := by
    intro n
    induction n with
    | zero =>
      intro i h1 P hn xf q pi he
      obtain rfl : i = 6 := by omega
      have z := words 192 0 h1 P rfl xf q pi (by rw [wl_all v, st_all v]; exact he)
      refine r_iload_n 69 d_74_68 rfl rfl ?_
      refine r_bipush 71 (nI 6) d_74_69 rfl (by decide) ?_
      refine r_icmp_ge 90 74 d_74_71 (by decide) rfl (fun c_71 => ?_) (fun c_71 => absurd (nI_le (Nat.le_refl _) (by decide)) c_71)
      refine r_iconst 91 (nI 0) d_74_90 rfl (by decide) ?_
      refine r_istore_n 92 [rv 3 (some 0), iv (nI 0)] d_74_91 rfl rfl rfl ?_
      exact z
    | succ n ih =>
      intro i h1 P hn xf q pi he
      have hi6 : i < 6 := by omega
      have m1 := RX_XF m xf
      have hrm : ∀ x, ro S i = some x → x ∈ all S := fun x hx => cl.1 i x hi6 hx
      refine r_iload_n 69 d_74_68 rfl rfl ?_
      refine r_bipush 71 (nI 6) d_74_69 rfl (by decide) ?_
      refine r_icmp_ge 90 74 d_74_71 (by decide) rfl (fun c_71 => absurd c_71 (nI_ge hi6 (by decide))) (fun c_71 => ?_)
      refine r_aload_n 75 d_74_74 rfl rfl ?_
      refine r_aload_n 76 d_74_75 rfl rfl ?_
      refine r_getR 79 3 7 6 (some 7) d_74_76 rfl fk_3_31 rfl (by decide) (MT.f7 m1.mt) ?_
      refine r_iload_n 80 d_74_79 rfl rfl ?_
      refine r_iald 81 i (ol ((ro S i).map sg)) d_74_80 rfl rfl (MT.l6_7 m1.mt hi6) (m1.ro hi6) ?_
      refine r_callV (k1 := 0) (n1 := 0) (k := 0) (n := 0) 84 72 3 [iv (ol ((ro S i).map sg))] d_74_81 rfl mk_72 lk_3_103 mv_72 rfl rfl rfl rfl rfl _ (m_find m1 v sm q pi (ro S i) hrm) ?_
      intro r_81 h_81 q_81
      obtain ⟨q1x, q2x, q3x⟩ := q_81
      subst q1x
      show TT 74 84 [rv 3 (some 0), iv (nI i)] [] h_81 _ _ _
      refine r_iinc 87 (nI (i + 1)) [rv 3 (some 0), iv (nI (i + 1))] d_74_84 rfl rfl (nI_1 i) rfl rfl ?_
      refine r_goto 68 d_74_87 (by decide) ?_
      exact ih (i + 1) h_81 _ (by omega) (xf.tr q2x) q3x (find1_PI pi sm _ hrm) he
  have becs : ∀ n r h1, r + n = 12 → XF h h1 → (∀ r, r < 12 → hI h1 7 0 r = bI (col r)) → (hI h1 3 0 15 = nI 0 ∧ hI h1 3 0 22 = nI 0 ∧ hI h1 6 16 2 = -1 ∧ hI h1 6 16 3 = -1) → (∀ q, q < 97 → hI h1 7 1 q = nI 0) → (∀ q, q < r → hI h1 6 12 q = nI 0) → TT 74 47 [rv 3 (some 0), iv (nI r)] [] h1 0 0 (fun x h' => x = none ∧ XF h h' ∧ RQ h' S col (plan S col) sg ∧ PI S col (plan S col)) := by
    intro n
    induction n with
    | zero =>
      intro r h1 hr xf hc hf hk hb
      obtain rfl : r = 12 := by omega
      have q : RQ h1 S col P0 sg := by
        refine ⟨fun r hr => ⟨hc r hr, hb r hr⟩, fun o ho => hk _ (m.lt ho), ⟨hf.1, fun i o ho => (by cases ho)⟩, fun i o t ho => (by cases ho), fun k hk' => ⟨?_, fun t ht => (by cases ht)⟩, hf.2.1⟩
        rcases hk' with rfl | rfl
        · exact hf.2.2.1
        · exact hf.2.2.2
      have z := roots 6 0 h1 P0 rfl xf q (P0_PI S col) rfl
      refine r_iload_n 48 d_74_47 rfl rfl ?_
      refine r_bipush 50 (nI 12) d_74_48 rfl (by decide) ?_
      refine r_icmp_ge 66 53 d_74_50 (by decide) rfl (fun c_50 => ?_) (fun c_50 => absurd (nI_le (Nat.le_refl _) (by decide)) c_50)
      refine r_iconst 67 (nI 0) d_74_66 rfl (by decide) ?_
      refine r_istore_n 68 [rv 3 (some 0), iv (nI 0)] d_74_67 rfl rfl rfl ?_
      exact z
    | succ n ih =>
      intro r h1 hr xf hc hf hk hb
      have hr12 : r < 12 := by omega
      have mt1 := MT_XG m.mt xf.1
      refine r_iload_n 48 d_74_47 rfl rfl ?_
      refine r_bipush 50 (nI 12) d_74_48 rfl (by decide) ?_
      refine r_icmp_ge 66 53 d_74_50 (by decide) rfl (fun c_50 => absurd c_50 (nI_ge hr12 (by decide))) (fun c_50 => ?_)
      refine r_aload_n 54 d_74_53 rfl rfl ?_
      refine r_getR 57 3 14 6 (some 12) d_74_54 rfl fk_3_54 rfl (by decide) (MT.f14 mt1) ?_
      refine r_iload_n 58 d_74_57 rfl rfl ?_
      refine r_iconst 59 (nI 0) d_74_58 rfl (by decide) ?_
      refine r_iast 60 r d_74_59 rfl rfl (MT.l6_12 mt1 hr12) ?_
      refine r_iinc 63 (nI (r + 1)) [rv 3 (some 0), iv (nI (r + 1))] d_74_60 rfl rfl (nI_1 r) rfl rfl ?_
      refine r_goto 47 d_74_63 (by decide) ?_
      refine ih (r + 1) _ (by omega) (XF_sI xf rfl) (fun r' hr' => (wS (by decide)).trans (hc r' hr')) ⟨(wS (by decide)).trans hf.1, (wS (by decide)).trans hf.2.1, (w6n (by decide)).trans hf.2.2.1, (w6n (by decide)).trans hf.2.2.2⟩ (fun q hq => (wS (by decide)).trans (hk q hq)) (fun q hq => ?_)
      rw [wA]
      split
      · rfl
      · exact hb q (by omega)
  have knows : ∀ n j h1, j + n = 97 → XF h h1 → (∀ r, r < 12 → hI h1 7 0 r = bI (col r)) → (hI h1 3 0 15 = nI 0 ∧ hI h1 3 0 22 = nI 0 ∧ hI h1 6 16 2 = -1 ∧ hI h1 6 16 3 = -1) → (∀ q, q < j → hI h1 7 1 q = nI 0) → TT 74 26 [rv 3 (some 0), iv (nI j)] [] h1 0 0 (fun x h' => x = none ∧ XF h h' ∧ RQ h' S col (plan S col) sg ∧ PI S col (plan S col)) := by
    intro n
    induction n with
    | zero =>
      intro j h1 hj xf hc hf hk
      obtain rfl : j = 97 := by omega
      have z := becs 12 0 h1 rfl xf hc hf hk (fun q hq => absurd hq (Nat.not_lt_zero q))
      refine r_iload_n 27 d_74_26 rfl rfl ?_
      refine r_bipush 29 (nI 97) d_74_27 rfl (by decide) ?_
      refine r_icmp_ge 45 32 d_74_29 (by decide) rfl (fun c_29 => ?_) (fun c_29 => absurd (nI_le (Nat.le_refl _) (by decide)) c_29)
      refine r_iconst 46 (nI 0) d_74_45 rfl (by decide) ?_
      refine r_istore_n 47 [rv 3 (some 0), iv (nI 0)] d_74_46 rfl rfl rfl ?_
      exact z
    | succ n ih =>
      intro j h1 hj xf hc hf hk
      have hj97 : j < 97 := by omega
      have mt1 := MT_XG m.mt xf.1
      refine r_iload_n 27 d_74_26 rfl rfl ?_
      refine r_bipush 29 (nI 97) d_74_27 rfl (by decide) ?_
      refine r_icmp_ge 45 32 d_74_29 (by decide) rfl (fun c_29 => absurd c_29 (nI_ge hj97 (by decide))) (fun c_29 => ?_)
      refine r_aload_n 33 d_74_32 rfl rfl ?_
      refine r_getR 36 3 17 7 (some 1) d_74_33 rfl fk_3_60 rfl (by decide) (MT.f17 mt1) ?_
      refine r_iload_n 37 d_74_36 rfl rfl ?_
      refine r_iconst 38 (nI 0) d_74_37 rfl (by decide) ?_
      refine r_bast 39 j d_74_38 rfl rfl (MT.l7_1 mt1 hj97) rfl ?_
      refine r_iinc 42 (nI (j + 1)) [rv 3 (some 0), iv (nI (j + 1))] d_74_39 rfl rfl (nI_1 j) rfl rfl ?_
      refine r_goto 26 d_74_42 (by decide) ?_
      refine ih (j + 1) _ (by omega) (XF_sI xf rfl) (fun r' hr' => (w7n (by decide)).trans (hc r' hr')) ⟨(wS (by decide)).trans hf.1, (wS (by decide)).trans hf.2.1, (wS (by decide)).trans hf.2.2.1, (wS (by decide)).trans hf.2.2.2⟩ (fun q hq => ?_)
      rw [wA]
      split
      · rfl
      · exact hk q (by omega)
  have z := knows 97 0 (sI (sI (sI (sI h 3 0 15 (nI 0)) 3 0 22 (nI 0)) 6 16 2 (-1)) 6 16 3 (-1)) rfl (XF_sI (XF_sI (XF_sI (XF_sI (XF.rf h) rfl) rfl) rfl) rfl) (fun r hr => by rw [wS (by decide), wS (by decide), wS (by decide), wS (by decide)]; exact hco r hr) ⟨rfl, rfl, rfl, rfl⟩ (fun q hq => absurd hq (Nat.not_lt_zero q))
  refine r_aload_n 1 d_74_0 rfl rfl ?_
  refine r_iconst 2 (nI 0) d_74_1 rfl (by decide) ?_
  refine r_putI 5 3 15 d_74_2 rfl fk_3_100 (Or.inl rfl) rfl rfl rfl ?_
  refine r_aload_n 6 d_74_5 rfl rfl ?_
  refine r_iconst 7 (nI 0) d_74_6 rfl (by decide) ?_
  refine r_putI 10 3 22 d_74_7 rfl fk_3_96 (Or.inl rfl) rfl rfl rfl ?_
  refine r_aload_n 11 d_74_10 rfl rfl ?_
  refine r_getR 14 3 20 6 (some 16) d_74_11 rfl fk_3_69 rfl (by decide) (MT.f20 (MT_sI (MT_sI m.mt rfl) rfl)) ?_
  refine r_iconst 15 (nI 2) d_74_14 rfl (by decide) ?_
  refine r_iconst 16 (-1) d_74_15 rfl (by decide) ?_
  refine r_iast 17 2 d_74_16 rfl rfl (MT.l6_16 (MT_sI (MT_sI m.mt rfl) rfl) (by decide)) ?_
  refine r_aload_n 18 d_74_17 rfl rfl ?_
  refine r_getR 21 3 20 6 (some 16) d_74_18 rfl fk_3_69 rfl (by decide) (MT.f20 (MT_sI (MT_sI (MT_sI m.mt rfl) rfl) rfl)) ?_
  refine r_iconst 22 (nI 3) d_74_21 rfl (by decide) ?_
  refine r_iconst 23 (-1) d_74_22 rfl (by decide) ?_
  refine r_iast 24 3 d_74_23 rfl rfl (MT.l6_16 (MT_sI (MT_sI (MT_sI m.mt rfl) rfl) rfl) (by decide)) ?_
  refine r_iconst 25 (nI 0) d_74_24 rfl (by decide) ?_
  refine r_istore_n 26 [rv 3 (some 0), iv (nI 0)] d_74_25 rfl rfl rfl ?_
  exact z
