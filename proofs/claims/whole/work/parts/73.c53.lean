/-! what make does: the class and the reference -/
noncomputable def mkA (S : SS) (w : Nat) : Int32 := match (plS S w).1 with
  | none => -2
  | some _ => nI (ct (plS S w).2 3 + 1)
noncomputable def mkT (S : SS) (w n i : Nat) : SS := match (plS S w).1 with
  | none => (plS S w).2
  | some r => mk1 (plS S w).2 w n i r
theorem mkT_IV {S : SS} (v : IV S) {w n i : Nat} (hw : 2 ≤ w ∧ w ≤ 8) (hn : n ≤ 3) : IV (mkT S w n i) := by
  obtain ⟨v1, v2⟩ := pls_ok v hw.2
  unfold mkT
  cases hp : (plS S w).1 with
  | none => exact v1
  | some r =>
    obtain ⟨a, b, c⟩ := v2 r hp
    exact mk1_IV v1 a b hw hn c
theorem k_make {h : AH} {S : SS} (c : RC h S) (v : IV S) {i n e : Nat} (hi : i < 6) (hn : n < 4) (he : e < 4) : TT 10 0 [rv 0 (some 0), iv (nI i), iv (nI n), iv (nI e), un, un, un] [] h 2 10 (fun x h' => x = some (iv (mkA S (2 + n + e))) ∧ RC h' (mkT S (2 + n + e) n i) ∧ CF h h') := by
  obtain ⟨v1, v2⟩ := pls_ok v (w := 2 + n + e) (by omega)
  refine TT.mono ?_ (c_make c v hi hn he (fun r hr => ?_))
  · rintro x h' ⟨-, cf, q⟩
    unfold mkA mkT
    cases hp : (plS S (2 + n + e)).1 with
    | none =>
      rw [hp] at q
      exact ⟨q.1, q.2, cf⟩
    | some r =>
      rw [hp] at q
      exact ⟨q.1, q.2, cf⟩
  · obtain ⟨a, b, d⟩ := v2 r hr
    exact ⟨a, us_len v1 a b d (by omega), v1⟩
theorem rx_mk1 {h : AH} {S : SS} {sg : Nat → Nat} {w n i r j : Nat} (m : RM h (ptS (niS S w n) r (ct S 3)) (va_up sg (ct S 3) j)) : RM (sI (sI (sI h 6 9 r (nI (us S r + w))) 6 10 r (-1)) 6 7 i (nI j)) (mk1 S w n i r) (va_up sg (ct S 3) j) := by
  have a1 : RM (sI (sI h 6 9 r (nI (us S r + w))) 6 10 r (-1)) (lvS (apS (niS S w n) r (ct S 3)) r none) (va_up sg (ct S 3) j) := by
    refine RX_reg m (XG_sI (XG_sI (XG.rf _) rfl) rfl) (fun r' hr' => ⟨?_, ?_, ?_⟩) ?_ (fun k hk => ?_) ⟨rfl, rfl, rfl⟩ ⟨rfl, rfl, rfl, rfl⟩
    · rw [w6n (by decide), w6n (by decide)]; exact m.kd hr'
    · rw [w6n (by decide), wA, m.us hr']
      show (if r' = r then nI (us S r + w) else nI (us S r')) = nI (va_up (us S) r (us S r + va_up (wd S) (ct S 3) w (ct S 3)) r')
      by_cases e : r' = r
      · rw [if_pos e, e, va_up_self, va_up_self]
      · rw [if_neg e, va_up_ne _ _ e]
    · rw [wA, w6n (by decide), m.lw hr']
      show (if r' = r then -1 else ol (lw S r')) = ol (va_up (lw S) r none r')
      by_cases e : r' = r
      · rw [if_pos e, e, va_up_self]; rfl
      · rw [if_neg e, va_up_ne _ _ e]
    · rw [wS (by decide), wS (by decide)]; exact m.cu
    · rw [w6n (by decide), w6n (by decide)]; exact m.ct hk
  have a2 := rx_ro a1 i (some (ct S 3))
  have e : ol ((some (ct S 3)).map (va_up sg (ct S 3) j)) = nI j := by
    show nI (va_up sg (ct S 3) j (ct S 3)) = nI j
    rw [va_up_self]
  rw [e] at a2
  exact a2
theorem m_make {h : AH} {S : SS} {sg : Nat → Nat} (m : RM h S sg) (v : IV S) {i n e : Nat} (hi : i < 6) (hn : n < 4) (he : e < 4) : TT 84 0 [rv 3 (some 0), iv (nI i), iv (nI n), iv (nI e), un, un, un] [] h 0 0 (fun x h' => x = some (iv (mkA S (2 + n + e))) ∧ (∃ sg', RM h' (mkT S (2 + n + e) n i) sg') ∧ MF h h') := by
  obtain ⟨w, hw⟩ : ∃ w, w = 2 + n + e := ⟨_, rfl⟩
  rw [← hw]
  have hw8 : w ≤ 8 := by omega
  obtain ⟨vp, vr⟩ := pls_ok v hw8
  have v1 := coll_IV v 0
  have v2 := ful_IV0 v1
  have fin : ∀ S1 r h1 u6, plS S w = (some r, S1) → RM h1 S1 sg → MF h h1 → TT 84 103 [rv 3 (some 0), iv (nI i), iv (nI n), iv (nI e), iv (nI w), iv (nI r), u6] [] h1 0 0 (fun x h' => x = some (iv (mkA S w)) ∧ (∃ sg', RM h' (mkT S w n i) sg') ∧ MF h h') := by
    intro S1 r h1 u6 hp m1 mf1
    rw [hp] at vp vr
    obtain ⟨hr, hk, hu⟩ := vr r rfl
    have vp : IV S1 := vp
    have hk : 1 ≤ kd S1 r ∧ kd S1 r ≤ 3 := hk
    have hu : us S1 r + w ≤ 16 := hu
    have e1 : mkA S w = nI (ct S1 3 + 1) := by unfold mkA; rw [hp]
    have e2 : mkT S w n i = mk1 S1 w n i r := by unfold mkT; rw [hp]
    rw [e1, e2]
    have hsw := ((vp.1 r hr).2.1 hk.1 hk.2).1
    have hfp := free_pos vp.2.1 vp.1 vp.w2 hr hsw (by omega)
    refine TT.forget 6 (ls' := [rv 3 (some 0), iv (nI i), iv (nI n), iv (nI e), iv (nI w), iv (nI r), un]) rfl ?_
    refine r_aload_n 104 d_84_103 rfl rfl ?_
    refine r_iload 106 d_84_104 rfl rfl ?_
    refine r_iload_n 107 d_84_106 rfl rfl ?_
    refine r_iload 109 d_84_107 rfl rfl ?_
    refine r_aload_n 110 d_84_109 rfl rfl ?_
    refine r_getR 113 3 9 6 (some 9) d_84_110 rfl fk_3_37 rfl (by decide) (MT.f9 m1.mt) ?_
    refine r_iload 115 d_84_113 rfl rfl ?_
    refine r_iald 116 r (nI (us S1 r)) d_84_115 rfl rfl (MT.l6_9 m1.mt hr) (m1.us hr) ?_
    refine r_callV (k1 := 0) (n1 := 0) (k := 0) (n := 0) 119 81 3 [iv (nI w), iv (nI n), iv (nI r), iv (nI (us S1 r))] d_84_116 rfl mk_81 lk_3_142 mv_81 rfl rfl rfl rfl rfl _ (m_newObject m1 vp (w := w) (by omega) hr (by omega) hfp) ?_
    intro r_116 h_116 q_116
    obtain ⟨j, hj, q1x, q2x, q3x⟩ := q_116
    subst q1x
    have hno : hI h_116 6 0 j = nI (ct S1 3 + 1) := (by have z := q2x.no (o := ct S1 3) ((all_ap_iff (S := niS S1 w n) hr).mpr (Or.inl rfl)); rw [va_up_self] at z; exact z)
    show TT 84 119 [rv 3 (some 0), iv (nI i), iv (nI n), iv (nI e), iv (nI w), iv (nI r), un] [iv (nI j)] h_116 _ _ _
    refine r_istore 121 [rv 3 (some 0), iv (nI i), iv (nI n), iv (nI e), iv (nI w), iv (nI r), iv (nI j)] d_84_119 rfl rfl rfl ?_
    refine r_aload_n 122 d_84_121 rfl rfl ?_
    refine r_getR 125 3 9 6 (some 9) d_84_122 rfl fk_3_37 rfl (by decide) (MT.f9 q2x.mt) ?_
    refine r_iload 127 d_84_125 rfl rfl ?_
    refine r_aload_n 128 d_84_127 rfl rfl ?_
    refine r_getR 131 3 9 6 (some 9) d_84_128 rfl fk_3_37 rfl (by decide) (MT.f9 q2x.mt) ?_
    refine r_iload 133 d_84_131 rfl rfl ?_
    refine r_iald 134 r (nI (us S1 r)) d_84_133 rfl rfl (MT.l6_9 q2x.mt hr) (q2x.us hr) ?_
    refine r_iload 136 d_84_134 rfl rfl ?_
    refine r_iadd 137 (nI (us S1 r + w)) d_84_136 rfl (nI_add _ _) ?_
    refine r_iast 138 r d_84_137 rfl rfl (MT.l6_9 q2x.mt hr) ?_
    refine r_aload_n 139 d_84_138 rfl rfl ?_
    refine r_getR 142 3 10 6 (some 10) d_84_139 rfl fk_3_40 rfl (by decide) (MT.f10 (MT_sI q2x.mt rfl)) ?_
    refine r_iload 144 d_84_142 rfl rfl ?_
    refine r_iconst 145 (-1) d_84_144 rfl (by decide) ?_
    refine r_iast 146 r d_84_145 rfl rfl (MT.l6_10 (MT_sI q2x.mt rfl) hr) ?_
    refine r_aload_n 147 d_84_146 rfl rfl ?_
    refine r_getR 150 3 7 6 (some 7) d_84_147 rfl fk_3_31 rfl (by decide) (MT.f7 (MT_sI (MT_sI q2x.mt rfl) rfl)) ?_
    refine r_iload_n 151 d_84_150 rfl rfl ?_
    refine r_iload 153 d_84_151 rfl rfl ?_
    refine r_iast 154 i d_84_153 rfl rfl (MT.l6_7 (MT_sI (MT_sI q2x.mt rfl) rfl) hi) ?_
    refine r_aload_n 155 d_84_154 rfl rfl ?_
    refine r_getR 158 3 0 6 (some 0) d_84_155 rfl fk_3_7 rfl (by decide) (MT.f0 (MT_sI (MT_sI (MT_sI q2x.mt rfl) rfl) rfl)) ?_
    refine r_iload 160 d_84_158 rfl rfl ?_
    refine r_iald 161 j (nI (ct S1 3 + 1)) d_84_160 rfl rfl (MT.l6_0 (MT_sI (MT_sI (MT_sI q2x.mt rfl) rfl) rfl) hj) (by rw [w6n (by decide), w6n (by decide), w6n (by decide)]; exact hno) ?_
    refine r_ireturn d_84_161 rfl ?_
    exact ⟨rfl, ⟨_, rx_mk1 q2x⟩, MF_sI (MF_sI (MF_sI (mf1.tr q3x) rfl) rfl) rfl⟩
  have s3 : (edP S w).1 = none → (edP (coll S 0) w).1 = none → ∀ h1 u6, RM h1 (coll S 0) sg → MF h h1 → TT 84 63 [rv 3 (some 0), iv (nI i), iv (nI n), iv (nI e), iv (nI w), iv (-1), u6] [] h1 0 0 (fun x h' => x = some (iv (mkA S w)) ∧ (∃ sg', RM h' (mkT S w n i) sg') ∧ MF h h') := by
    intro hE1 hE2 h1 u6 m1 mf1
    refine TT.forget 6 (ls' := [rv 3 (some 0), iv (nI i), iv (nI n), iv (nI e), iv (nI w), iv (-1), un]) rfl ?_
    cases hE3 : (edP (ful (coll S 0)) w).1 with
    | some r =>
      have hr := (edP_some v2 hw8 hE3).1
      have hpl : plS S w = (some r, (edP (ful (coll S 0)) w).2) := by
        unfold plS
        rw [if_neg (fun z => z hE1), if_neg (fun z => z hE2), if_pos (by rw [hE3]; simp)]
        exact Prod.ext hE3 rfl
      refine r_iload 65 d_84_63 rfl rfl ?_
      refine r_if_ge 82 68 d_84_65 (by decide) rfl (fun c_65 => absurd c_65 (by decide)) (fun c_65 => ?_)
      refine r_aload_n 69 d_84_68 rfl rfl ?_
      refine r_callV (k1 := 0) (n1 := 0) (k := 0) (n := 0) 72 76 3 [] d_84_69 rfl mk_76 lk_3_112 mv_76 rfl rfl rfl rfl rfl _ (m_fullC m1 v1) ?_
      intro r_69 h_69 q_69
      obtain ⟨fl, rl, q1x, q2x, q3x⟩ := q_69
      subst q1x
      rw [(ful_of rl).1] at q2x
      show TT 84 72 [rv 3 (some 0), iv (nI i), iv (nI n), iv (nI e), iv (nI w), iv (-1), un] [iv (nI fl.length)] h_69 _ _ _
      refine r_istore 74 [rv 3 (some 0), iv (nI i), iv (nI n), iv (nI e), iv (nI w), iv (-1), iv (nI fl.length)] d_84_72 rfl rfl rfl ?_
      refine r_aload_n 75 d_84_74 rfl rfl ?_
      refine r_iload 77 d_84_75 rfl rfl ?_
      refine r_callV (k1 := 0) (n1 := 0) (k := 0) (n := 0) 80 82 3 [iv (nI w)] d_84_77 rfl mk_82 lk_3_136 mv_82 rfl rfl rfl rfl rfl _ (m_young q2x v2 hw8) ?_
      intro r_77 h_77 q_77
      obtain ⟨p1x, p2x, p3x⟩ := q_77
      rw [hE3] at p1x
      subst p1x
      show TT 84 80 [rv 3 (some 0), iv (nI i), iv (nI n), iv (nI e), iv (nI w), iv (-1), iv (nI fl.length)] [iv (nI r)] h_77 _ _ _
      refine r_istore 82 [rv 3 (some 0), iv (nI i), iv (nI n), iv (nI e), iv (nI w), iv (nI r), iv (nI fl.length)] d_84_80 rfl rfl rfl ?_
      refine r_iload 84 d_84_82 rfl rfl ?_
      refine r_if_ge 95 87 d_84_84 (by decide) rfl (fun c_84 => ?_) (fun c_84 => absurd (nI_nn (by omega)) c_84)
      refine r_iload 97 d_84_95 rfl rfl ?_
      refine r_if_ge 103 100 d_84_97 (by decide) rfl (fun c_97 => ?_) (fun c_97 => absurd (nI_nn (by omega)) c_97)
      exact fin _ r h_77 _ hpl p2x ((mf1.tr q3x).tr p3x)
    | none =>
      have hpl : plS S w = (fst (oldR (ful (coll S 0)) w) 12 0, ful (coll S 0)) := by
        unfold plS
        rw [if_neg (fun z => z hE1), if_neg (fun z => z hE2), if_neg (fun z => z hE3)]
      cases hO : fst (oldR (ful (coll S 0)) w) 12 0 with
      | some r =>
        have hr := fst_lt 12 0 r hO
        rw [hO] at hpl
        refine r_iload 65 d_84_63 rfl rfl ?_
        refine r_if_ge 82 68 d_84_65 (by decide) rfl (fun c_65 => absurd c_65 (by decide)) (fun c_65 => ?_)
        refine r_aload_n 69 d_84_68 rfl rfl ?_
        refine r_callV (k1 := 0) (n1 := 0) (k := 0) (n := 0) 72 76 3 [] d_84_69 rfl mk_76 lk_3_112 mv_76 rfl rfl rfl rfl rfl _ (m_fullC m1 v1) ?_
        intro r_69 h_69 q_69
        obtain ⟨fl, rl, q1x, q2x, q3x⟩ := q_69
        subst q1x
        rw [(ful_of rl).1] at q2x
        show TT 84 72 [rv 3 (some 0), iv (nI i), iv (nI n), iv (nI e), iv (nI w), iv (-1), un] [iv (nI fl.length)] h_69 _ _ _
        refine r_istore 74 [rv 3 (some 0), iv (nI i), iv (nI n), iv (nI e), iv (nI w), iv (-1), iv (nI fl.length)] d_84_72 rfl rfl rfl ?_
        refine r_aload_n 75 d_84_74 rfl rfl ?_
        refine r_iload 77 d_84_75 rfl rfl ?_
        refine r_callV (k1 := 0) (n1 := 0) (k := 0) (n := 0) 80 82 3 [iv (nI w)] d_84_77 rfl mk_82 lk_3_136 mv_82 rfl rfl rfl rfl rfl _ (m_young q2x v2 hw8) ?_
        intro r_77 h_77 q_77
        obtain ⟨p1x, p2x, p3x⟩ := q_77
        rw [hE3] at p1x
        subst p1x
        rw [edP_none hE3] at p2x
        show TT 84 80 [rv 3 (some 0), iv (nI i), iv (nI n), iv (nI e), iv (nI w), iv (-1), iv (nI fl.length)] [iv (-1)] h_77 _ _ _
        refine r_istore 82 [rv 3 (some 0), iv (nI i), iv (nI n), iv (nI e), iv (nI w), iv (-1), iv (nI fl.length)] d_84_80 rfl rfl rfl ?_
        refine r_iload 84 d_84_82 rfl rfl ?_
        refine r_if_ge 95 87 d_84_84 (by decide) rfl (fun c_84 => absurd c_84 (by decide)) (fun c_84 => ?_)
        refine r_aload_n 88 d_84_87 rfl rfl ?_
        refine r_iload 90 d_84_88 rfl rfl ?_
        refine r_callV (k1 := 0) (n1 := 0) (k := 0) (n := 0) 93 83 3 [iv (nI w)] d_84_90 rfl mk_83 lk_3_139 mv_83 rfl rfl rfl rfl rfl _ (m_oldWithRoom p2x v2 hw8) ?_
        intro r_90 h_90 q_90
        obtain ⟨o1x, o2x⟩ := q_90
        subst o1x
        rw [hO] at o2x
        subst o2x
        show TT 84 93 [rv 3 (some 0), iv (nI i), iv (nI n), iv (nI e), iv (nI w), iv (-1), iv (nI fl.length)] [iv (nI r)] h_90 _ _ _
        refine r_istore 95 [rv 3 (some 0), iv (nI i), iv (nI n), iv (nI e), iv (nI w), iv (nI r), iv (nI fl.length)] d_84_93 rfl rfl rfl ?_
        refine r_iload 97 d_84_95 rfl rfl ?_
        refine r_if_ge 103 100 d_84_97 (by decide) rfl (fun c_97 => ?_) (fun c_97 => absurd (nI_nn (by omega)) c_97)
        exact fin _ r _ _ hpl p2x ((mf1.tr q3x).tr p3x)
      | none =>
        rw [hO] at hpl
        have e1 : mkA S w = -2 := by unfold mkA; rw [hpl]
        have e2 : mkT S w n i = ful (coll S 0) := by unfold mkT; rw [hpl]
        rw [e1, e2]
        refine r_iload 65 d_84_63 rfl rfl ?_
        refine r_if_ge 82 68 d_84_65 (by decide) rfl (fun c_65 => absurd c_65 (by decide)) (fun c_65 => ?_)
        refine r_aload_n 69 d_84_68 rfl rfl ?_
        refine r_callV (k1 := 0) (n1 := 0) (k := 0) (n := 0) 72 76 3 [] d_84_69 rfl mk_76 lk_3_112 mv_76 rfl rfl rfl rfl rfl _ (m_fullC m1 v1) ?_
        intro r_69 h_69 q_69
        obtain ⟨fl, rl, q1x, q2x, q3x⟩ := q_69
        subst q1x
        rw [(ful_of rl).1] at q2x
        show TT 84 72 [rv 3 (some 0), iv (nI i), iv (nI n), iv (nI e), iv (nI w), iv (-1), un] [iv (nI fl.length)] h_69 _ _ _
        refine r_istore 74 [rv 3 (some 0), iv (nI i), iv (nI n), iv (nI e), iv (nI w), iv (-1), iv (nI fl.length)] d_84_72 rfl rfl rfl ?_
        refine r_aload_n 75 d_84_74 rfl rfl ?_
        refine r_iload 77 d_84_75 rfl rfl ?_
        refine r_callV (k1 := 0) (n1 := 0) (k := 0) (n := 0) 80 82 3 [iv (nI w)] d_84_77 rfl mk_82 lk_3_136 mv_82 rfl rfl rfl rfl rfl _ (m_young q2x v2 hw8) ?_
        intro r_77 h_77 q_77
        obtain ⟨p1x, p2x, p3x⟩ := q_77
        rw [hE3] at p1x
        subst p1x
        rw [edP_none hE3] at p2x
        show TT 84 80 [rv 3 (some 0), iv (nI i), iv (nI n), iv (nI e), iv (nI w), iv (-1), iv (nI fl.length)] [iv (-1)] h_77 _ _ _
        refine r_istore 82 [rv 3 (some 0), iv (nI i), iv (nI n), iv (nI e), iv (nI w), iv (-1), iv (nI fl.length)] d_84_80 rfl rfl rfl ?_
        refine r_iload 84 d_84_82 rfl rfl ?_
        refine r_if_ge 95 87 d_84_84 (by decide) rfl (fun c_84 => absurd c_84 (by decide)) (fun c_84 => ?_)
        refine r_aload_n 88 d_84_87 rfl rfl ?_
        refine r_iload 90 d_84_88 rfl rfl ?_
        refine r_callV (k1 := 0) (n1 := 0) (k := 0) (n := 0) 93 83 3 [iv (nI w)] d_84_90 rfl mk_83 lk_3_139 mv_83 rfl rfl rfl rfl rfl _ (m_oldWithRoom p2x v2 hw8) ?_
        intro r_90 h_90 q_90
        obtain ⟨o1x, o2x⟩ := q_90
        subst o1x
        rw [hO] at o2x
        subst o2x
        show TT 84 93 [rv 3 (some 0), iv (nI i), iv (nI n), iv (nI e), iv (nI w), iv (-1), iv (nI fl.length)] [iv (-1)] h_90 _ _ _
        refine r_istore 95 [rv 3 (some 0), iv (nI i), iv (nI n), iv (nI e), iv (nI w), iv (-1), iv (nI fl.length)] d_84_93 rfl rfl rfl ?_
        refine r_iload 97 d_84_95 rfl rfl ?_
        refine r_if_ge 103 100 d_84_97 (by decide) rfl (fun c_97 => absurd c_97 (by decide)) (fun c_97 => ?_)
        refine r_bipush 102 (-2) d_84_100 rfl (by decide) ?_
        refine r_ireturn d_84_102 rfl ?_
        exact ⟨rfl, ⟨sg, p2x⟩, (mf1.tr q3x).tr p3x⟩
  have s2 : (edP S w).1 = none → ∀ h1 u6, RM h1 S sg → MF h h1 → TT 84 43 [rv 3 (some 0), iv (nI i), iv (nI n), iv (nI e), iv (nI w), iv (-1), u6] [] h1 0 0 (fun x h' => x = some (iv (mkA S w)) ∧ (∃ sg', RM h' (mkT S w n i) sg') ∧ MF h h') := by
    intro hE1 h1 u6 m1 mf1
    refine TT.forget 6 (ls' := [rv 3 (some 0), iv (nI i), iv (nI n), iv (nI e), iv (nI w), iv (-1), un]) rfl ?_
    cases hE2 : (edP (coll S 0) w).1 with
    | some r =>
      have hr := (edP_some v1 hw8 hE2).1
      have hpl : plS S w = (some r, (edP (coll S 0) w).2) := by
        unfold plS
        rw [if_neg (fun z => z hE1), if_pos (by rw [hE2]; simp)]
        exact Prod.ext hE2 rfl
      refine r_iload 45 d_84_43 rfl rfl ?_
      refine r_if_ge 63 48 d_84_45 (by decide) rfl (fun c_45 => absurd c_45 (by decide)) (fun c_45 => ?_)
      refine r_aload_n 49 d_84_48 rfl rfl ?_
      refine r_iconst 50 (nI 0) d_84_49 rfl (by decide) ?_
      refine r_callV (k1 := 0) (n1 := 0) (k := 0) (n := 0) 53 75 3 [iv (nI 0)] d_84_50 rfl mk_75 lk_3_129 mv_75 rfl rfl rfl rfl rfl _ (m_collection m1 v (bu := 0) (by decide)) ?_
      intro r_50 h_50 q_50
      obtain ⟨q1x, q2x, q3x⟩ := q_50
      subst q1x
      show TT 84 53 [rv 3 (some 0), iv (nI i), iv (nI n), iv (nI e), iv (nI w), iv (-1), un] [iv (collA S 0)] h_50 _ _ _
      refine r_istore 55 [rv 3 (some 0), iv (nI i), iv (nI n), iv (nI e), iv (nI w), iv (-1), iv (collA S 0)] d_84_53 rfl rfl rfl ?_
      refine r_aload_n 56 d_84_55 rfl rfl ?_
      refine r_iload 58 d_84_56 rfl rfl ?_
      refine r_callV (k1 := 0) (n1 := 0) (k := 0) (n := 0) 61 82 3 [iv (nI w)] d_84_58 rfl mk_82 lk_3_136 mv_82 rfl rfl rfl rfl rfl _ (m_young q2x v1 hw8) ?_
      intro r_58 h_58 q_58
      obtain ⟨p1x, p2x, p3x⟩ := q_58
      rw [hE2] at p1x
      subst p1x
      show TT 84 61 [rv 3 (some 0), iv (nI i), iv (nI n), iv (nI e), iv (nI w), iv (-1), iv (collA S 0)] [iv (nI r)] h_58 _ _ _
      refine r_istore 63 [rv 3 (some 0), iv (nI i), iv (nI n), iv (nI e), iv (nI w), iv (nI r), iv (collA S 0)] d_84_61 rfl rfl rfl ?_
      refine r_iload 65 d_84_63 rfl rfl ?_
      refine r_if_ge 82 68 d_84_65 (by decide) rfl (fun c_65 => ?_) (fun c_65 => absurd (nI_nn (by omega)) c_65)
      refine r_iload 84 d_84_82 rfl rfl ?_
      refine r_if_ge 95 87 d_84_84 (by decide) rfl (fun c_84 => ?_) (fun c_84 => absurd (nI_nn (by omega)) c_84)
      refine r_iload 97 d_84_95 rfl rfl ?_
      refine r_if_ge 103 100 d_84_97 (by decide) rfl (fun c_97 => ?_) (fun c_97 => absurd (nI_nn (by omega)) c_97)
      exact fin _ r h_58 _ hpl p2x ((mf1.tr q3x).tr p3x)
    | none =>
      refine r_iload 45 d_84_43 rfl rfl ?_
      refine r_if_ge 63 48 d_84_45 (by decide) rfl (fun c_45 => absurd c_45 (by decide)) (fun c_45 => ?_)
      refine r_aload_n 49 d_84_48 rfl rfl ?_
      refine r_iconst 50 (nI 0) d_84_49 rfl (by decide) ?_
      refine r_callV (k1 := 0) (n1 := 0) (k := 0) (n := 0) 53 75 3 [iv (nI 0)] d_84_50 rfl mk_75 lk_3_129 mv_75 rfl rfl rfl rfl rfl _ (m_collection m1 v (bu := 0) (by decide)) ?_
      intro r_50 h_50 q_50
      obtain ⟨q1x, q2x, q3x⟩ := q_50
      subst q1x
      show TT 84 53 [rv 3 (some 0), iv (nI i), iv (nI n), iv (nI e), iv (nI w), iv (-1), un] [iv (collA S 0)] h_50 _ _ _
      refine r_istore 55 [rv 3 (some 0), iv (nI i), iv (nI n), iv (nI e), iv (nI w), iv (-1), iv (collA S 0)] d_84_53 rfl rfl rfl ?_
      refine r_aload_n 56 d_84_55 rfl rfl ?_
      refine r_iload 58 d_84_56 rfl rfl ?_
      refine r_callV (k1 := 0) (n1 := 0) (k := 0) (n := 0) 61 82 3 [iv (nI w)] d_84_58 rfl mk_82 lk_3_136 mv_82 rfl rfl rfl rfl rfl _ (m_young q2x v1 hw8) ?_
      intro r_58 h_58 q_58
      obtain ⟨p1x, p2x, p3x⟩ := q_58
      rw [hE2] at p1x
      subst p1x
      rw [edP_none hE2] at p2x
      show TT 84 61 [rv 3 (some 0), iv (nI i), iv (nI n), iv (nI e), iv (nI w), iv (-1), iv (collA S 0)] [iv (-1)] h_58 _ _ _
      refine r_istore 63 [rv 3 (some 0), iv (nI i), iv (nI n), iv (nI e), iv (nI w), iv (-1), iv (collA S 0)] d_84_61 rfl rfl rfl ?_
      exact s3 hE1 hE2 h_58 _ p2x ((mf1.tr q3x).tr p3x)
  have hroot : bI (ix 6 (nI i)).isNone = 0 := by rw [ix_nI (by decide) hi]; rfl
  cases hE1 : (edP S w).1 with
  | some r =>
    have hr := (edP_some v hw8 hE1).1
    have hpl : plS S w = (some r, (edP S w).2) := by
      unfold plS
      rw [if_pos (by rw [hE1]; simp)]
      exact Prod.ext hE1 rfl
    refine r_aload_n 1 d_84_0 rfl rfl ?_
    refine r_iload_n 2 d_84_1 rfl rfl ?_
    refine r_callV (k1 := 0) (n1 := 0) (k := 0) (n := 0) 5 62 3 [iv (nI i)] d_84_2 rfl mk_62 lk_3_132 mv_62 rfl rfl rfl rfl rfl _ (m_noRoot h (nI i)) ?_
    intro r_2 h_2 q_2
    obtain ⟨q1, q2⟩ := q_2
    subst q2
    rw [q1]
    show TT 84 5 [rv 3 (some 0), iv (nI i), iv (nI n), iv (nI e), un, un, un] [iv (bI (ix 6 (nI i)).isNone)] h _ _ _
    refine r_if_ne 26 8 d_84_5 (by decide) rfl (fun c_5 => absurd c_5 (fun z => z hroot)) (fun c_5 => ?_)
    refine r_iload_n 9 d_84_8 rfl rfl ?_
    refine r_if_lt 26 12 d_84_9 (by decide) rfl (fun c_9 => absurd c_9 (nI_pos (by omega))) (fun c_9 => ?_)
    refine r_iload_n 13 d_84_12 rfl rfl ?_
    refine r_iconst 14 (nI 3) d_84_13 rfl (by decide) ?_
    refine r_icmp_gt 26 17 d_84_14 (by decide) rfl (fun c_14 => absurd c_14 (fun z => absurd ((nI_ltI (by decide) (by omega)).mp z) (by omega))) (fun c_14 => ?_)
    refine r_iload_n 18 d_84_17 rfl rfl ?_
    refine r_if_lt 26 21 d_84_18 (by decide) rfl (fun c_18 => absurd c_18 (nI_pos (by omega))) (fun c_18 => ?_)
    refine r_iload_n 22 d_84_21 rfl rfl ?_
    refine r_iconst 23 (nI 3) d_84_22 rfl (by decide) ?_
    refine r_icmp_le 28 26 d_84_23 (by decide) rfl (fun c_23 => ?_) (fun c_23 => absurd (nI_le (by omega) (by decide)) c_23)
    refine r_iconst 29 (nI 2) d_84_28 rfl (by decide) ?_
    refine r_iload_n 30 d_84_29 rfl rfl ?_
    refine r_iadd 31 (nI (2 + n)) d_84_30 rfl (nI_add _ _) ?_
    refine r_iload_n 32 d_84_31 rfl rfl ?_
    refine r_iadd 33 (nI w) d_84_32 rfl ((nI_add _ _).trans (by rw [hw])) ?_
    refine r_istore 35 [rv 3 (some 0), iv (nI i), iv (nI n), iv (nI e), iv (nI w), un, un] d_84_33 rfl rfl rfl ?_
    refine r_aload_n 36 d_84_35 rfl rfl ?_
    refine r_iload 38 d_84_36 rfl rfl ?_
    refine r_callV (k1 := 0) (n1 := 0) (k := 0) (n := 0) 41 82 3 [iv (nI w)] d_84_38 rfl mk_82 lk_3_136 mv_82 rfl rfl rfl rfl rfl _ (m_young m v hw8) ?_
    intro r_38 h_38 q_38
    obtain ⟨p1x, p2x, p3x⟩ := q_38
    rw [hE1] at p1x
    subst p1x
    show TT 84 41 [rv 3 (some 0), iv (nI i), iv (nI n), iv (nI e), iv (nI w), un, un] [iv (nI r)] h_38 _ _ _
    refine r_istore 43 [rv 3 (some 0), iv (nI i), iv (nI n), iv (nI e), iv (nI w), iv (nI r), un] d_84_41 rfl rfl rfl ?_
    refine r_iload 45 d_84_43 rfl rfl ?_
    refine r_if_ge 63 48 d_84_45 (by decide) rfl (fun c_45 => ?_) (fun c_45 => absurd (nI_nn (by omega)) c_45)
    refine r_iload 65 d_84_63 rfl rfl ?_
    refine r_if_ge 82 68 d_84_65 (by decide) rfl (fun c_65 => ?_) (fun c_65 => absurd (nI_nn (by omega)) c_65)
    refine r_iload 84 d_84_82 rfl rfl ?_
    refine r_if_ge 95 87 d_84_84 (by decide) rfl (fun c_84 => ?_) (fun c_84 => absurd (nI_nn (by omega)) c_84)
    refine r_iload 97 d_84_95 rfl rfl ?_
    refine r_if_ge 103 100 d_84_97 (by decide) rfl (fun c_97 => ?_) (fun c_97 => absurd (nI_nn (by omega)) c_97)
    exact fin _ r h_38 _ hpl p2x p3x
  | none =>
    refine r_aload_n 1 d_84_0 rfl rfl ?_
    refine r_iload_n 2 d_84_1 rfl rfl ?_
    refine r_callV (k1 := 0) (n1 := 0) (k := 0) (n := 0) 5 62 3 [iv (nI i)] d_84_2 rfl mk_62 lk_3_132 mv_62 rfl rfl rfl rfl rfl _ (m_noRoot h (nI i)) ?_
    intro r_2 h_2 q_2
    obtain ⟨q1, q2⟩ := q_2
    subst q2
    rw [q1]
    show TT 84 5 [rv 3 (some 0), iv (nI i), iv (nI n), iv (nI e), un, un, un] [iv (bI (ix 6 (nI i)).isNone)] h _ _ _
    refine r_if_ne 26 8 d_84_5 (by decide) rfl (fun c_5 => absurd c_5 (fun z => z hroot)) (fun c_5 => ?_)
    refine r_iload_n 9 d_84_8 rfl rfl ?_
    refine r_if_lt 26 12 d_84_9 (by decide) rfl (fun c_9 => absurd c_9 (nI_pos (by omega))) (fun c_9 => ?_)
    refine r_iload_n 13 d_84_12 rfl rfl ?_
    refine r_iconst 14 (nI 3) d_84_13 rfl (by decide) ?_
    refine r_icmp_gt 26 17 d_84_14 (by decide) rfl (fun c_14 => absurd c_14 (fun z => absurd ((nI_ltI (by decide) (by omega)).mp z) (by omega))) (fun c_14 => ?_)
    refine r_iload_n 18 d_84_17 rfl rfl ?_
    refine r_if_lt 26 21 d_84_18 (by decide) rfl (fun c_18 => absurd c_18 (nI_pos (by omega))) (fun c_18 => ?_)
    refine r_iload_n 22 d_84_21 rfl rfl ?_
    refine r_iconst 23 (nI 3) d_84_22 rfl (by decide) ?_
    refine r_icmp_le 28 26 d_84_23 (by decide) rfl (fun c_23 => ?_) (fun c_23 => absurd (nI_le (by omega) (by decide)) c_23)
    refine r_iconst 29 (nI 2) d_84_28 rfl (by decide) ?_
    refine r_iload_n 30 d_84_29 rfl rfl ?_
    refine r_iadd 31 (nI (2 + n)) d_84_30 rfl (nI_add _ _) ?_
    refine r_iload_n 32 d_84_31 rfl rfl ?_
    refine r_iadd 33 (nI w) d_84_32 rfl ((nI_add _ _).trans (by rw [hw])) ?_
    refine r_istore 35 [rv 3 (some 0), iv (nI i), iv (nI n), iv (nI e), iv (nI w), un, un] d_84_33 rfl rfl rfl ?_
    refine r_aload_n 36 d_84_35 rfl rfl ?_
    refine r_iload 38 d_84_36 rfl rfl ?_
    refine r_callV (k1 := 0) (n1 := 0) (k := 0) (n := 0) 41 82 3 [iv (nI w)] d_84_38 rfl mk_82 lk_3_136 mv_82 rfl rfl rfl rfl rfl _ (m_young m v hw8) ?_
    intro r_38 h_38 q_38
    obtain ⟨p1x, p2x, p3x⟩ := q_38
    rw [hE1] at p1x
    subst p1x
    rw [edP_none hE1] at p2x
    show TT 84 41 [rv 3 (some 0), iv (nI i), iv (nI n), iv (nI e), iv (nI w), un, un] [iv (-1)] h_38 _ _ _
    refine r_istore 43 [rv 3 (some 0), iv (nI i), iv (nI n), iv (nI e), iv (nI w), iv (-1), un] d_84_41 rfl rfl rfl ?_
    exact s2 hE1 h_38 _ p2x p3x
theorem m_make_bad {h : AH} (a b d : Int32) (hb : ix 6 a = none ∨ ix 4 b = none ∨ ix 4 d = none) : TT 84 0 [rv 3 (some 0), iv a, iv b, iv d, un, un, un] [] h 0 0 (fun x h' => h' = h ∧ x = some (iv (-1))) := by
  refine r_aload_n 1 d_84_0 rfl rfl ?_
  refine r_iload_n 2 d_84_1 rfl rfl ?_
  refine r_callV (k1 := 0) (n1 := 0) (k := 0) (n := 0) 5 62 3 [iv a] d_84_2 rfl mk_62 lk_3_132 mv_62 rfl rfl rfl rfl rfl _ (m_noRoot h a) ?_
  intro r_2 h_2 q_2
  obtain ⟨q1, q2⟩ := q_2
  subst q2
  rw [q1]
  show TT 84 5 [rv 3 (some 0), iv a, iv b, iv d, un, un, un] [iv (bI (ix 6 a).isNone)] h _ _ _
  refine r_if_ne 26 8 d_84_5 (by decide) rfl (fun c_5 => ?_) (fun c_5 => ?_)
  · skip
    refine r_iconst 27 (-1) d_84_26 rfl (by decide) ?_
    refine r_ireturn d_84_27 rfl ?_
    exact ⟨rfl, rfl⟩
  · skip
    refine r_iload_n 9 d_84_8 rfl rfl ?_
    refine r_if_lt 26 12 d_84_9 (by decide) rfl (fun c_9 => ?_) (fun c_9 => ?_)
    · skip
      refine r_iconst 27 (-1) d_84_26 rfl (by decide) ?_
      refine r_ireturn d_84_27 rfl ?_
      exact ⟨rfl, rfl⟩
    · skip
      refine r_iload_n 13 d_84_12 rfl rfl ?_
      refine r_iconst 14 (nI 3) d_84_13 rfl (by decide) ?_
      refine r_icmp_gt 26 17 d_84_14 (by decide) rfl (fun c_14 => ?_) (fun c_14 => ?_)
      · skip
        refine r_iconst 27 (-1) d_84_26 rfl (by decide) ?_
        refine r_ireturn d_84_27 rfl ?_
        exact ⟨rfl, rfl⟩
      · skip
        refine r_iload_n 18 d_84_17 rfl rfl ?_
        refine r_if_lt 26 21 d_84_18 (by decide) rfl (fun c_18 => ?_) (fun c_18 => ?_)
        · skip
          refine r_iconst 27 (-1) d_84_26 rfl (by decide) ?_
          refine r_ireturn d_84_27 rfl ?_
          exact ⟨rfl, rfl⟩
        · skip
          refine r_iload_n 22 d_84_21 rfl rfl ?_
          refine r_iconst 23 (nI 3) d_84_22 rfl (by decide) ?_
          refine r_icmp_le 28 26 d_84_23 (by decide) rfl (fun c_23 => ?_) (fun c_23 => ?_)
          · skip
            exfalso
            have s1 := bI_0 c_5
            rcases hb with q | q | q
            · rw [q] at s1; cases s1
            · obtain ⟨j, -, -, hj⟩ := ix_in (n := 4) (a := b) (by decide) c_9 (fun z => absurd (Int32.not_lt.mp c_14) (Int32.not_le.mpr (lt_of_le4 z)))
              rw [hj] at q
              cases q
            · obtain ⟨j, -, -, hj⟩ := ix_in (n := 4) (a := d) (by decide) c_18 (fun z => absurd c_23 (Int32.not_le.mpr (lt_of_le4 z)))
              rw [hj] at q
              cases q
          · skip
            refine r_iconst 27 (-1) d_84_26 rfl (by decide) ?_
            refine r_ireturn d_84_27 rfl ?_
            exact ⟨rfl, rfl⟩
