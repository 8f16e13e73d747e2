/-! contracts of the reference: choosing within a budget -/
theorem wA {h : AH} {s i k k' : Nat} {v : Int32} : hI (sI h s i k v) s i k' = if k' = k then v else hI h s i k' := by
  rw [hI_sI]
  by_cases e : k' = k
  · rw [if_pos e, if_pos ⟨rfl, e, rfl⟩]
  · rw [if_neg e, if_neg (fun z => e z.2.1)]
theorem b_up {ch : Nat → Bool} {q r : Nat} {b : Bool} {x : Int32} (h : x = bI (ch r)) : (if r = q then bI b else x) = bI (va_up ch q b r) := by
  unfold va_up
  split
  · rfl
  · exact h
theorem m_choose {h : AH} {S : SS} {sg : Nat → Nat} (m : RM h S sg) (v : IV S) {bu : Nat} (hbu : bu < 2 ^ 31) : TT 69 0 [rv 3 (some 0), iv (nI bu), un, un, un, un, un, un, un] [] h 0 0 (fun x h' => x = none ∧ XF h h' ∧ ∀ r, r < 12 → hI h' 7 3 r = bI (chF S bu r)) := by
  have b := v.bd
  have main : ∀ n t h1 k bf sp ch u6 u7 u8, t + n = 12 → XF h h1 → (∀ r, r < 12 → hI h1 7 3 r = bI (ch r)) → (∀ r, r < 12 → k r = kb S bf r) → (∀ p, bf = some p → p < 12 ∧ cand S p = true) → sp ≤ bu → chF S bu = chs S bu n k sp ch → TT 69 32 [rv 3 (some 0), iv (nI bu), jv (lN sp), un, iv (ol bf), iv (nI t), u6, u7, u8] [] h1 0 0 (fun x h' => x = none ∧ XF h h' ∧ ∀ r, r < 12 → hI h' 7 3 r = bI (chF S bu r)) := by
    intro n
    induction n with
    | zero =>
      intro t h1 k bf sp ch u6 u7 u8 ht xf pk_ hk hbf hsp he
      obtain rfl : t = 12 := by omega
      refine TT.forget 6 (ls' := [rv 3 (some 0), iv (nI bu), jv (lN sp), un, iv (ol bf), iv (nI 12), un, u7, u8]) rfl ?_
      refine TT.forget 7 (ls' := [rv 3 (some 0), iv (nI bu), jv (lN sp), un, iv (ol bf), iv (nI 12), un, un, u8]) rfl ?_
      refine TT.forget 8 (ls' := [rv 3 (some 0), iv (nI bu), jv (lN sp), un, iv (ol bf), iv (nI 12), un, un, un]) rfl ?_
      have e1 : chF S bu = ch := he
      rw [e1]
      refine r_iload 34 d_69_32 rfl rfl ?_
      refine r_bipush 36 (nI 12) d_69_34 rfl (by decide) ?_
      refine r_icmp_ge 206 39 d_69_36 (by decide) rfl (fun c_36 => ?_) (fun c_36 => absurd (nI_le (Nat.le_refl _) (by decide)) c_36)
      refine r_return d_69_206 rfl ?_
      exact ⟨rfl, xf, pk_⟩
    | succ n ih =>
      intro t h1 k bf sp ch u6 u7 u8 ht xf pk_ hk hbf hsp he
      refine TT.forget 6 (ls' := [rv 3 (some 0), iv (nI bu), jv (lN sp), un, iv (ol bf), iv (nI t), un, u7, u8]) rfl ?_
      refine TT.forget 7 (ls' := [rv 3 (some 0), iv (nI bu), jv (lN sp), un, iv (ol bf), iv (nI t), un, un, u8]) rfl ?_
      refine TT.forget 8 (ls' := [rv 3 (some 0), iv (nI bu), jv (lN sp), un, iv (ol bf), iv (nI t), un, un, un]) rfl ?_
      have m1 := RX_XF m xf
      obtain ⟨B, hB⟩ : ∃ B, bst S (kb S bf) 12 0 none = B := ⟨_, rfl⟩
      have hBk : bst S k 12 0 none = B := (bst_cg 12 0 none (fun x _ hx => hk x (by omega))).trans hB
      have fin : ∀ u8, TT 69 144 [rv 3 (some 0), iv (nI bu), jv (lN sp), un, iv (ol bf), iv (nI t), iv (ol B), iv (nI 12), u8] [] h1 0 0 (fun x h' => x = none ∧ XF h h' ∧ ∀ r, r < 12 → hI h' 7 3 r = bI (chF S bu r)) := by
        intro u8
        refine TT.forget 8 (ls' := [rv 3 (some 0), iv (nI bu), jv (lN sp), un, iv (ol bf), iv (nI t), iv (ol B), iv (nI 12), un]) rfl ?_
        cases B with
        | none =>
          have e1 : chF S bu = ch := by rw [he, chs, hBk]
          rw [e1]
          refine r_iload 146 d_69_144 rfl rfl ?_
          refine r_if_lt 199 149 d_69_146 (by decide) rfl (fun c_146 => ?_) (fun c_146 => absurd (by decide) c_146)
          refine r_return d_69_199 rfl ?_
          exact ⟨rfl, xf, pk_⟩
        | some q =>
          obtain ⟨hq12, kq⟩ := bst_ok 12 0 none (fun q hq => by cases hq) (by decide) q hBk
          have kq2 := kq
          rw [hk q hq12] at kq2
          have cq : cand S q = true := by unfold kb at kq2; rw [Bool.and_eq_true] at kq2; exact kq2.1
          obtain ⟨-, lq, -⟩ := cand_ok cq
          have hlq : hI h1 6 10 q = nI (lv0 S q) := (m1.lw hq12).trans (by rw [lq]; rfl)
          have hc := inc_leV v q
          have hl := lv0_le b hq12
          have hcs : cst S q ≤ 305 := by unfold cst; omega
          have e1 : chF S bu = if cst S q ≤ bu - sp then chs S bu n (va_up k q false) (sp + cst S q) (va_up ch q true) else chs S bu n (va_up k q false) sp ch := by rw [he, chs, hBk]
          refine r_iload 146 d_69_144 rfl rfl ?_
          refine r_if_lt 199 149 d_69_146 (by decide) rfl (fun c_146 => absurd c_146 (nI_pos (by omega))) (fun c_146 => ?_)
          refine r_iconst 150 (nI 1) d_69_149 rfl (by decide) ?_
          refine r_aload_n 151 d_69_150 rfl rfl ?_
          refine r_getR 154 3 10 6 (some 10) d_69_151 rfl fk_3_40 rfl (by decide) (MT.f10 m1.mt) ?_
          refine r_iload 156 d_69_154 rfl rfl ?_
          refine r_iald 157 q (nI (lv0 S q)) d_69_156 rfl rfl (MT.l6_10 m1.mt hq12) hlq ?_
          refine r_iadd 158 (nI (1 + (lv0 S q))) d_69_157 rfl (nI_add 1 (lv0 S q)) ?_
          refine r_aload_n 159 d_69_158 rfl rfl ?_
          refine r_iload 161 d_69_159 rfl rfl ?_
          refine r_callV (k1 := 0) (n1 := 0) (k := 0) (n := 0) 164 68 3 [iv (nI q)] d_69_161 rfl mk_68 lk_3_88 mv_68 rfl rfl rfl rfl rfl _ (m_incomingOf m1 v hq12) ?_
          intro r_161 h_161 q_161
          obtain ⟨q1, q2⟩ := q_161
          subst q2
          rw [q1]
          show TT 69 164 [rv 3 (some 0), iv (nI bu), jv (lN sp), un, iv (ol bf), iv (nI t), iv (nI q), iv (nI 12), un] [iv (nI (inc S q)), iv (nI (1 + (lv0 S q)))] h1 _ _ _
          refine r_iadd 165 (nI (cst S q)) d_69_164 rfl (nI_add _ _) ?_
          refine r_istore 167 [rv 3 (some 0), iv (nI bu), jv (lN sp), un, iv (ol bf), iv (nI t), iv (nI q), iv (nI (cst S q)), un] d_69_165 rfl rfl rfl ?_
          refine r_lload_n 168 d_69_167 rfl rfl ?_
          refine r_iload 170 d_69_168 rfl rfl ?_
          refine r_i2l 171 (lN (cst S q)) d_69_170 rfl (nI_l (by omega)) ?_
          refine r_ladd 172 (lN (sp + cst S q)) d_69_171 rfl (lN_add _ _) ?_
          refine r_iload_n 173 d_69_172 rfl rfl ?_
          refine r_i2l 174 (lN bu) d_69_173 rfl (nI_l hbu) ?_
          refine r_lcmp 175 (lg_cmp (lN (sp + cst S q)) (lN bu)) d_69_174 rfl rfl ?_
          refine r_if_gt 192 178 d_69_175 (by decide) rfl (fun c_175 => ?_) (fun c_175 => ?_)
          · skip
            refine r_iload 194 d_69_192 rfl rfl ?_
            refine r_istore 196 [rv 3 (some 0), iv (nI bu), jv (lN sp), un, iv (nI q), iv (nI t), iv (nI q), iv (nI (cst S q)), un] d_69_194 rfl rfl rfl ?_
            refine r_goto 200 d_69_196 (by decide) ?_
            refine r_iinc 203 (nI (t + 1)) [rv 3 (some 0), iv (nI bu), jv (lN sp), un, iv (nI q), iv (nI (t + 1)), iv (nI q), iv (nI (cst S q)), un] d_69_200 rfl rfl (nI_1 t) rfl rfl ?_
            refine r_goto 32 d_69_203 (by decide) ?_
            first
            | (have hle : ¬ cst S q ≤ bu - sp := (by have := (pk_lLT (by omega) (by omega)).mp ((lg_cmp_gt _ _).mp c_175); omega); exact ih (t + 1) _ _ (some q) _ _ _ _ _ (by omega) xf pk_ (kb_up hk hq12 hBk) (fun p hp => by cases hp; exact ⟨hq12, cq⟩) hsp (by rw [e1, if_neg hle]))
            | (have hle : cst S q ≤ bu - sp := (by have : ¬ bu < sp + cst S q := fun z => c_175 ((lg_cmp_gt _ _).mpr ((pk_lLT (a := bu) (b := sp + cst S q) (by omega) (by omega)).mpr z)); omega); exact ih (t + 1) _ _ (some q) _ (va_up ch q true) _ _ _ (by omega) (XF_sI xf rfl) (fun r hr => by rw [wA]; exact b_up (b := true) (pk_ r hr)) (kb_up hk hq12 hBk) (fun p hp => by cases hp; exact ⟨hq12, cq⟩) (by omega) (by rw [e1, if_pos hle]))
          · skip
            refine r_lload_n 179 d_69_178 rfl rfl ?_
            refine r_iload 181 d_69_179 rfl rfl ?_
            refine r_i2l 182 (lN (cst S q)) d_69_181 rfl (nI_l (by omega)) ?_
            refine r_ladd 183 (lN (sp + cst S q)) d_69_182 rfl (lN_add _ _) ?_
            refine r_lstore_n 184 [rv 3 (some 0), iv (nI bu), jv (lN (sp + cst S q)), un, iv (ol bf), iv (nI t), iv (nI q), iv (nI (cst S q)), un] d_69_183 rfl rfl rfl rfl ?_
            refine r_aload_n 185 d_69_184 rfl rfl ?_
            refine r_getR 188 3 24 7 (some 3) d_69_185 rfl fk_3_78 rfl (by decide) (MT.f24 m1.mt) ?_
            refine r_iload 190 d_69_188 rfl rfl ?_
            refine r_iconst 191 (nI 1) d_69_190 rfl (by decide) ?_
            refine r_bast 192 q d_69_191 rfl rfl (MT.l7_3 m1.mt hq12) rfl ?_
            refine r_iload 194 d_69_192 rfl rfl ?_
            refine r_istore 196 [rv 3 (some 0), iv (nI bu), jv (lN (sp + cst S q)), un, iv (nI q), iv (nI t), iv (nI q), iv (nI (cst S q)), un] d_69_194 rfl rfl rfl ?_
            refine r_goto 200 d_69_196 (by decide) ?_
            refine r_iinc 203 (nI (t + 1)) [rv 3 (some 0), iv (nI bu), jv (lN (sp + cst S q)), un, iv (nI q), iv (nI (t + 1)), iv (nI q), iv (nI (cst S q)), un] d_69_200 rfl rfl (nI_1 t) rfl rfl ?_
            refine r_goto 32 d_69_203 (by decide) ?_
            first
            | (have hle : ¬ cst S q ≤ bu - sp := (by have := (pk_lLT (by omega) (by omega)).mp ((lg_cmp_gt _ _).mp c_175); omega); exact ih (t + 1) _ _ (some q) _ _ _ _ _ (by omega) xf pk_ (kb_up hk hq12 hBk) (fun p hp => by cases hp; exact ⟨hq12, cq⟩) hsp (by rw [e1, if_neg hle]))
            | (have hle : cst S q ≤ bu - sp := (by have : ¬ bu < sp + cst S q := fun z => c_175 ((lg_cmp_gt _ _).mpr ((pk_lLT (a := bu) (b := sp + cst S q) (by omega) (by omega)).mpr z)); omega); exact ih (t + 1) _ _ (some q) _ (va_up ch q true) _ _ _ (by omega) (XF_sI xf rfl) (fun r hr => by rw [wA]; exact b_up (b := true) (pk_ r hr)) (kb_up hk hq12 hBk) (fun p hp => by cases hp; exact ⟨hq12, cq⟩) (by omega) (by rw [e1, if_pos hle]))
      have inner : ∀ q r o u8, r + q = 12 → (∀ x, o = some x → x < 12 ∧ cand S x = true) → bst S (kb S bf) q r o = B → TT 69 45 [rv 3 (some 0), iv (nI bu), jv (lN sp), un, iv (ol bf), iv (nI t), iv (ol o), iv (nI r), u8] [] h1 0 0 (fun x h' => x = none ∧ XF h h' ∧ ∀ r, r < 12 → hI h' 7 3 r = bI (chF S bu r)) := by
        intro q
        induction q with
        | zero =>
          intro r o u8 hr ho eB
          obtain rfl : r = 12 := by omega
          have eB : o = B := eB
          subst eB
          refine TT.forget 8 (ls' := [rv 3 (some 0), iv (nI bu), jv (lN sp), un, iv (ol bf), iv (nI t), iv (ol o), iv (nI 12), un]) rfl ?_
          refine r_iload 47 d_69_45 rfl rfl ?_
          refine r_bipush 49 (nI 12) d_69_47 rfl (by decide) ?_
          refine r_icmp_ge 144 52 d_69_49 (by decide) rfl (fun c_49 => ?_) (fun c_49 => absurd (nI_le (Nat.le_refl _) (by decide)) c_49)
          exact fin un
        | succ q ihq =>
          intro r o u8 hr ho eB
          have hr12 : r < 12 := by omega
          have hk5 := b.kd hr12
          have hu := b.us hr12
          refine TT.forget 8 (ls' := [rv 3 (some 0), iv (nI bu), jv (lN sp), un, iv (ol bf), iv (nI t), iv (ol o), iv (nI r), un]) rfl ?_
          have no : ∀ z : Bool, (kb S bf r && btb S r o) = false → TT 69 138 [rv 3 (some 0), iv (nI bu), jv (lN sp), un, iv (ol bf), iv (nI t), iv (ol o), iv (nI r), iv (bI z)] [] h1 0 0 (fun x h' => x = none ∧ XF h h' ∧ ∀ r, r < 12 → hI h' 7 3 r = bI (chF S bu r)) := by
            intro z hz
            refine r_iinc 141 (nI (r + 1)) [rv 3 (some 0), iv (nI bu), jv (lN sp), un, iv (ol bf), iv (nI t), iv (ol o), iv (nI (r + 1)), iv (bI z)] d_69_138 rfl rfl (nI_1 r) rfl rfl ?_
            refine r_goto 45 d_69_141 (by decide) ?_
            exact ihq (r + 1) o _ (by omega) ho (by rw [bst_s, hz, if_neg Bool.false_ne_true] at eB; exact eB)
          have yes : ∀ z : Bool, cand S r = true → (kb S bf r && btb S r o) = true → TT 69 134 [rv 3 (some 0), iv (nI bu), jv (lN sp), un, iv (ol bf), iv (nI t), iv (ol o), iv (nI r), iv (bI z)] [] h1 0 0 (fun x h' => x = none ∧ XF h h' ∧ ∀ r, r < 12 → hI h' 7 3 r = bI (chF S bu r)) := by
            intro z hc hz
            refine r_iload 136 d_69_134 rfl rfl ?_
            refine r_istore 138 [rv 3 (some 0), iv (nI bu), jv (lN sp), un, iv (ol bf), iv (nI t), iv (nI r), iv (nI r), iv (bI z)] d_69_136 rfl rfl rfl ?_
            refine r_iinc 141 (nI (r + 1)) [rv 3 (some 0), iv (nI bu), jv (lN sp), un, iv (ol bf), iv (nI t), iv (nI r), iv (nI (r + 1)), iv (bI z)] d_69_138 rfl rfl (nI_1 r) rfl rfl ?_
            refine r_goto 45 d_69_141 (by decide) ?_
            exact ihq (r + 1) (some r) _ (by omega) (fun x hx => by cases hx; exact ⟨hr12, hc⟩) (by rw [bst_s, hz, if_pos rfl] at eB; exact eB)
          have test : TT 69 97 [rv 3 (some 0), iv (nI bu), jv (lN sp), un, iv (ol bf), iv (nI t), iv (ol o), iv (nI r), iv (bI (cand S r))] [] h1 0 0 (fun x h' => x = none ∧ XF h h' ∧ ∀ r, r < 12 → hI h' 7 3 r = bI (chF S bu r)) := by
            cases bf with
            | none =>
              cases o with
              | none =>
                refine r_iload 99 d_69_97 rfl rfl ?_
                refine r_if_eq 138 102 d_69_99 (by decide) rfl (fun c_99 => ?_) (fun c_99 => ?_)
                · skip
                  first
                  | (have e := bI_0 c_99; exact no _ (by unfold kb; rw [e]; rfl))
                · skip
                  refine r_iload 104 d_69_102 rfl rfl ?_
                  refine r_if_lt 118 107 d_69_104 (by decide) rfl (fun c_104 => ?_) (fun c_104 => absurd (by decide) c_104)
                  refine r_iload 120 d_69_118 rfl rfl ?_
                  refine r_if_lt 134 123 d_69_120 (by decide) rfl (fun c_120 => ?_) (fun c_120 => absurd (by decide) c_120)
                  exact yes _ (bI_1 c_99) (by unfold kb btb; simp only [bI_1 c_99, Bool.and_self])
              | some x =>
                obtain ⟨hx12, cx⟩ := ho x rfl
                refine r_iload 99 d_69_97 rfl rfl ?_
                refine r_if_eq 138 102 d_69_99 (by decide) rfl (fun c_99 => ?_) (fun c_99 => ?_)
                · skip
                  first
                  | (have e := bI_0 c_99; exact no _ (by unfold kb; rw [e]; rfl))
                  | (have e := bI_0 c_131; exact no _ (by unfold btb; simp only [e, Bool.and_false]))
                · skip
                  refine r_iload 104 d_69_102 rfl rfl ?_
                  refine r_if_lt 118 107 d_69_104 (by decide) rfl (fun c_104 => ?_) (fun c_104 => absurd (by decide) c_104)
                  refine r_iload 120 d_69_118 rfl rfl ?_
                  refine r_if_lt 134 123 d_69_120 (by decide) rfl (fun c_120 => absurd c_120 (nI_pos (by omega))) (fun c_120 => ?_)
                  refine r_aload_n 124 d_69_123 rfl rfl ?_
                  refine r_iload 126 d_69_124 rfl rfl ?_
                  refine r_iload 128 d_69_126 rfl rfl ?_
                  refine r_callV (k1 := 0) (n1 := 0) (k := 0) (n := 0) 131 70 3 [iv (nI r), iv (nI x)] d_69_128 rfl mk_70 lk_3_84 mv_70 rfl rfl rfl rfl rfl _ (m_first m1 v hr12 hx12 (bI_1 c_99) cx) ?_
                  intro r_128 h_128 q_128
                  obtain ⟨q1, q2⟩ := q_128
                  subst q2
                  rw [q1]
                  show TT 69 131 [rv 3 (some 0), iv (nI bu), jv (lN sp), un, iv (ol none), iv (nI t), iv (nI x), iv (nI r), iv (bI (cand S r))] [iv (bI (cb S r x))] h1 _ _ _
                  refine r_if_eq 138 134 d_69_131 (by decide) rfl (fun c_131 => ?_) (fun c_131 => ?_)
                  · skip
                    first
                    | (have e := bI_0 c_99; exact no _ (by unfold kb; rw [e]; rfl))
                    | (have e := bI_0 c_131; exact no _ (by unfold btb; simp only [e, Bool.and_false]))
                  · skip
                    exact yes _ (bI_1 c_99) (by unfold kb btb; simp only [bI_1 c_99, bI_1 c_131, Bool.and_self])
            | some p =>
              obtain ⟨hp12, cp⟩ := hbf p rfl
              cases o with
              | none =>
                refine r_iload 99 d_69_97 rfl rfl ?_
                refine r_if_eq 138 102 d_69_99 (by decide) rfl (fun c_99 => ?_) (fun c_99 => ?_)
                · skip
                  first
                  | (have e := bI_0 c_99; exact no _ (by unfold kb; rw [e]; rfl))
                  | (have e := bI_0 c_115; exact no _ (by unfold kb; simp only [e, Bool.and_false, Bool.false_and]))
                · skip
                  refine r_iload 104 d_69_102 rfl rfl ?_
                  refine r_if_lt 118 107 d_69_104 (by decide) rfl (fun c_104 => absurd c_104 (nI_pos (by omega))) (fun c_104 => ?_)
                  refine r_aload_n 108 d_69_107 rfl rfl ?_
                  refine r_iload 110 d_69_108 rfl rfl ?_
                  refine r_iload 112 d_69_110 rfl rfl ?_
                  refine r_callV (k1 := 0) (n1 := 0) (k := 0) (n := 0) 115 70 3 [iv (nI p), iv (nI r)] d_69_112 rfl mk_70 lk_3_84 mv_70 rfl rfl rfl rfl rfl _ (m_first m1 v hp12 hr12 cp (bI_1 c_99)) ?_
                  intro r_112 h_112 q_112
                  obtain ⟨q1, q2⟩ := q_112
                  subst q2
                  rw [q1]
                  show TT 69 115 [rv 3 (some 0), iv (nI bu), jv (lN sp), un, iv (nI p), iv (nI t), iv (ol none), iv (nI r), iv (bI (cand S r))] [iv (bI (cb S p r))] h1 _ _ _
                  refine r_if_eq 138 118 d_69_115 (by decide) rfl (fun c_115 => ?_) (fun c_115 => ?_)
                  · skip
                    first
                    | (have e := bI_0 c_99; exact no _ (by unfold kb; rw [e]; rfl))
                    | (have e := bI_0 c_115; exact no _ (by unfold kb; simp only [e, Bool.and_false, Bool.false_and]))
                  · skip
                    refine r_iload 120 d_69_118 rfl rfl ?_
                    refine r_if_lt 134 123 d_69_120 (by decide) rfl (fun c_120 => ?_) (fun c_120 => absurd (by decide) c_120)
                    exact yes _ (bI_1 c_99) (by unfold kb btb; simp only [bI_1 c_99, bI_1 c_115, Bool.and_self])
              | some x =>
                obtain ⟨hx12, cx⟩ := ho x rfl
                refine r_iload 99 d_69_97 rfl rfl ?_
                refine r_if_eq 138 102 d_69_99 (by decide) rfl (fun c_99 => ?_) (fun c_99 => ?_)
                · skip
                  first
                  | (have e := bI_0 c_99; exact no _ (by unfold kb; rw [e]; rfl))
                  | (have e := bI_0 c_115; exact no _ (by unfold kb; simp only [e, Bool.and_false, Bool.false_and]))
                  | (have e := bI_0 c_131; exact no _ (by unfold btb; simp only [e, Bool.and_false]))
                · skip
                  refine r_iload 104 d_69_102 rfl rfl ?_
                  refine r_if_lt 118 107 d_69_104 (by decide) rfl (fun c_104 => absurd c_104 (nI_pos (by omega))) (fun c_104 => ?_)
                  refine r_aload_n 108 d_69_107 rfl rfl ?_
                  refine r_iload 110 d_69_108 rfl rfl ?_
                  refine r_iload 112 d_69_110 rfl rfl ?_
                  refine r_callV (k1 := 0) (n1 := 0) (k := 0) (n := 0) 115 70 3 [iv (nI p), iv (nI r)] d_69_112 rfl mk_70 lk_3_84 mv_70 rfl rfl rfl rfl rfl _ (m_first m1 v hp12 hr12 cp (bI_1 c_99)) ?_
                  intro r_112 h_112 q_112
                  obtain ⟨q1, q2⟩ := q_112
                  subst q2
                  rw [q1]
                  show TT 69 115 [rv 3 (some 0), iv (nI bu), jv (lN sp), un, iv (nI p), iv (nI t), iv (nI x), iv (nI r), iv (bI (cand S r))] [iv (bI (cb S p r))] h1 _ _ _
                  refine r_if_eq 138 118 d_69_115 (by decide) rfl (fun c_115 => ?_) (fun c_115 => ?_)
                  · skip
                    first
                    | (have e := bI_0 c_99; exact no _ (by unfold kb; rw [e]; rfl))
                    | (have e := bI_0 c_115; exact no _ (by unfold kb; simp only [e, Bool.and_false, Bool.false_and]))
                    | (have e := bI_0 c_131; exact no _ (by unfold btb; simp only [e, Bool.and_false]))
                  · skip
                    refine r_iload 120 d_69_118 rfl rfl ?_
                    refine r_if_lt 134 123 d_69_120 (by decide) rfl (fun c_120 => absurd c_120 (nI_pos (by omega))) (fun c_120 => ?_)
                    refine r_aload_n 124 d_69_123 rfl rfl ?_
                    refine r_iload 126 d_69_124 rfl rfl ?_
                    refine r_iload 128 d_69_126 rfl rfl ?_
                    refine r_callV (k1 := 0) (n1 := 0) (k := 0) (n := 0) 131 70 3 [iv (nI r), iv (nI x)] d_69_128 rfl mk_70 lk_3_84 mv_70 rfl rfl rfl rfl rfl _ (m_first m1 v hr12 hx12 (bI_1 c_99) cx) ?_
                    intro r_128 h_128 q_128
                    obtain ⟨q1, q2⟩ := q_128
                    subst q2
                    rw [q1]
                    show TT 69 131 [rv 3 (some 0), iv (nI bu), jv (lN sp), un, iv (nI p), iv (nI t), iv (nI x), iv (nI r), iv (bI (cand S r))] [iv (bI (cb S r x))] h1 _ _ _
                    refine r_if_eq 138 134 d_69_131 (by decide) rfl (fun c_131 => ?_) (fun c_131 => ?_)
                    · skip
                      first
                      | (have e := bI_0 c_99; exact no _ (by unfold kb; rw [e]; rfl))
                      | (have e := bI_0 c_115; exact no _ (by unfold kb; simp only [e, Bool.and_false, Bool.false_and]))
                      | (have e := bI_0 c_131; exact no _ (by unfold btb; simp only [e, Bool.and_false]))
                    · skip
                      exact yes _ (bI_1 c_99) (by unfold kb btb; simp only [bI_1 c_99, bI_1 c_115, bI_1 c_131, Bool.and_self])
          cases hl : lw S r with
          | none =>
            have hlq : hI h1 6 10 r = -1 := (m1.lw hr12).trans (by rw [hl]; rfl)
            have ec : cand S r = false := by unfold cand; rw [hl]; simp
            rw [ec] at test
            refine r_iload 47 d_69_45 rfl rfl ?_
            refine r_bipush 49 (nI 12) d_69_47 rfl (by decide) ?_
            refine r_icmp_ge 144 52 d_69_49 (by decide) rfl (fun c_49 => absurd c_49 (nI_ge hr12 (by decide))) (fun c_49 => ?_)
            refine r_aload_n 53 d_69_52 rfl rfl ?_
            refine r_getR 56 3 8 6 (some 8) d_69_53 rfl fk_3_34 rfl (by decide) (MT.f8 m1.mt) ?_
            refine r_iload 58 d_69_56 rfl rfl ?_
            refine r_iald 59 r (nI (kd S r)) d_69_58 rfl rfl (MT.l6_8 m1.mt hr12) (m1.kd hr12) ?_
            refine r_iconst 60 (nI 3) d_69_59 rfl (by decide) ?_
            refine r_icmp_ne 94 63 d_69_60 (by decide) rfl (fun c_60 => ?_) (fun c_60 => ?_)
            · skip
              refine r_iconst 95 (nI 0) d_69_94 rfl (by decide) ?_
              refine r_istore 97 [rv 3 (some 0), iv (nI bu), jv (lN sp), un, iv (ol bf), iv (nI t), iv (ol o), iv (nI r), iv (nI 0)] d_69_95 rfl rfl rfl ?_
              exact test
            · skip
              refine r_aload_n 64 d_69_63 rfl rfl ?_
              refine r_getR 67 3 10 6 (some 10) d_69_64 rfl fk_3_40 rfl (by decide) (MT.f10 m1.mt) ?_
              refine r_iload 69 d_69_67 rfl rfl ?_
              refine r_iald 70 r (-1) d_69_69 rfl rfl (MT.l6_10 m1.mt hr12) hlq ?_
              refine r_if_lt 94 73 d_69_70 (by decide) rfl (fun c_70 => ?_) (fun c_70 => absurd (by decide) c_70)
              refine r_iconst 95 (nI 0) d_69_94 rfl (by decide) ?_
              refine r_istore 97 [rv 3 (some 0), iv (nI bu), jv (lN sp), un, iv (ol bf), iv (nI t), iv (ol o), iv (nI r), iv (nI 0)] d_69_95 rfl rfl rfl ?_
              exact test
          | some x =>
            have hx := b.lw hr12 hl
            have hlq : hI h1 6 10 r = nI x := (m1.lw hr12).trans (by rw [hl]; rfl)
            have ec : cand S r = (decide (kd S r = 3) && decide (x < us S r)) := by unfold cand lv0 isk; rw [hl]; simp
            rw [ec] at test
            refine r_iload 47 d_69_45 rfl rfl ?_
            refine r_bipush 49 (nI 12) d_69_47 rfl (by decide) ?_
            refine r_icmp_ge 144 52 d_69_49 (by decide) rfl (fun c_49 => absurd c_49 (nI_ge hr12 (by decide))) (fun c_49 => ?_)
            refine r_aload_n 53 d_69_52 rfl rfl ?_
            refine r_getR 56 3 8 6 (some 8) d_69_53 rfl fk_3_34 rfl (by decide) (MT.f8 m1.mt) ?_
            refine r_iload 58 d_69_56 rfl rfl ?_
            refine r_iald 59 r (nI (kd S r)) d_69_58 rfl rfl (MT.l6_8 m1.mt hr12) (m1.kd hr12) ?_
            refine r_iconst 60 (nI 3) d_69_59 rfl (by decide) ?_
            refine r_icmp_ne 94 63 d_69_60 (by decide) rfl (fun c_60 => ?_) (fun c_60 => ?_)
            · skip
              refine r_iconst 95 (nI 0) d_69_94 rfl (by decide) ?_
              refine r_istore 97 [rv 3 (some 0), iv (nI bu), jv (lN sp), un, iv (ol bf), iv (nI t), iv (ol o), iv (nI r), iv (nI 0)] d_69_95 rfl rfl rfl ?_
              first
              | (rw [decide_eq_false (fun z => c_60 (by rw [z])), Bool.false_and] at test; exact test)
              | (rw [decide_eq_false (Nat.not_lt.mpr ((nI_leI (by omega) (by omega)).mp c_87)), Bool.and_false] at test; exact test)
              | (rw [decide_eq_true ((nI_eq (by omega) (by decide)).mp c_60), decide_eq_true (Nat.not_le.mp (fun z => c_87 ((nI_leI (by omega) (by omega)).mpr z)))] at test; exact test)
            · skip
              refine r_aload_n 64 d_69_63 rfl rfl ?_
              refine r_getR 67 3 10 6 (some 10) d_69_64 rfl fk_3_40 rfl (by decide) (MT.f10 m1.mt) ?_
              refine r_iload 69 d_69_67 rfl rfl ?_
              refine r_iald 70 r (nI x) d_69_69 rfl rfl (MT.l6_10 m1.mt hr12) hlq ?_
              refine r_if_lt 94 73 d_69_70 (by decide) rfl (fun c_70 => absurd c_70 (nI_pos (by omega))) (fun c_70 => ?_)
              refine r_aload_n 74 d_69_73 rfl rfl ?_
              refine r_getR 77 3 9 6 (some 9) d_69_74 rfl fk_3_37 rfl (by decide) (MT.f9 m1.mt) ?_
              refine r_iload 79 d_69_77 rfl rfl ?_
              refine r_iald 80 r (nI (us S r)) d_69_79 rfl rfl (MT.l6_9 m1.mt hr12) (m1.us hr12) ?_
              refine r_aload_n 81 d_69_80 rfl rfl ?_
              refine r_getR 84 3 10 6 (some 10) d_69_81 rfl fk_3_40 rfl (by decide) (MT.f10 m1.mt) ?_
              refine r_iload 86 d_69_84 rfl rfl ?_
              refine r_iald 87 r (nI x) d_69_86 rfl rfl (MT.l6_10 m1.mt hr12) hlq ?_
              refine r_icmp_le 94 90 d_69_87 (by decide) rfl (fun c_87 => ?_) (fun c_87 => ?_)
              · skip
                refine r_iconst 95 (nI 0) d_69_94 rfl (by decide) ?_
                refine r_istore 97 [rv 3 (some 0), iv (nI bu), jv (lN sp), un, iv (ol bf), iv (nI t), iv (ol o), iv (nI r), iv (nI 0)] d_69_95 rfl rfl rfl ?_
                first
                | (rw [decide_eq_false (fun z => c_60 (by rw [z])), Bool.false_and] at test; exact test)
                | (rw [decide_eq_false (Nat.not_lt.mpr ((nI_leI (by omega) (by omega)).mp c_87)), Bool.and_false] at test; exact test)
                | (rw [decide_eq_true ((nI_eq (by omega) (by decide)).mp c_60), decide_eq_true (Nat.not_le.mp (fun z => c_87 ((nI_leI (by omega) (by omega)).mpr z)))] at test; exact test)
              · skip
                refine r_iconst 91 (nI 1) d_69_90 rfl (by decide) ?_
                refine r_goto 95 d_69_91 (by decide) ?_
                refine r_istore 97 [rv 3 (some 0), iv (nI bu), jv (lN sp), un, iv (ol bf), iv (nI t), iv (ol o), iv (nI r), iv (nI 1)] d_69_95 rfl rfl rfl ?_
                first
                | (rw [decide_eq_false (fun z => c_60 (by rw [z])), Bool.false_and] at test; exact test)
                | (rw [decide_eq_false (Nat.not_lt.mpr ((nI_leI (by omega) (by omega)).mp c_87)), Bool.and_false] at test; exact test)
                | (rw [decide_eq_true ((nI_eq (by omega) (by decide)).mp c_60), decide_eq_true (Nat.not_le.mp (fun z => c_87 ((nI_leI (by omega) (by omega)).mpr z)))] at test; exact test)
      refine r_iload 34 d_69_32 rfl rfl ?_
      refine r_bipush 36 (nI 12) d_69_34 rfl (by decide) ?_
      refine r_icmp_ge 206 39 d_69_36 (by decide) rfl (fun c_36 => absurd c_36 (nI_ge (by omega) (by decide))) (fun c_36 => ?_)
      refine r_iconst 40 (-1) d_69_39 rfl (by decide) ?_
      refine r_istore 42 [rv 3 (some 0), iv (nI bu), jv (lN sp), un, iv (ol bf), iv (nI t), iv (-1), un, un] d_69_40 rfl rfl rfl ?_
      refine r_iconst 43 (nI 0) d_69_42 rfl (by decide) ?_
      refine r_istore 45 [rv 3 (some 0), iv (nI bu), jv (lN sp), un, iv (ol bf), iv (nI t), iv (-1), iv (nI 0), un] d_69_43 rfl rfl rfl ?_
      exact inner 12 0 none un rfl (fun x hx => by cases hx) hB
  have clear : ∀ n r h1, r + n = 12 → XF h h1 → (∀ q, q < r → hI h1 7 3 q = nI 0) → TT 69 5 [rv 3 (some 0), iv (nI bu), jv (lN 0), un, iv (nI r), un, un, un, un] [] h1 0 0 (fun x h' => x = none ∧ XF h h' ∧ ∀ r, r < 12 → hI h' 7 3 r = bI (chF S bu r)) := by
    intro n
    induction n with
    | zero =>
      intro r h1 hr xf hz
      obtain rfl : r = 12 := by omega
      have z := main 12 0 h1 (cand S) none 0 (fun _ => false) un un un rfl xf hz (fun r _ => (by unfold kb; simp)) (fun p hp => by cases hp) (Nat.zero_le _) rfl
      refine r_iload 7 d_69_5 rfl rfl ?_
      refine r_bipush 9 (nI 12) d_69_7 rfl (by decide) ?_
      refine r_icmp_ge 26 12 d_69_9 (by decide) rfl (fun c_9 => ?_) (fun c_9 => absurd (nI_le (Nat.le_refl _) (by decide)) c_9)
      refine r_iconst 27 (-1) d_69_26 rfl (by decide) ?_
      refine r_istore 29 [rv 3 (some 0), iv (nI bu), jv (lN 0), un, iv (-1), un, un, un, un] d_69_27 rfl rfl rfl ?_
      refine r_iconst 30 (nI 0) d_69_29 rfl (by decide) ?_
      refine r_istore 32 [rv 3 (some 0), iv (nI bu), jv (lN 0), un, iv (-1), iv (nI 0), un, un, un] d_69_30 rfl rfl rfl ?_
      exact z
    | succ n ih =>
      intro r h1 hr xf hz
      have hr12 : r < 12 := by omega
      have mt1 := MT_XG m.mt xf.1
      refine r_iload 7 d_69_5 rfl rfl ?_
      refine r_bipush 9 (nI 12) d_69_7 rfl (by decide) ?_
      refine r_icmp_ge 26 12 d_69_9 (by decide) rfl (fun c_9 => absurd c_9 (nI_ge hr12 (by decide))) (fun c_9 => ?_)
      refine r_aload_n 13 d_69_12 rfl rfl ?_
      refine r_getR 16 3 24 7 (some 3) d_69_13 rfl fk_3_78 rfl (by decide) (MT.f24 mt1) ?_
      refine r_iload 18 d_69_16 rfl rfl ?_
      refine r_iconst 19 (nI 0) d_69_18 rfl (by decide) ?_
      refine r_bast 20 r d_69_19 rfl rfl (MT.l7_3 mt1 hr12) rfl ?_
      refine r_iinc 23 (nI (r + 1)) [rv 3 (some 0), iv (nI bu), jv (lN 0), un, iv (nI (r + 1)), un, un, un, un] d_69_20 rfl rfl (nI_1 r) rfl rfl ?_
      refine r_goto 5 d_69_23 (by decide) ?_
      refine ih (r + 1) _ (by omega) (XF_sI xf rfl) (fun q hq => ?_)
      rw [wA]
      split
      · rfl
      · exact hz q (by omega)
  refine r_lconst 1 (lN 0) d_69_0 rfl rfl ?_
  refine r_lstore_n 2 [rv 3 (some 0), iv (nI bu), jv (lN 0), un, un, un, un, un, un] d_69_1 rfl rfl rfl rfl ?_
  refine r_iconst 3 (nI 0) d_69_2 rfl (by decide) ?_
  refine r_istore 5 [rv 3 (some 0), iv (nI bu), jv (lN 0), un, iv (nI 0), un, un, un, un] d_69_3 rfl rfl rfl ?_
  exact clear 12 0 h rfl (XF.rf h) (fun q hq => absurd hq (Nat.not_lt_zero q))
theorem m_chosen {h : AH} {S : SS} {sg : Nat → Nat} (m : RM h S sg) (v : IV S) (a : Int32) : TT 71 0 [rv 3 (some 0), iv a, un, un] [] h 0 0 (fun x h' => x = some (iv (chA S a)) ∧ XF h h') := by
  by_cases ha : a < 0
  · have e : chA S a = nI 0 := if_pos ha
    rw [e]
    refine r_iconst 1 (nI 0) d_71_0 rfl (by decide) ?_
    refine r_istore_n 2 [rv 3 (some 0), iv a, iv (nI 0), un] d_71_1 rfl rfl rfl ?_
    refine r_iload_n 3 d_71_2 rfl rfl ?_
    refine r_if_ge 8 6 d_71_3 (by decide) rfl (fun c_3 => absurd c_3 (fun z => absurd ha (Int32.not_lt.mpr z))) (fun c_3 => ?_)
    refine r_iconst 7 (nI 0) d_71_6 rfl (by decide) ?_
    refine r_ireturn d_71_7 rfl ?_
    exact ⟨rfl, XF.rf h⟩
  · obtain ⟨bu, hbu, rfl⟩ := nI_of ha
    have e : chA S (nI bu) = bts (chF S bu) 12 := by unfold chA; rw [if_neg ha, nI_clamp hbu]
    rw [e]
    have loop : ∀ (h1 : AH), XF h h1 → (∀ r, r < 12 → hI h1 7 3 r = bI (chF S bu r)) → ∀ n r, r + n = 12 → TT 71 15 [rv 3 (some 0), iv (nI bu), iv (bts (chF S bu) r), iv (nI r)] [] h1 0 0 (fun x h' => x = some (iv (bts (chF S bu) 12)) ∧ XF h h') := by
      intro h1 xf pk_ n
      have mt1 := MT_XG m.mt xf.1
      induction n with
      | zero =>
        intro r hr
        obtain rfl : r = 12 := by omega
        refine r_iload_n 16 d_71_15 rfl rfl ?_
        refine r_bipush 18 (nI 12) d_71_16 rfl (by decide) ?_
        refine r_icmp_ge 46 21 d_71_18 (by decide) rfl (fun c_18 => ?_) (fun c_18 => absurd (nI_le (Nat.le_refl _) (by decide)) c_18)
        refine r_iload_n 47 d_71_46 rfl rfl ?_
        refine r_ireturn d_71_47 rfl ?_
        exact ⟨rfl, xf⟩
      | succ n ih =>
        intro r hr
        have hr12 : r < 12 := by omega
        have z := ih (r + 1) (by omega)
        rw [bts] at z
        refine r_iload_n 16 d_71_15 rfl rfl ?_
        refine r_bipush 18 (nI 12) d_71_16 rfl (by decide) ?_
        refine r_icmp_ge 46 21 d_71_18 (by decide) rfl (fun c_18 => absurd c_18 (nI_ge hr12 (by decide))) (fun c_18 => ?_)
        refine r_aload_n 22 d_71_21 rfl rfl ?_
        refine r_getR 25 3 24 7 (some 3) d_71_22 rfl fk_3_78 rfl (by decide) (MT.f24 mt1) ?_
        refine r_iload_n 26 d_71_25 rfl rfl ?_
        refine r_bald 27 r (bI (chF S bu r)) d_71_26 rfl rfl (MT.l7_3 mt1 hr12) (pk_ r hr12) ?_
        refine r_if_eq 38 30 d_71_27 (by decide) rfl (fun c_27 => ?_) (fun c_27 => ?_)
        · skip
          refine r_iload_n 39 d_71_38 rfl rfl ?_
          refine r_istore_n 40 [rv 3 (some 0), iv (nI bu), iv (bts (chF S bu) r), iv (nI r)] d_71_39 rfl rfl rfl ?_
          refine r_iinc 43 (nI (r + 1)) [rv 3 (some 0), iv (nI bu), iv (bts (chF S bu) r), iv (nI (r + 1))] d_71_40 rfl rfl (nI_1 r) rfl rfl ?_
          refine r_goto 15 d_71_43 (by decide) ?_
          first
          | (rw [if_neg (by rw [bI_0 c_27]; exact Bool.false_ne_true)] at z; exact z)
          | (rw [if_pos (bI_1 c_27)] at z; exact z)
        · skip
          refine r_iload_n 31 d_71_30 rfl rfl ?_
          refine r_iconst 32 (nI 1) d_71_31 rfl (by decide) ?_
          refine r_iload_n 33 d_71_32 rfl rfl ?_
          refine r_ishl 34 ((nI 1) <<< ((nI r) &&& 31)) d_71_33 rfl rfl ?_
          refine r_ior 35 ((bts (chF S bu) r) ||| ((nI 1) <<< ((nI r) &&& 31))) d_71_34 rfl rfl ?_
          refine r_goto 39 d_71_35 (by decide) ?_
          refine r_istore_n 40 [rv 3 (some 0), iv (nI bu), iv ((bts (chF S bu) r) ||| ((nI 1) <<< ((nI r) &&& 31))), iv (nI r)] d_71_39 rfl rfl rfl ?_
          refine r_iinc 43 (nI (r + 1)) [rv 3 (some 0), iv (nI bu), iv ((bts (chF S bu) r) ||| ((nI 1) <<< ((nI r) &&& 31))), iv (nI (r + 1))] d_71_40 rfl rfl (nI_1 r) rfl rfl ?_
          refine r_goto 15 d_71_43 (by decide) ?_
          first
          | (rw [if_neg (by rw [bI_0 c_27]; exact Bool.false_ne_true)] at z; exact z)
          | (rw [if_pos (bI_1 c_27)] at z; exact z)
    refine r_iconst 1 (nI 0) d_71_0 rfl (by decide) ?_
    refine r_istore_n 2 [rv 3 (some 0), iv (nI bu), iv (nI 0), un] d_71_1 rfl rfl rfl ?_
    refine r_iload_n 3 d_71_2 rfl rfl ?_
    refine r_if_ge 8 6 d_71_3 (by decide) rfl (fun c_3 => ?_) (fun c_3 => absurd (nI_pos' hbu) c_3)
    refine r_aload_n 9 d_71_8 rfl rfl ?_
    refine r_iload_n 10 d_71_9 rfl rfl ?_
    refine r_callV (k1 := 0) (n1 := 0) (k := 0) (n := 0) 13 69 3 [iv (nI bu)] d_71_10 rfl mk_69 lk_3_92 mv_69 rfl rfl rfl rfl rfl _ (m_choose m v hbu) ?_
    intro r_10 h_10 q_10
    obtain ⟨q1, q2, q3⟩ := q_10
    subst q1
    show TT 71 13 [rv 3 (some 0), iv (nI bu), iv (nI 0), un] [] h_10 _ _ _
    refine r_iconst 14 (nI 0) d_71_13 rfl (by decide) ?_
    refine r_istore_n 15 [rv 3 (some 0), iv (nI bu), iv (nI 0), iv (nI 0)] d_71_14 rfl rfl rfl ?_
    exact loop h_10 q2 q3 12 0 rfl
