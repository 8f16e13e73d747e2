/-! what large does: the class and the reference -/
noncomputable def lgA (S : SS) (w : Nat) : Int32 := match (lgP S ((w + 15) / 16)).1 with
  | none => -2
  | some _ => nI (ct (lgP S ((w + 15) / 16)).2 3 + 1)
noncomputable def lgT (S : SS) (w n i : Nat) : SS := match (lgP S ((w + 15) / 16)).1 with
  | none => (lgP S ((w + 15) / 16)).2
  | some f => mk2 (lgP S ((w + 15) / 16)).2 w n i f ((w + 15) / 16)
theorem lgP_ok {S : SS} (v : IV S) {nd : Nat} (hnd : 0 < nd) : IV (lgP S nd).2 ∧ ∀ f, (lgP S nd).1 = some f → f + nd ≤ 12 ∧ ∀ q, f ≤ q → q < f + nd → kd (lgP S nd).2 q = 0 := by
  have v2 := ful_IV0 v
  unfold lgP
  cases h1 : lfr (isk S 0) nd 12 0 0 with
  | some f =>
    refine ⟨v, fun f' hf' => ?_⟩
    have hf' : some f = some f' := hf'
    cases hf'
    exact lfr_free v hnd h1
  | none =>
    refine ⟨v2, fun f' hf' => ?_⟩
    exact lfr_free v2 hnd hf'
theorem lgT_IV {S : SS} (v : IV S) {w n i : Nat} (hw : 9 ≤ w ∧ w ≤ 40) (hn : n ≤ 3) : IV (lgT S w n i) := by
  obtain ⟨v1, v2⟩ := lgP_ok v (nd := (w + 15) / 16) (by omega)
  unfold lgT
  cases hp : (lgP S ((w + 15) / 16)).1 with
  | none => exact v1
  | some f =>
    obtain ⟨a, b⟩ := v2 f hp
    exact mk2_IV v1 a (by omega) b hw hn
theorem k_large {h : AH} {S : SS} (c : RC h S) (v : IV S) {i n w : Nat} (hi : i < 6) (hn : n < 4) (hw9 : 9 ≤ w) (hw40 : w ≤ 40) : TT 11 0 [rv 0 (some 0), iv (nI i), iv (nI n), iv (nI w), un, un, un] [] h 2 10 (fun x h' => x = some (iv (lgA S w)) ∧ RC h' (lgT S w n i) ∧ CF h h') := by
  refine TT.mono ?_ (c_large c v hi hn hw9 hw40)
  rintro x h' ⟨-, cf, -, q⟩
  unfold lgA lgT
  cases hp : (lgP S ((w + 15) / 16)).1 with
  | none =>
    rw [hp] at q
    exact ⟨q.1, q.2, cf⟩
  | some r =>
    rw [hp] at q
    exact ⟨q.1, q.2, cf⟩
theorem m_large {h : AH} {S : SS} {sg : Nat → Nat} (m : RM h S sg) (v : IV S) {i n w : Nat} (hi : i < 6) (hn : n < 4) (hw9 : 9 ≤ w) (hw40 : w ≤ 40) : TT 86 0 [rv 3 (some 0), iv (nI i), iv (nI n), iv (nI w), un, un, un, un] [] h 0 0 (fun x h' => x = some (iv (lgA S w)) ∧ (∃ sg', RM h' (lgT S w n i) sg') ∧ MF h h') := by
  obtain ⟨nd, hnd⟩ : ∃ nd, (w + 15) / 16 = nd := ⟨_, rfl⟩
  have hnd0 : 0 < nd := by omega
  have hnd3 : nd ≤ 3 := by omega
  have v2 := ful_IV0 v
  have rest : ∀ S1 h1 f u6 u7, lgP S nd = (some f, S1) → IV S1 → f + nd ≤ 12 → (∀ q, f ≤ q → q < f + nd → kd S1 q = 0) → RM h1 S1 sg → MF h h1 → TT 86 75 [rv 3 (some 0), iv (nI i), iv (nI n), iv (nI w), iv (nI nd), iv (nI f), u6, u7] [] h1 0 0 (fun x h' => x = some (iv (lgA S w)) ∧ (∃ sg', RM h' (lgT S w n i) sg') ∧ MF h h') := by
    intro S1 h1 f u6 u7 hp v1 hf hz m1 mf1
    have hf12 : f < 12 := by omega
    have e1 : lgA S w = nI (ct S1 3 + 1) := by unfold lgA; rw [hnd, hp]
    have e2 : lgT S w n i = mk2 S1 w n i f nd := by unfold lgT; rw [hnd, hp]
    rw [e1, e2]
    obtain ⟨i0, u0, l0⟩ := (v1.1 f hf12).1 (hz f (Nat.le_refl _) (by omega))
    refine TT.forget 6 (ls' := [rv 3 (some 0), iv (nI i), iv (nI n), iv (nI w), iv (nI nd), iv (nI f), un, u7]) rfl ?_
    refine TT.forget 7 (ls' := [rv 3 (some 0), iv (nI i), iv (nI n), iv (nI w), iv (nI nd), iv (nI f), un, un]) rfl ?_
    have hfp : ∀ y, y ∈ all S1 → ps S1 y ≠ 16 * f + us S1 f := by
      intro y hy e
      have hs := so_lt v1 hy
      unfold ps at e
      have ef : hm S1 y = f := by omega
      obtain ⟨r', hr', hit⟩ := mem_all.mp hy
      have e3 := v1.2.1.hm hr' hit
      rw [ef] at e3
      rw [← e3, i0] at hit
      cases hit
    have hN := m_newObject m1 v1 (w := w) (n := n) (by omega) hf12 (by omega) hfp
    rw [u0] at hN
    have loop : ∀ sg' jj, jj < 97 → sg' (ct S1 3) = jj → ∀ k x h2, x + k = nd → RM h2 (lgS (ptS (niS S1 w n) f (ct S1 3)) f w x) sg' → MF h h2 → TT 86 89 [rv 3 (some 0), iv (nI i), iv (nI n), iv (nI w), iv (nI nd), iv (nI f), iv (nI jj), iv (nI x)] [] h2 0 0 (fun x h' => x = some (iv (nI (ct S1 3 + 1))) ∧ (∃ sg', RM h' (mk2 S1 w n i f nd) sg') ∧ MF h h') := by
      intro sg' jj hjj hsj k
      induction k with
      | zero =>
        intro x h2 hx m2 mf2
        obtain rfl : x = nd := by omega
        have sa := lg_same (S := ptS (niS S1 w n) f (ct S1 3)) (f := f) (w := w) x
        have sb := lg_same (S := apS (niS S1 w n) f (ct S1 3)) (f := f) (w := w) x
        have m3 : RM h2 (lgS (apS (niS S1 w n) f (ct S1 3)) f w x) sg' := by
          refine RX_D (RX_mem m2 (fun o => ?_) (fun r hr => ⟨?_, ?_, ?_⟩) ⟨?_, ?_, ?_⟩ ⟨?_, ?_⟩) ?_ ?_
          · rw [all_eq (sb.2.1.trans sa.2.1.symm)]
          · rw [lg_kd, lg_kd]; rfl
          · rw [lg_us, lg_us]
            by_cases e : f ≤ r ∧ r < f + x
            · rw [if_pos e, if_pos e]
            · rw [if_neg e, if_neg e]
              show va_up (us S1) f _ r = us S1 r
              exact va_up_ne _ _ (by omega)
          · rw [sa.1, sb.1]; rfl
          · rw [sa.2.2.1, sb.2.2.1]; rfl
          · rw [sa.2.2.2.2.2.2.2.1, sb.2.2.2.2.2.2.2.1]; rfl
          · rw [sa.2.2.2.2.2.2.2.2, sb.2.2.2.2.2.2.2.2]; rfl
          · rw [sa.2.2.2.2.2.1, sb.2.2.2.2.2.1]; rfl
          · rw [sa.2.2.2.2.2.2.1, sb.2.2.2.2.2.2.1]; rfl
          · rw [sa.2.2.2.1, sb.2.2.2.1]; rfl
          · rw [sa.2.2.2.2.1, sb.2.2.2.2.1]; rfl
        have ho : ct S1 3 ∈ all (lgS (apS (niS S1 w n) f (ct S1 3)) f w x) := by
          rw [all_eq sb.2.1]
          exact (all_ap_iff (S := niS S1 w n) hf12).mpr (Or.inl rfl)
        have hno : hI h2 6 0 jj = nI (ct S1 3 + 1) := by
          have z := m3.no ho
          rw [hsj] at z
          exact z
        have m4 : RM (sI h2 6 7 i (nI jj)) (mk2 S1 w n i f x) sg' := by
          have z := rx_ro m3 i (some (ct S1 3))
          rw [show ol ((some (ct S1 3)).map sg') = nI jj by show nI (sg' (ct S1 3)) = nI jj; rw [hsj]] at z
          exact z
        refine r_iload 91 d_86_89 rfl rfl ?_
        refine r_iload 93 d_86_91 rfl rfl ?_
        refine r_icmp_ge 164 96 d_86_93 (by decide) rfl (fun c_93 => ?_) (fun c_93 => absurd (nI_le (Nat.le_refl _) (by omega)) c_93)
        refine r_aload_n 165 d_86_164 rfl rfl ?_
        refine r_getR 168 3 7 6 (some 7) d_86_165 rfl fk_3_31 rfl (by decide) (MT.f7 m2.mt) ?_
        refine r_iload_n 169 d_86_168 rfl rfl ?_
        refine r_iload 171 d_86_169 rfl rfl ?_
        refine r_iast 172 i d_86_171 rfl rfl (MT.l6_7 m2.mt hi) ?_
        refine r_aload_n 173 d_86_172 rfl rfl ?_
        refine r_getR 176 3 0 6 (some 0) d_86_173 rfl fk_3_7 rfl (by decide) (MT.f0 (MT_sI m2.mt rfl)) ?_
        refine r_iload 178 d_86_176 rfl rfl ?_
        refine r_iald 179 jj (nI (ct S1 3 + 1)) d_86_178 rfl rfl (MT.l6_0 (MT_sI m2.mt rfl) hjj) ((w6n (by decide)).trans hno) ?_
        refine r_ireturn d_86_179 rfl ?_
        exact ⟨rfl, ⟨sg', m4⟩, MF_sI mf2 rfl⟩
      | succ k ih =>
        intro x h2 hx m2 mf2
        have hxn : x < nd := by omega
        have hfx : f + x < 12 := by omega
        have sa := lg_same (S := ptS (niS S1 w n) f (ct S1 3)) (f := f) (w := w) x
        have lfx : lw S1 (f + x) = none := ((v1.1 (f + x) hfx).1 (hz (f + x) (by omega) (by omega))).2.2
        have hz2 : ∀ kk u, kk = (if x = 0 then 4 else 5) → u = m16 (w - 16 * x) → TT 86 89 [rv 3 (some 0), iv (nI i), iv (nI n), iv (nI w), iv (nI nd), iv (nI f), iv (nI jj), iv (nI (x + 1))] [] (sI (sI (sI h2 6 8 (f + x) (nI kk)) 6 9 (f + x) (nI u)) 6 10 (f + x) (-1)) 0 0 (fun x h' => x = some (iv (nI (ct S1 3 + 1))) ∧ (∃ sg', RM h' (mk2 S1 w n i f nd) sg') ∧ MF h h') := by
          intro kk u hk hu
          refine ih (x + 1) _ (by omega) ?_ (MF_sI (MF_sI (MF_sI mf2 rfl) rfl) rfl)
          rw [lgS, ← hk, ← hu]
          generalize hT : lgS (ptS (niS S1 w n) f (ct S1 3)) f w x = T at m2 sa
          refine RX_reg m2 (XG_sI (XG_sI (XG_sI (XG.rf _) rfl) rfl) rfl) (fun r hr => ⟨?_, ?_, ?_⟩) ?_ (fun k hk => ?_) ⟨rfl, rfl, rfl⟩ ⟨rfl, rfl, rfl, rfl⟩
          · rw [w6n (by decide), w6n (by decide), wA, m2.kd hr]
            show _ = nI (va_up (kd T) (f + x) kk r)
            by_cases e : r = f + x
            · rw [if_pos e, e, va_up_self]
            · rw [if_neg e, va_up_ne _ _ e]
          · rw [w6n (by decide), wA, w6n (by decide), m2.us hr]
            show _ = nI (va_up (us T) (f + x) u r)
            by_cases e : r = f + x
            · rw [if_pos e, e, va_up_self]
            · rw [if_neg e, va_up_ne _ _ e]
          · rw [wA, w6n (by decide), w6n (by decide), m2.lw hr]
            show _ = ol (lw T r)
            by_cases e : r = f + x
            · rw [if_pos e, e, sa.1, show lw (ptS (niS S1 w n) f (ct S1 3)) (f + x) = none from lfx]; rfl
            · rw [if_neg e]
          · rw [wS (by decide), wS (by decide), wS (by decide)]; exact m2.cu
          · rw [w6n (by decide), w6n (by decide), w6n (by decide)]; exact m2.ct hk
        have hm1 : ¬ nI (nd - 1) ≤ nI x → 16 = m16 (w - 16 * x) := fun z => by
          have : ¬ nd - 1 ≤ x := fun y => z (nI_le y (by omega))
          unfold m16
          rw [if_pos (by omega)]
        have hm2 : nI (nd - 1) ≤ nI x → w - 16 * x = m16 (w - 16 * x) := fun z => by
          have : nd - 1 ≤ x := (nI_leI (by omega) (by omega)).mp z
          unfold m16
          rw [if_neg (by omega)]
        by_cases hx0 : x = 0
        · have hx0' : nI x = 0 := by rw [hx0]; rfl
          refine r_iload 91 d_86_89 rfl rfl ?_
          refine r_iload 93 d_86_91 rfl rfl ?_
          refine r_icmp_ge 164 96 d_86_93 (by decide) rfl (fun c_93 => absurd c_93 (nI_ge hxn (by omega))) (fun c_93 => ?_)
          refine r_aload_n 97 d_86_96 rfl rfl ?_
          refine r_getR 100 3 8 6 (some 8) d_86_97 rfl fk_3_34 rfl (by decide) (MT.f8 m2.mt) ?_
          refine r_iload 102 d_86_100 rfl rfl ?_
          refine r_iload 104 d_86_102 rfl rfl ?_
          refine r_iadd 105 (nI (f + x)) d_86_104 rfl (nI_add _ _) ?_
          refine r_iload 107 d_86_105 rfl rfl ?_
          refine r_if_ne 114 110 d_86_107 (by decide) rfl (fun c_107 => absurd c_107 (fun z => z hx0')) (fun c_107 => ?_)
          refine r_iconst 111 (nI 4) d_86_110 rfl (by decide) ?_
          refine r_goto 115 d_86_111 (by decide) ?_
          refine r_iast 116 (f + x) d_86_115 rfl rfl (MT.l6_8 m2.mt hfx) ?_
          refine r_aload_n 117 d_86_116 rfl rfl ?_
          refine r_getR 120 3 9 6 (some 9) d_86_117 rfl fk_3_37 rfl (by decide) (MT.f9 (MT_sI m2.mt rfl)) ?_
          refine r_iload 122 d_86_120 rfl rfl ?_
          refine r_iload 124 d_86_122 rfl rfl ?_
          refine r_iadd 125 (nI (f + x)) d_86_124 rfl (nI_add _ _) ?_
          refine r_iload 127 d_86_125 rfl rfl ?_
          refine r_iload 129 d_86_127 rfl rfl ?_
          refine r_iconst 130 (nI 1) d_86_129 rfl (by decide) ?_
          refine r_isub 131 (nI (nd - 1)) d_86_130 rfl (pk_sub (by omega)) ?_
          refine r_icmp_ge 139 134 d_86_131 (by decide) rfl (fun c_131 => ?_) (fun c_131 => ?_)
          · skip
            refine r_iload_n 140 d_86_139 rfl rfl ?_
            refine r_bipush 142 (nI 16) d_86_140 rfl (by decide) ?_
            refine r_iload 144 d_86_142 rfl rfl ?_
            refine r_imul 145 (nI (16 * x)) d_86_144 rfl (pk_mul _ _) ?_
            refine r_isub 146 (nI (w - 16 * x)) d_86_145 rfl (pk_sub (by omega)) ?_
            refine r_iast 147 (f + x) d_86_146 rfl rfl (MT.l6_9 (MT_sI m2.mt rfl) hfx) ?_
            refine r_aload_n 148 d_86_147 rfl rfl ?_
            refine r_getR 151 3 10 6 (some 10) d_86_148 rfl fk_3_40 rfl (by decide) (MT.f10 (MT_sI (MT_sI m2.mt rfl) rfl)) ?_
            refine r_iload 153 d_86_151 rfl rfl ?_
            refine r_iload 155 d_86_153 rfl rfl ?_
            refine r_iadd 156 (nI (f + x)) d_86_155 rfl (nI_add _ _) ?_
            refine r_iconst 157 (-1) d_86_156 rfl (by decide) ?_
            refine r_iast 158 (f + x) d_86_157 rfl rfl (MT.l6_10 (MT_sI (MT_sI m2.mt rfl) rfl) hfx) ?_
            refine r_iinc 161 (nI (x + 1)) [rv 3 (some 0), iv (nI i), iv (nI n), iv (nI w), iv (nI nd), iv (nI f), iv (nI jj), iv (nI (x + 1))] d_86_158 rfl rfl (nI_1 x) rfl rfl ?_
            refine r_goto 89 d_86_161 (by decide) ?_
            first
            | exact hz2 4 (w - 16 * x) (by rw [if_pos hx0]) (hm2 c_131)
            | exact hz2 4 16 (by rw [if_pos hx0]) (hm1 c_131)
          · skip
            refine r_bipush 136 (nI 16) d_86_134 rfl (by decide) ?_
            refine r_goto 146 d_86_136 (by decide) ?_
            refine r_iast 147 (f + x) d_86_146 rfl rfl (MT.l6_9 (MT_sI m2.mt rfl) hfx) ?_
            refine r_aload_n 148 d_86_147 rfl rfl ?_
            refine r_getR 151 3 10 6 (some 10) d_86_148 rfl fk_3_40 rfl (by decide) (MT.f10 (MT_sI (MT_sI m2.mt rfl) rfl)) ?_
            refine r_iload 153 d_86_151 rfl rfl ?_
            refine r_iload 155 d_86_153 rfl rfl ?_
            refine r_iadd 156 (nI (f + x)) d_86_155 rfl (nI_add _ _) ?_
            refine r_iconst 157 (-1) d_86_156 rfl (by decide) ?_
            refine r_iast 158 (f + x) d_86_157 rfl rfl (MT.l6_10 (MT_sI (MT_sI m2.mt rfl) rfl) hfx) ?_
            refine r_iinc 161 (nI (x + 1)) [rv 3 (some 0), iv (nI i), iv (nI n), iv (nI w), iv (nI nd), iv (nI f), iv (nI jj), iv (nI (x + 1))] d_86_158 rfl rfl (nI_1 x) rfl rfl ?_
            refine r_goto 89 d_86_161 (by decide) ?_
            first
            | exact hz2 4 (w - 16 * x) (by rw [if_pos hx0]) (hm2 c_131)
            | exact hz2 4 16 (by rw [if_pos hx0]) (hm1 c_131)
        · have hx0' : ¬ nI x = 0 := fun z => hx0 ((nI_eq (by omega) (by decide)).mp (show nI x = nI 0 from z))
          refine r_iload 91 d_86_89 rfl rfl ?_
          refine r_iload 93 d_86_91 rfl rfl ?_
          refine r_icmp_ge 164 96 d_86_93 (by decide) rfl (fun c_93 => absurd c_93 (nI_ge hxn (by omega))) (fun c_93 => ?_)
          refine r_aload_n 97 d_86_96 rfl rfl ?_
          refine r_getR 100 3 8 6 (some 8) d_86_97 rfl fk_3_34 rfl (by decide) (MT.f8 m2.mt) ?_
          refine r_iload 102 d_86_100 rfl rfl ?_
          refine r_iload 104 d_86_102 rfl rfl ?_
          refine r_iadd 105 (nI (f + x)) d_86_104 rfl (nI_add _ _) ?_
          refine r_iload 107 d_86_105 rfl rfl ?_
          refine r_if_ne 114 110 d_86_107 (by decide) rfl (fun c_107 => ?_) (fun c_107 => absurd c_107 hx0')
          refine r_iconst 115 (nI 5) d_86_114 rfl (by decide) ?_
          refine r_iast 116 (f + x) d_86_115 rfl rfl (MT.l6_8 m2.mt hfx) ?_
          refine r_aload_n 117 d_86_116 rfl rfl ?_
          refine r_getR 120 3 9 6 (some 9) d_86_117 rfl fk_3_37 rfl (by decide) (MT.f9 (MT_sI m2.mt rfl)) ?_
          refine r_iload 122 d_86_120 rfl rfl ?_
          refine r_iload 124 d_86_122 rfl rfl ?_
          refine r_iadd 125 (nI (f + x)) d_86_124 rfl (nI_add _ _) ?_
          refine r_iload 127 d_86_125 rfl rfl ?_
          refine r_iload 129 d_86_127 rfl rfl ?_
          refine r_iconst 130 (nI 1) d_86_129 rfl (by decide) ?_
          refine r_isub 131 (nI (nd - 1)) d_86_130 rfl (pk_sub (by omega)) ?_
          refine r_icmp_ge 139 134 d_86_131 (by decide) rfl (fun c_131 => ?_) (fun c_131 => ?_)
          · skip
            refine r_iload_n 140 d_86_139 rfl rfl ?_
            refine r_bipush 142 (nI 16) d_86_140 rfl (by decide) ?_
            refine r_iload 144 d_86_142 rfl rfl ?_
            refine r_imul 145 (nI (16 * x)) d_86_144 rfl (pk_mul _ _) ?_
            refine r_isub 146 (nI (w - 16 * x)) d_86_145 rfl (pk_sub (by omega)) ?_
            refine r_iast 147 (f + x) d_86_146 rfl rfl (MT.l6_9 (MT_sI m2.mt rfl) hfx) ?_
            refine r_aload_n 148 d_86_147 rfl rfl ?_
            refine r_getR 151 3 10 6 (some 10) d_86_148 rfl fk_3_40 rfl (by decide) (MT.f10 (MT_sI (MT_sI m2.mt rfl) rfl)) ?_
            refine r_iload 153 d_86_151 rfl rfl ?_
            refine r_iload 155 d_86_153 rfl rfl ?_
            refine r_iadd 156 (nI (f + x)) d_86_155 rfl (nI_add _ _) ?_
            refine r_iconst 157 (-1) d_86_156 rfl (by decide) ?_
            refine r_iast 158 (f + x) d_86_157 rfl rfl (MT.l6_10 (MT_sI (MT_sI m2.mt rfl) rfl) hfx) ?_
            refine r_iinc 161 (nI (x + 1)) [rv 3 (some 0), iv (nI i), iv (nI n), iv (nI w), iv (nI nd), iv (nI f), iv (nI jj), iv (nI (x + 1))] d_86_158 rfl rfl (nI_1 x) rfl rfl ?_
            refine r_goto 89 d_86_161 (by decide) ?_
            first
            | exact hz2 5 (w - 16 * x) (by rw [if_neg hx0]) (hm2 c_131)
            | exact hz2 5 16 (by rw [if_neg hx0]) (hm1 c_131)
          · skip
            refine r_bipush 136 (nI 16) d_86_134 rfl (by decide) ?_
            refine r_goto 146 d_86_136 (by decide) ?_
            refine r_iast 147 (f + x) d_86_146 rfl rfl (MT.l6_9 (MT_sI m2.mt rfl) hfx) ?_
            refine r_aload_n 148 d_86_147 rfl rfl ?_
            refine r_getR 151 3 10 6 (some 10) d_86_148 rfl fk_3_40 rfl (by decide) (MT.f10 (MT_sI (MT_sI m2.mt rfl) rfl)) ?_
            refine r_iload 153 d_86_151 rfl rfl ?_
            refine r_iload 155 d_86_153 rfl rfl ?_
            refine r_iadd 156 (nI (f + x)) d_86_155 rfl (nI_add _ _) ?_
            refine r_iconst 157 (-1) d_86_156 rfl (by decide) ?_
            refine r_iast 158 (f + x) d_86_157 rfl rfl (MT.l6_10 (MT_sI (MT_sI m2.mt rfl) rfl) hfx) ?_
            refine r_iinc 161 (nI (x + 1)) [rv 3 (some 0), iv (nI i), iv (nI n), iv (nI w), iv (nI nd), iv (nI f), iv (nI jj), iv (nI (x + 1))] d_86_158 rfl rfl (nI_1 x) rfl rfl ?_
            refine r_goto 89 d_86_161 (by decide) ?_
            first
            | exact hz2 5 (w - 16 * x) (by rw [if_neg hx0]) (hm2 c_131)
            | exact hz2 5 16 (by rw [if_neg hx0]) (hm1 c_131)
    refine r_aload_n 76 d_86_75 rfl rfl ?_
    refine r_iload_n 77 d_86_76 rfl rfl ?_
    refine r_iload_n 78 d_86_77 rfl rfl ?_
    refine r_iload 80 d_86_78 rfl rfl ?_
    refine r_iconst 81 (nI 0) d_86_80 rfl (by decide) ?_
    refine r_callV (k1 := 0) (n1 := 0) (k := 0) (n := 0) 84 81 3 [iv (nI w), iv (nI n), iv (nI f), iv (nI 0)] d_86_81 rfl mk_81 lk_3_142 mv_81 rfl rfl rfl rfl rfl _ hN ?_
    intro r_81 h_81 q_81
    obtain ⟨jj, hjj, q1x, q2x, q3x⟩ := q_81
    subst q1x
    show TT 86 84 [rv 3 (some 0), iv (nI i), iv (nI n), iv (nI w), iv (nI nd), iv (nI f), un, un] [iv (nI jj)] h_81 _ _ _
    refine r_istore 86 [rv 3 (some 0), iv (nI i), iv (nI n), iv (nI w), iv (nI nd), iv (nI f), iv (nI jj), un] d_86_84 rfl rfl rfl ?_
    refine r_iconst 87 (nI 0) d_86_86 rfl (by decide) ?_
    refine r_istore 89 [rv 3 (some 0), iv (nI i), iv (nI n), iv (nI w), iv (nI nd), iv (nI f), iv (nI jj), iv (nI 0)] d_86_87 rfl rfl rfl ?_
    exact loop _ jj hjj (va_up_self _ _ _) nd 0 h_81 (by omega) q2x (mf1.tr q3x)
  have hroot : bI (ix 6 (nI i)).isNone = 0 := by rw [ix_nI (by decide) hi]; rfl
  cases h1 : lfr (isk S 0) nd 12 0 0 with
  | some f =>
    have ep : lgP S nd = (some f, S) := by unfold lgP; rw [h1]
    obtain ⟨g1, g2⟩ := lfr_free v hnd0 h1
    refine r_aload_n 1 d_86_0 rfl rfl ?_
    refine r_iload_n 2 d_86_1 rfl rfl ?_
    refine r_callV (k1 := 0) (n1 := 0) (k := 0) (n := 0) 5 62 3 [iv (nI i)] d_86_2 rfl mk_62 lk_3_132 mv_62 rfl rfl rfl rfl rfl _ (m_noRoot h (nI i)) ?_
    intro r_2 h_2 q_2
    obtain ⟨q1, q2⟩ := q_2
    subst q2
    rw [q1]
    show TT 86 5 [rv 3 (some 0), iv (nI i), iv (nI n), iv (nI w), un, un, un, un] [iv (bI (ix 6 (nI i)).isNone)] h _ _ _
    refine r_if_ne 29 8 d_86_5 (by decide) rfl (fun c_5 => absurd c_5 (fun z => z hroot)) (fun c_5 => ?_)
    refine r_iload_n 9 d_86_8 rfl rfl ?_
    refine r_if_lt 29 12 d_86_9 (by decide) rfl (fun c_9 => absurd c_9 (nI_pos (by omega))) (fun c_9 => ?_)
    refine r_iload_n 13 d_86_12 rfl rfl ?_
    refine r_iconst 14 (nI 3) d_86_13 rfl (by decide) ?_
    refine r_icmp_gt 29 17 d_86_14 (by decide) rfl (fun c_14 => absurd c_14 (fun z => absurd ((nI_ltI (by decide) (by omega)).mp z) (by omega))) (fun c_14 => ?_)
    refine r_iload_n 18 d_86_17 rfl rfl ?_
    refine r_bipush 20 (nI 9) d_86_18 rfl (by decide) ?_
    refine r_icmp_lt 29 23 d_86_20 (by decide) rfl (fun c_20 => absurd c_20 (nI_nlt hw9 (by omega))) (fun c_20 => ?_)
    refine r_iload_n 24 d_86_23 rfl rfl ?_
    refine r_bipush 26 (nI 40) d_86_24 rfl (by decide) ?_
    refine r_icmp_le 31 29 d_86_26 (by decide) rfl (fun c_26 => ?_) (fun c_26 => absurd (nI_le hw40 (by decide)) c_26)
    refine r_iload_n 32 d_86_31 rfl rfl ?_
    refine r_bipush 34 (nI 15) d_86_32 rfl (by decide) ?_
    refine r_iadd 35 (nI (w + 15)) d_86_34 rfl (nI_add _ _) ?_
    refine r_bipush 37 (nI 16) d_86_35 rfl (by decide) ?_
    refine r_idiv 38 (nI nd) d_86_37 rfl (by decide) ((pk_div (by omega) (by decide) (by decide)).trans (by rw [hnd])) ?_
    refine r_istore 40 [rv 3 (some 0), iv (nI i), iv (nI n), iv (nI w), iv (nI nd), un, un, un] d_86_38 rfl rfl rfl ?_
    refine r_aload_n 41 d_86_40 rfl rfl ?_
    refine r_iload 43 d_86_41 rfl rfl ?_
    refine r_callV (k1 := 0) (n1 := 0) (k := 0) (n := 0) 46 85 3 [iv (nI nd)] d_86_43 rfl mk_85 lk_3_146 mv_85 rfl rfl rfl rfl rfl _ (m_side m v hnd0 hnd3) ?_
    intro r_43 h_43 q_43
    obtain ⟨q1x, q2x⟩ := q_43
    rw [h1] at q2x
    subst q2x
    rw [q1x]
    show TT 86 46 [rv 3 (some 0), iv (nI i), iv (nI n), iv (nI w), iv (nI nd), un, un, un] [iv (nI f)] h _ _ _
    refine r_istore 48 [rv 3 (some 0), iv (nI i), iv (nI n), iv (nI w), iv (nI nd), iv (nI f), un, un] d_86_46 rfl rfl rfl ?_
    refine r_iload 50 d_86_48 rfl rfl ?_
    refine r_if_ge 67 53 d_86_50 (by decide) rfl (fun c_50 => ?_) (fun c_50 => absurd (nI_nn (by omega)) c_50)
    refine r_iload 69 d_86_67 rfl rfl ?_
    refine r_if_ge 75 72 d_86_69 (by decide) rfl (fun c_69 => ?_) (fun c_69 => absurd (nI_nn (by omega)) c_69)
    exact rest S h f _ _ ep v g1 g2 m (MF.rf h)
  | none =>
    have e2 : lgP S nd = (lfr (isk (ful S) 0) nd 12 0 0, ful S) := by unfold lgP; rw [h1]
    cases h2 : lfr (isk (ful S) 0) nd 12 0 0 with
    | some f =>
      rw [h2] at e2
      obtain ⟨g1, g2⟩ := lfr_free v2 hnd0 h2
      refine r_aload_n 1 d_86_0 rfl rfl ?_
      refine r_iload_n 2 d_86_1 rfl rfl ?_
      refine r_callV (k1 := 0) (n1 := 0) (k := 0) (n := 0) 5 62 3 [iv (nI i)] d_86_2 rfl mk_62 lk_3_132 mv_62 rfl rfl rfl rfl rfl _ (m_noRoot h (nI i)) ?_
      intro r_2 h_2 q_2
      obtain ⟨q1, q2⟩ := q_2
      subst q2
      rw [q1]
      show TT 86 5 [rv 3 (some 0), iv (nI i), iv (nI n), iv (nI w), un, un, un, un] [iv (bI (ix 6 (nI i)).isNone)] h _ _ _
      refine r_if_ne 29 8 d_86_5 (by decide) rfl (fun c_5 => absurd c_5 (fun z => z hroot)) (fun c_5 => ?_)
      refine r_iload_n 9 d_86_8 rfl rfl ?_
      refine r_if_lt 29 12 d_86_9 (by decide) rfl (fun c_9 => absurd c_9 (nI_pos (by omega))) (fun c_9 => ?_)
      refine r_iload_n 13 d_86_12 rfl rfl ?_
      refine r_iconst 14 (nI 3) d_86_13 rfl (by decide) ?_
      refine r_icmp_gt 29 17 d_86_14 (by decide) rfl (fun c_14 => absurd c_14 (fun z => absurd ((nI_ltI (by decide) (by omega)).mp z) (by omega))) (fun c_14 => ?_)
      refine r_iload_n 18 d_86_17 rfl rfl ?_
      refine r_bipush 20 (nI 9) d_86_18 rfl (by decide) ?_
      refine r_icmp_lt 29 23 d_86_20 (by decide) rfl (fun c_20 => absurd c_20 (nI_nlt hw9 (by omega))) (fun c_20 => ?_)
      refine r_iload_n 24 d_86_23 rfl rfl ?_
      refine r_bipush 26 (nI 40) d_86_24 rfl (by decide) ?_
      refine r_icmp_le 31 29 d_86_26 (by decide) rfl (fun c_26 => ?_) (fun c_26 => absurd (nI_le hw40 (by decide)) c_26)
      refine r_iload_n 32 d_86_31 rfl rfl ?_
      refine r_bipush 34 (nI 15) d_86_32 rfl (by decide) ?_
      refine r_iadd 35 (nI (w + 15)) d_86_34 rfl (nI_add _ _) ?_
      refine r_bipush 37 (nI 16) d_86_35 rfl (by decide) ?_
      refine r_idiv 38 (nI nd) d_86_37 rfl (by decide) ((pk_div (by omega) (by decide) (by decide)).trans (by rw [hnd])) ?_
      refine r_istore 40 [rv 3 (some 0), iv (nI i), iv (nI n), iv (nI w), iv (nI nd), un, un, un] d_86_38 rfl rfl rfl ?_
      refine r_aload_n 41 d_86_40 rfl rfl ?_
      refine r_iload 43 d_86_41 rfl rfl ?_
      refine r_callV (k1 := 0) (n1 := 0) (k := 0) (n := 0) 46 85 3 [iv (nI nd)] d_86_43 rfl mk_85 lk_3_146 mv_85 rfl rfl rfl rfl rfl _ (m_side m v hnd0 hnd3) ?_
      intro r_43 h_43 q_43
      obtain ⟨q1x, q2x⟩ := q_43
      rw [h1] at q2x
      subst q2x
      rw [q1x]
      show TT 86 46 [rv 3 (some 0), iv (nI i), iv (nI n), iv (nI w), iv (nI nd), un, un, un] [iv (-1)] h _ _ _
      refine r_istore 48 [rv 3 (some 0), iv (nI i), iv (nI n), iv (nI w), iv (nI nd), iv (-1), un, un] d_86_46 rfl rfl rfl ?_
      refine r_iload 50 d_86_48 rfl rfl ?_
      refine r_if_ge 67 53 d_86_50 (by decide) rfl (fun c_50 => absurd c_50 (by decide)) (fun c_50 => ?_)
      refine r_aload_n 54 d_86_53 rfl rfl ?_
      refine r_callV (k1 := 0) (n1 := 0) (k := 0) (n := 0) 57 76 3 [] d_86_54 rfl mk_76 lk_3_112 mv_76 rfl rfl rfl rfl rfl _ (m_fullC m v) ?_
      intro r_54 h_54 q_54
      obtain ⟨fl, rl, p1x, p2x, p3x⟩ := q_54
      subst p1x
      rw [(ful_of rl).1] at p2x
      show TT 86 57 [rv 3 (some 0), iv (nI i), iv (nI n), iv (nI w), iv (nI nd), iv (-1), un, un] [iv (nI fl.length)] h_54 _ _ _
      refine r_istore 59 [rv 3 (some 0), iv (nI i), iv (nI n), iv (nI w), iv (nI nd), iv (-1), iv (nI fl.length), un] d_86_57 rfl rfl rfl ?_
      refine r_aload_n 60 d_86_59 rfl rfl ?_
      refine r_iload 62 d_86_60 rfl rfl ?_
      refine r_callV (k1 := 0) (n1 := 0) (k := 0) (n := 0) 65 85 3 [iv (nI nd)] d_86_62 rfl mk_85 lk_3_146 mv_85 rfl rfl rfl rfl rfl _ (m_side p2x v2 hnd0 hnd3) ?_
      intro r_62 h_62 q_62
      obtain ⟨q1x, q2x⟩ := q_62
      rw [h2] at q2x
      subst q2x
      rw [q1x]
      show TT 86 65 [rv 3 (some 0), iv (nI i), iv (nI n), iv (nI w), iv (nI nd), iv (-1), iv (nI fl.length), un] [iv (nI f)] h_54 _ _ _
      refine r_istore 67 [rv 3 (some 0), iv (nI i), iv (nI n), iv (nI w), iv (nI nd), iv (nI f), iv (nI fl.length), un] d_86_65 rfl rfl rfl ?_
      refine r_iload 69 d_86_67 rfl rfl ?_
      refine r_if_ge 75 72 d_86_69 (by decide) rfl (fun c_69 => ?_) (fun c_69 => absurd (nI_nn (by omega)) c_69)
      exact rest (ful S) h_54 f _ _ e2 v2 g1 g2 p2x p3x
    | none =>
      rw [h2] at e2
      have e1 : lgA S w = -2 := by unfold lgA; rw [hnd, e2]
      have e3 : lgT S w n i = ful S := by unfold lgT; rw [hnd, e2]
      rw [e1, e3]
      refine r_aload_n 1 d_86_0 rfl rfl ?_
      refine r_iload_n 2 d_86_1 rfl rfl ?_
      refine r_callV (k1 := 0) (n1 := 0) (k := 0) (n := 0) 5 62 3 [iv (nI i)] d_86_2 rfl mk_62 lk_3_132 mv_62 rfl rfl rfl rfl rfl _ (m_noRoot h (nI i)) ?_
      intro r_2 h_2 q_2
      obtain ⟨q1, q2⟩ := q_2
      subst q2
      rw [q1]
      show TT 86 5 [rv 3 (some 0), iv (nI i), iv (nI n), iv (nI w), un, un, un, un] [iv (bI (ix 6 (nI i)).isNone)] h _ _ _
      refine r_if_ne 29 8 d_86_5 (by decide) rfl (fun c_5 => absurd c_5 (fun z => z hroot)) (fun c_5 => ?_)
      refine r_iload_n 9 d_86_8 rfl rfl ?_
      refine r_if_lt 29 12 d_86_9 (by decide) rfl (fun c_9 => absurd c_9 (nI_pos (by omega))) (fun c_9 => ?_)
      refine r_iload_n 13 d_86_12 rfl rfl ?_
      refine r_iconst 14 (nI 3) d_86_13 rfl (by decide) ?_
      refine r_icmp_gt 29 17 d_86_14 (by decide) rfl (fun c_14 => absurd c_14 (fun z => absurd ((nI_ltI (by decide) (by omega)).mp z) (by omega))) (fun c_14 => ?_)
      refine r_iload_n 18 d_86_17 rfl rfl ?_
      refine r_bipush 20 (nI 9) d_86_18 rfl (by decide) ?_
      refine r_icmp_lt 29 23 d_86_20 (by decide) rfl (fun c_20 => absurd c_20 (nI_nlt hw9 (by omega))) (fun c_20 => ?_)
      refine r_iload_n 24 d_86_23 rfl rfl ?_
      refine r_bipush 26 (nI 40) d_86_24 rfl (by decide) ?_
      refine r_icmp_le 31 29 d_86_26 (by decide) rfl (fun c_26 => ?_) (fun c_26 => absurd (nI_le hw40 (by decide)) c_26)
      refine r_iload_n 32 d_86_31 rfl rfl ?_
      refine r_bipush 34 (nI 15) d_86_32 rfl (by decide) ?_
      refine r_iadd 35 (nI (w + 15)) d_86_34 rfl (nI_add _ _) ?_
      refine r_bipush 37 (nI 16) d_86_35 rfl (by decide) ?_
      refine r_idiv 38 (nI nd) d_86_37 rfl (by decide) ((pk_div (by omega) (by decide) (by decide)).trans (by rw [hnd])) ?_
      refine r_istore 40 [rv 3 (some 0), iv (nI i), iv (nI n), iv (nI w), iv (nI nd), un, un, un] d_86_38 rfl rfl rfl ?_
      refine r_aload_n 41 d_86_40 rfl rfl ?_
      refine r_iload 43 d_86_41 rfl rfl ?_
      refine r_callV (k1 := 0) (n1 := 0) (k := 0) (n := 0) 46 85 3 [iv (nI nd)] d_86_43 rfl mk_85 lk_3_146 mv_85 rfl rfl rfl rfl rfl _ (m_side m v hnd0 hnd3) ?_
      intro r_43 h_43 q_43
      obtain ⟨q1x, q2x⟩ := q_43
      rw [h1] at q2x
      subst q2x
      rw [q1x]
      show TT 86 46 [rv 3 (some 0), iv (nI i), iv (nI n), iv (nI w), iv (nI nd), un, un, un] [iv (-1)] h _ _ _
      refine r_istore 48 [rv 3 (some 0), iv (nI i), iv (nI n), iv (nI w), iv (nI nd), iv (-1), un, un] d_86_46 rfl rfl rfl ?_
      refine r_iload 50 d_86_48 rfl rfl ?_
      refine r_if_ge 67 53 d_86_50 (by decide) rfl (fun c_50 => absurd c_50 (by decide)) (fun c_50 => ?_)
      refine r_aload_n 54 d_86_53 rfl rfl ?_
      refine r_callV (k1 := 0) (n1 := 0) (k := 0) (n := 0) 57 76 3 [] d_86_54 rfl mk_76 lk_3_112 mv_76 rfl rfl rfl rfl rfl _ (m_fullC m v) ?_
      intro r_54 h_54 q_54
      obtain ⟨fl, rl, p1x, p2x, p3x⟩ := q_54
      subst p1x
      rw [(ful_of rl).1] at p2x
      show TT 86 57 [rv 3 (some 0), iv (nI i), iv (nI n), iv (nI w), iv (nI nd), iv (-1), un, un] [iv (nI fl.length)] h_54 _ _ _
      refine r_istore 59 [rv 3 (some 0), iv (nI i), iv (nI n), iv (nI w), iv (nI nd), iv (-1), iv (nI fl.length), un] d_86_57 rfl rfl rfl ?_
      refine r_aload_n 60 d_86_59 rfl rfl ?_
      refine r_iload 62 d_86_60 rfl rfl ?_
      refine r_callV (k1 := 0) (n1 := 0) (k := 0) (n := 0) 65 85 3 [iv (nI nd)] d_86_62 rfl mk_85 lk_3_146 mv_85 rfl rfl rfl rfl rfl _ (m_side p2x v2 hnd0 hnd3) ?_
      intro r_62 h_62 q_62
      obtain ⟨q1x, q2x⟩ := q_62
      rw [h2] at q2x
      subst q2x
      rw [q1x]
      show TT 86 65 [rv 3 (some 0), iv (nI i), iv (nI n), iv (nI w), iv (nI nd), iv (-1), iv (nI fl.length), un] [iv (-1)] h_54 _ _ _
      refine r_istore 67 [rv 3 (some 0), iv (nI i), iv (nI n), iv (nI w), iv (nI nd), iv (-1), iv (nI fl.length), un] d_86_65 rfl rfl rfl ?_
      refine r_iload 69 d_86_67 rfl rfl ?_
      refine r_if_ge 75 72 d_86_69 (by decide) rfl (fun c_69 => absurd c_69 (by decide)) (fun c_69 => ?_)
      refine r_bipush 74 (-2) d_86_72 rfl (by decide) ?_
      refine r_ireturn d_86_74 rfl ?_
      exact ⟨rfl, ⟨sg, p2x⟩, p3x⟩
theorem m_large_bad {h : AH} (a b d : Int32) (hb : ix 6 a = none ∨ ix 4 b = none ∨ d < nI 9 ∨ nI 40 < d) : TT 86 0 [rv 3 (some 0), iv a, iv b, iv d, un, un, un, un] [] h 0 0 (fun x h' => h' = h ∧ x = some (iv (-1))) := by
  refine r_aload_n 1 d_86_0 rfl rfl ?_
  refine r_iload_n 2 d_86_1 rfl rfl ?_
  refine r_callV (k1 := 0) (n1 := 0) (k := 0) (n := 0) 5 62 3 [iv a] d_86_2 rfl mk_62 lk_3_132 mv_62 rfl rfl rfl rfl rfl _ (m_noRoot h a) ?_
  intro r_2 h_2 q_2
  obtain ⟨q1, q2⟩ := q_2
  subst q2
  rw [q1]
  show TT 86 5 [rv 3 (some 0), iv a, iv b, iv d, un, un, un, un] [iv (bI (ix 6 a).isNone)] h _ _ _
  refine r_if_ne 29 8 d_86_5 (by decide) rfl (fun c_5 => ?_) (fun c_5 => ?_)
  · skip
    refine r_iconst 30 (-1) d_86_29 rfl (by decide) ?_
    refine r_ireturn d_86_30 rfl ?_
    exact ⟨rfl, rfl⟩
  · skip
    refine r_iload_n 9 d_86_8 rfl rfl ?_
    refine r_if_lt 29 12 d_86_9 (by decide) rfl (fun c_9 => ?_) (fun c_9 => ?_)
    · skip
      refine r_iconst 30 (-1) d_86_29 rfl (by decide) ?_
      refine r_ireturn d_86_30 rfl ?_
      exact ⟨rfl, rfl⟩
    · skip
      refine r_iload_n 13 d_86_12 rfl rfl ?_
      refine r_iconst 14 (nI 3) d_86_13 rfl (by decide) ?_
      refine r_icmp_gt 29 17 d_86_14 (by decide) rfl (fun c_14 => ?_) (fun c_14 => ?_)
      · skip
        refine r_iconst 30 (-1) d_86_29 rfl (by decide) ?_
        refine r_ireturn d_86_30 rfl ?_
        exact ⟨rfl, rfl⟩
      · skip
        refine r_iload_n 18 d_86_17 rfl rfl ?_
        refine r_bipush 20 (nI 9) d_86_18 rfl (by decide) ?_
        refine r_icmp_lt 29 23 d_86_20 (by decide) rfl (fun c_20 => ?_) (fun c_20 => ?_)
        · skip
          refine r_iconst 30 (-1) d_86_29 rfl (by decide) ?_
          refine r_ireturn d_86_30 rfl ?_
          exact ⟨rfl, rfl⟩
        · skip
          refine r_iload_n 24 d_86_23 rfl rfl ?_
          refine r_bipush 26 (nI 40) d_86_24 rfl (by decide) ?_
          refine r_icmp_le 31 29 d_86_26 (by decide) rfl (fun c_26 => ?_) (fun c_26 => ?_)
          · skip
            exfalso
            have s1 := bI_0 c_5
            rcases hb with q | q | q | q
            · rw [q] at s1; cases s1
            · obtain ⟨j, -, -, hj⟩ := ix_in (n := 4) (a := b) (by decide) c_9 (fun z => absurd (Int32.not_lt.mp c_14) (Int32.not_le.mpr (lt_of_le4 z)))
              rw [hj] at q
              cases q
            · exact c_20 q
            · exact absurd c_26 (Int32.not_le.mpr q)
          · skip
            refine r_iconst 30 (-1) d_86_29 rfl (by decide) ?_
            refine r_ireturn d_86_30 rfl ?_
            exact ⟨rfl, rfl⟩
