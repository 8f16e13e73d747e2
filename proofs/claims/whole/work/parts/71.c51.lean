/-! contracts of the reference: a collection -/
def cw (S : SS) (col : Nat → Bool) (w o : Nat) : Bool := !(col (hm S o) && decide (ps S o < w))
theorem cw_s {S : SS} {col : Nat → Bool} {w o : Nat} (h : col (hm S o) = true → ps S o ≠ w) : cw S col (w + 1) o = cw S col w o := by
  unfold cw
  cases hc : col (hm S o) with
  | false => rfl
  | true =>
    have := h hc
    rw [show decide (ps S o < w + 1) = decide (ps S o < w) from decide_eq_decide.mpr (by omega)]
/-- what collected regions held is gone; the regions below n are in their new state -/
def crS (S : SS) (col : Nat → Bool) (P : PP) (n : Nat) : SS := mkS (kd (coS S col P n)) (us (coS S col P n)) (lw (coS S col P n)) (itm (flS S (cw S col 192))) (ro S) (wd S) (fd S) (hm S) (so S) (cu S) (ct S)
theorem co_ne {S : SS} {col : Nat → Bool} {P : PP} {n r : Nat} (h : r ≠ n) : kd (coS S col P (n + 1)) r = kd (coS S col P n) r ∧ us (coS S col P (n + 1)) r = us (coS S col P n) r ∧ lw (coS S col P (n + 1)) r = lw (coS S col P n) r := by
  by_cases hlt : r < n
  · simp [coS, kd, us, lw, mkS, hlt, show r < n + 1 by omega]
  · simp [coS, kd, us, lw, mkS, hlt, show ¬ r < n + 1 by omega]
theorem cr_reg {h1 h' : AH} {S : SS} {col : Nat → Bool} {P : PP} {sg : Nat → Nat} {n : Nat} {a b c : Int32} (m1 : RX h1 S (crS S col P n) sg) (x : XG h1 h') (e8 : ∀ r, hI h' 6 8 r = if r = n then a else hI h1 6 8 r) (e9 : ∀ r, hI h' 6 9 r = if r = n then b else hI h1 6 9 r) (e10 : ∀ r, hI h' 6 10 r = if r = n then c else hI h1 6 10 r) (e11 : ∀ k, hI h' 6 11 k = hI h1 6 11 k) (ec : hI h' 3 0 11 = hI h1 3 0 11) (ha : a = nI (kd (coS S col P (n + 1)) n)) (hb : b = nI (us (coS S col P (n + 1)) n)) (hc : c = ol (lw (coS S col P (n + 1)) n)) : RX h' S (crS S col P (n + 1)) sg := by
  refine RX_reg m1 x (fun r hr => ?_) (ec.trans m1.cu) (fun k hk => (e11 k).trans (m1.ct hk)) ⟨rfl, rfl, rfl⟩ ⟨rfl, rfl, rfl, rfl⟩
  show _ = nI (kd (coS S col P (n + 1)) r) ∧ _ = nI (us (coS S col P (n + 1)) r) ∧ _ = ol (lw (coS S col P (n + 1)) r)
  rw [e8, e9, e10]
  by_cases e : r = n
  · subst e
    rw [if_pos rfl, if_pos rfl, if_pos rfl]
    exact ⟨ha, hb, hc⟩
  · obtain ⟨x1, x2, x3⟩ := co_ne (S := S) (col := col) (P := P) e
    rw [if_neg e, if_neg e, if_neg e, x1, x2, x3]
    exact ⟨m1.kd hr, m1.us hr, m1.lw hr⟩
theorem m_carry {h h0 : AH} {S : SS} {col : Nat → Bool} {P : PP} {sg : Nat → Nat} {u1 u2 u3 : AV} (v : IV S) (sm : SMc S col) (hck : ∀ r, r < 12 → col r = true → 1 ≤ kd S r ∧ kd S r ≤ 3) (pi : PI S col P) (m : RM h0 S sg) (q : RQ h0 S col P sg) (mf : MF h h0) : TT 75 78 [rv 3 (some 0), u1, u2, u3] [] h0 0 0 (fun x h' => x = some (iv (nI (pf P).length)) ∧ RM h' (cpS S col P) sg ∧ MF h h') := by
  have b := v.bd
  have regs : ∀ n r h1, r + n = 12 → RX h1 S (crS S col P r) sg → RQ h1 S col P sg → MF h h1 → TT 75 135 [rv 3 (some 0), un, iv (nI r), un] [] h1 0 0 (fun x h' => x = some (iv (nI (pf P).length)) ∧ RM h' (cpS S col P) sg ∧ MF h h') := by
    intro n
    induction n with
    | zero =>
      intro r h1 hr m1 q1 mf1
      obtain rfl : r = 12 := by omega
      have m2 : RX h1 S (coS S col P 12) sg := by
        refine RX_mem m1 (fun o => ?_) (fun r hr => ⟨rfl, rfl, rfl⟩) ⟨rfl, rfl, rfl⟩ ⟨rfl, rfl⟩
        rw [co_all v]
        show _ ↔ o ∈ all (flS S (cw S col 192))
        rw [fl_mem]
        refine and_congr_right (fun ho => ?_)
        have hs := so_lt v ho
        have hr := hm_lt v.cl ho
        unfold cw
        rw [decide_eq_true (show ps S o < 192 by unfold ps; omega), Bool.and_true]
        cases col (hm S o) <;> simp
      have z := m_copy (h := h) v sm pi (pf P).length 0 h1 (coS S col P 12) un (by omega) m2 q1 (by rw [List.drop_zero]; exact co_AI v hck sm pi) (fun t ht htk => by
        have hk0 := (pi.2.2.2.2.1 t ht).2.1 htk
        have hc : col t = false := Bool.eq_false_iff.mpr (fun z => by have := (hck t ht z).1; omega)
        rw [(co_n ht hc).2.1, (v.free t ht hk0).2]
        rfl) rfl mf1
      refine r_iload_n 136 d_75_135 rfl rfl ?_
      refine r_bipush 138 (nI 12) d_75_136 rfl (by decide) ?_
      refine r_icmp_ge 196 141 d_75_138 (by decide) rfl (fun c_138 => ?_) (fun c_138 => absurd (nI_le (Nat.le_refl _) (by decide)) c_138)
      refine r_iconst 197 (nI 0) d_75_196 rfl (by decide) ?_
      refine r_istore_n 198 [rv 3 (some 0), un, iv (nI 0), un] d_75_197 rfl rfl rfl ?_
      exact z
    | succ n ih =>
      intro r h1 hr m1 q1 mf1
      have hr12 : r < 12 := by omega
      obtain ⟨p1, p2, -⟩ := pi.2.2.2.2.1 r hr12
      have hb := q1.bc hr12
      have ek : kd (coS S col P (r + 1)) r = if col r = true then 0 else if pk P r = 0 then kd S r else pk P r := if_pos (Nat.lt_succ_self r)
      cases hc : col r with
      | true =>
        have hk := hck r hr12 hc
        have hp0 : pk P r = 0 := Decidable.byContradiction (fun z => by have := p2 z; omega)
        have hcv : hI h1 7 0 r = bI true := (q1.co hr12).trans (by rw [hc])
        have qr : RQ (relH h1 r) S col P sg := RQ_w (RQ_w (RQ_w q1 (by decide)) (by decide)) (by decide)
        have hb2 : hI (relH h1 r) 6 12 r = nI 0 := (qr.bc hr12).trans (by rw [hp0])
        have mr : RX (relH h1 r) S (crS S col P (r + 1)) sg := by
          refine cr_reg (a := nI 0) (b := nI 0) (c := -1) m1 (xg_rel (XG.rf _) r) (fun r' => ?_) (fun r' => ?_) (fun r' => ?_) (fun k => ?_) ?_ ?_ ?_ ?_
          · unfold relH; rw [w6n (by decide), w6n (by decide), wA]
          · unfold relH; rw [w6n (by decide), wA, w6n (by decide)]
          · unfold relH; rw [wA, w6n (by decide), w6n (by decide)]
          · unfold relH; rw [w6n (by decide), w6n (by decide), w6n (by decide)]
          · unfold relH; rw [wS (by decide), wS (by decide), wS (by decide)]
          · rw [ek, if_pos hc]
          · rw [show us (coS S col P (r + 1)) r = 0 from if_pos ⟨Nat.lt_succ_self r, hc⟩]
          · rw [show lw (coS S col P (r + 1)) r = none from if_pos ⟨Nat.lt_succ_self r, hc⟩]; rfl
        have z := ih (r + 1) _ (by omega) mr qr (mf1.tr (xg_rel (XG.rf h1) r).1)
        refine r_iload_n 136 d_75_135 rfl rfl ?_
        refine r_bipush 138 (nI 12) d_75_136 rfl (by decide) ?_
        refine r_icmp_ge 196 141 d_75_138 (by decide) rfl (fun c_138 => absurd c_138 (nI_ge hr12 (by decide))) (fun c_138 => ?_)
        refine r_aload_n 142 d_75_141 rfl rfl ?_
        refine r_getR 145 3 13 7 (some 0) d_75_142 rfl fk_3_50 rfl (by decide) (MT.f13 m1.mt) ?_
        refine r_iload_n 146 d_75_145 rfl rfl ?_
        refine r_bald 147 r (bI true) d_75_146 rfl rfl (MT.l7_0 m1.mt hr12) hcv ?_
        refine r_if_eq 155 150 d_75_147 (by decide) rfl (fun c_147 => absurd c_147 bI_t0) (fun c_147 => ?_)
        refine r_aload_n 151 d_75_150 rfl rfl ?_
        refine r_iload_n 152 d_75_151 rfl rfl ?_
        refine r_callV (k1 := 0) (n1 := 0) (k := 0) (n := 0) 155 66 3 [iv (nI r)] d_75_152 rfl mk_66 lk_3_116 mv_66 rfl rfl rfl rfl rfl _ (m_release m1.mt hr12) ?_
        intro r_152 h_152 q_152
        obtain ⟨q1x, q2x⟩ := q_152
        subst q2x
        rw [q1x]
        show TT 75 155 [rv 3 (some 0), un, iv (nI r), un] [] (relH h1 r) _ _ _
        refine r_aload_n 156 d_75_155 rfl rfl ?_
        refine r_getR 159 3 14 6 (some 12) d_75_156 rfl fk_3_54 rfl (by decide) (MT.f14 mr.mt) ?_
        refine r_iload_n 160 d_75_159 rfl rfl ?_
        refine r_iald 161 r (nI 0) d_75_160 rfl rfl (MT.l6_12 mr.mt hr12) hb2 ?_
        refine r_if_le 190 164 d_75_161 (by decide) rfl (fun c_161 => ?_) (fun c_161 => absurd (by decide) c_161)
        refine r_iinc 193 (nI (r + 1)) [rv 3 (some 0), un, iv (nI (r + 1)), un] d_75_190 rfl rfl (nI_1 r) rfl rfl ?_
        refine r_goto 135 d_75_193 (by decide) ?_
        exact z
      | false =>
        have hcv : hI h1 7 0 r = bI false := (q1.co hr12).trans (by rw [hc])
        have hcn : ¬ col r = true := by rw [hc]; exact Bool.false_ne_true
        have eu : us (coS S col P (r + 1)) r = us S r := if_neg (fun z => hcn z.2)
        have el : lw (coS S col P (r + 1)) r = lw S r := if_neg (fun z => hcn z.2)
        by_cases hp : pk P r = 0
        · have hb2 : hI h1 6 12 r = nI 0 := hb.trans (by rw [hp])
          have z := ih (r + 1) h1 (by omega) (by unfold crS at m1 ⊢; rw [coS_n hc hp]; exact m1) q1 mf1
          refine r_iload_n 136 d_75_135 rfl rfl ?_
          refine r_bipush 138 (nI 12) d_75_136 rfl (by decide) ?_
          refine r_icmp_ge 196 141 d_75_138 (by decide) rfl (fun c_138 => absurd c_138 (nI_ge hr12 (by decide))) (fun c_138 => ?_)
          refine r_aload_n 142 d_75_141 rfl rfl ?_
          refine r_getR 145 3 13 7 (some 0) d_75_142 rfl fk_3_50 rfl (by decide) (MT.f13 m1.mt) ?_
          refine r_iload_n 146 d_75_145 rfl rfl ?_
          refine r_bald 147 r (bI false) d_75_146 rfl rfl (MT.l7_0 m1.mt hr12) hcv ?_
          refine r_if_eq 155 150 d_75_147 (by decide) rfl (fun c_147 => ?_) (fun c_147 => absurd rfl c_147)
          refine r_aload_n 156 d_75_155 rfl rfl ?_
          refine r_getR 159 3 14 6 (some 12) d_75_156 rfl fk_3_54 rfl (by decide) (MT.f14 m1.mt) ?_
          refine r_iload_n 160 d_75_159 rfl rfl ?_
          refine r_iald 161 r (nI 0) d_75_160 rfl rfl (MT.l6_12 m1.mt hr12) hb2 ?_
          refine r_if_le 190 164 d_75_161 (by decide) rfl (fun c_161 => ?_) (fun c_161 => absurd (by decide) c_161)
          refine r_iinc 193 (nI (r + 1)) [rv 3 (some 0), un, iv (nI (r + 1)), un] d_75_190 rfl rfl (nI_1 r) rfl rfl ?_
          refine r_goto 135 d_75_193 (by decide) ?_
          exact z
        · have k0 := p2 hp
          obtain ⟨-, u0, l0⟩ := (v.1 r hr12).1 k0
          have mr : RX (sI (sI (sI h1 6 8 r (nI (pk P r))) 6 9 r (nI 0)) 6 10 r (-1)) S (crS S col P (r + 1)) sg := by
            refine cr_reg (a := nI (pk P r)) (b := nI 0) (c := -1) m1 (XG_sI (XG_sI (XG_sI (XG.rf _) rfl) rfl) rfl) (fun r' => ?_) (fun r' => ?_) (fun r' => ?_) (fun k => ?_) ?_ ?_ ?_ ?_
            · rw [w6n (by decide), w6n (by decide), wA]
            · rw [w6n (by decide), wA, w6n (by decide)]
            · rw [wA, w6n (by decide), w6n (by decide)]
            · rw [w6n (by decide), w6n (by decide), w6n (by decide)]
            · rw [wS (by decide), wS (by decide), wS (by decide)]
            · rw [ek, if_neg hcn, if_neg hp]
            · rw [eu, u0]
            · rw [el, l0]; rfl
          have z := ih (r + 1) _ (by omega) mr (RQ_w (RQ_w (RQ_w q1 (by decide)) (by decide)) (by decide)) (MF_sI (MF_sI (MF_sI mf1 rfl) rfl) rfl)
          refine r_iload_n 136 d_75_135 rfl rfl ?_
          refine r_bipush 138 (nI 12) d_75_136 rfl (by decide) ?_
          refine r_icmp_ge 196 141 d_75_138 (by decide) rfl (fun c_138 => absurd c_138 (nI_ge hr12 (by decide))) (fun c_138 => ?_)
          refine r_aload_n 142 d_75_141 rfl rfl ?_
          refine r_getR 145 3 13 7 (some 0) d_75_142 rfl fk_3_50 rfl (by decide) (MT.f13 m1.mt) ?_
          refine r_iload_n 146 d_75_145 rfl rfl ?_
          refine r_bald 147 r (bI false) d_75_146 rfl rfl (MT.l7_0 m1.mt hr12) hcv ?_
          refine r_if_eq 155 150 d_75_147 (by decide) rfl (fun c_147 => ?_) (fun c_147 => absurd rfl c_147)
          refine r_aload_n 156 d_75_155 rfl rfl ?_
          refine r_getR 159 3 14 6 (some 12) d_75_156 rfl fk_3_54 rfl (by decide) (MT.f14 m1.mt) ?_
          refine r_iload_n 160 d_75_159 rfl rfl ?_
          refine r_iald 161 r (nI (pk P r)) d_75_160 rfl rfl (MT.l6_12 m1.mt hr12) hb ?_
          refine r_if_le 190 164 d_75_161 (by decide) rfl (fun c_161 => absurd c_161 (fun y => hp (Nat.le_zero.mp ((nI_leI (by omega) (by decide)).mp (show nI (pk P r) ≤ nI 0 from y))))) (fun c_161 => ?_)
          refine r_aload_n 165 d_75_164 rfl rfl ?_
          refine r_getR 168 3 8 6 (some 8) d_75_165 rfl fk_3_34 rfl (by decide) (MT.f8 m1.mt) ?_
          refine r_iload_n 169 d_75_168 rfl rfl ?_
          refine r_aload_n 170 d_75_169 rfl rfl ?_
          refine r_getR 173 3 14 6 (some 12) d_75_170 rfl fk_3_54 rfl (by decide) (MT.f14 m1.mt) ?_
          refine r_iload_n 174 d_75_173 rfl rfl ?_
          refine r_iald 175 r (nI (pk P r)) d_75_174 rfl rfl (MT.l6_12 m1.mt hr12) hb ?_
          refine r_iast 176 r d_75_175 rfl rfl (MT.l6_8 m1.mt hr12) ?_
          refine r_aload_n 177 d_75_176 rfl rfl ?_
          refine r_getR 180 3 9 6 (some 9) d_75_177 rfl fk_3_37 rfl (by decide) (MT.f9 (MT_sI m1.mt rfl)) ?_
          refine r_iload_n 181 d_75_180 rfl rfl ?_
          refine r_iconst 182 (nI 0) d_75_181 rfl (by decide) ?_
          refine r_iast 183 r d_75_182 rfl rfl (MT.l6_9 (MT_sI m1.mt rfl) hr12) ?_
          refine r_aload_n 184 d_75_183 rfl rfl ?_
          refine r_getR 187 3 10 6 (some 10) d_75_184 rfl fk_3_40 rfl (by decide) (MT.f10 (MT_sI (MT_sI m1.mt rfl) rfl)) ?_
          refine r_iload_n 188 d_75_187 rfl rfl ?_
          refine r_iconst 189 (-1) d_75_188 rfl (by decide) ?_
          refine r_iast 190 r d_75_189 rfl rfl (MT.l6_10 (MT_sI (MT_sI m1.mt rfl) rfl) hr12) ?_
          refine r_iinc 193 (nI (r + 1)) [rv 3 (some 0), un, iv (nI (r + 1)), un] d_75_190 rfl rfl (nI_1 r) rfl rfl ?_
          refine r_goto 135 d_75_193 (by decide) ?_
          exact z
  have words : ∀ n w h1, w + n = 192 → RX h1 S (flS S (cw S col w)) sg → RQ h1 S col P sg → MF h h1 → TT 75 80 [rv 3 (some 0), un, iv (nI w), un] [] h1 0 0 (fun x h' => x = some (iv (nI (pf P).length)) ∧ RM h' (cpS S col P) sg ∧ MF h h') := by
    intro n
    induction n with
    | zero =>
      intro w h1 hw m1 q1 mf1
      obtain rfl : w = 192 := by omega
      have z := regs 12 0 h1 rfl (by
        unfold crS
        rw [coS_0]
        exact m1) q1 mf1
      refine r_iload_n 81 d_75_80 rfl rfl ?_
      refine r_sipush 84 (nI 192) d_75_81 rfl (by decide) ?_
      refine r_icmp_ge 133 87 d_75_84 (by decide) rfl (fun c_84 => ?_) (fun c_84 => absurd (nI_le (Nat.le_refl _) (by decide)) c_84)
      refine r_iconst 134 (nI 0) d_75_133 rfl (by decide) ?_
      refine r_istore_n 135 [rv 3 (some 0), un, iv (nI 0), un] d_75_134 rfl rfl rfl ?_
      exact z
    | succ n ih =>
      intro w h1 hw m1 q1 mf1
      have hw192 : w < 192 := by omega
      have skip : (∀ o, o ∈ all S → col (hm S o) = true → ps S o ≠ w) → RX h1 S (flS S (cw S col (w + 1))) sg := by
        intro hno
        refine RX_mem m1 (fun o => ?_) (fun y hy => ⟨rfl, rfl, rfl⟩) ⟨rfl, rfl, rfl⟩ ⟨rfl, rfl⟩
        rw [fl_mem, fl_mem]
        refine and_congr_right (fun ho => ?_)
        rw [cw_s (hno o ho)]
      cases ea : atO S w with
      | none =>
        have hno := atO_no ea
        have hat : hI h1 6 6 w = -1 := m1.an hw192 (fun o ho => hno o (fl_mem.mp ho).1)
        have z := ih (w + 1) h1 (by omega) (skip (fun o ho _ => hno o ho)) q1 mf1
        refine r_iload_n 81 d_75_80 rfl rfl ?_
        refine r_sipush 84 (nI 192) d_75_81 rfl (by decide) ?_
        refine r_icmp_ge 133 87 d_75_84 (by decide) rfl (fun c_84 => absurd c_84 (nI_ge hw192 (by decide))) (fun c_84 => ?_)
        refine r_aload_n 88 d_75_87 rfl rfl ?_
        refine r_getR 91 3 6 6 (some 6) d_75_88 rfl fk_3_28 rfl (by decide) (MT.f6 m1.mt) ?_
        refine r_iload_n 92 d_75_91 rfl rfl ?_
        refine r_iald 93 w (-1) d_75_92 rfl rfl (MT.l6_6 m1.mt hw192) hat ?_
        refine r_if_lt 127 96 d_75_93 (by decide) rfl (fun c_93 => ?_) (fun c_93 => absurd (by decide) c_93)
        refine r_iinc 130 (nI (w + 1)) [rv 3 (some 0), un, iv (nI (w + 1)), un] d_75_127 rfl rfl (nI_1 w) rfl rfl ?_
        refine r_goto 80 d_75_130 (by decide) ?_
        exact z
      | some o =>
        obtain ⟨hoa, hps⟩ := atO_mem ea
        have hs16 := so_lt v hoa
        have hr12 := hm_lt v.cl hoa
        have hso := m.lt hoa
        have hdv : w / 16 = hm S o := by unfold ps at hps; omega
        have hof : o ∈ all (flS S (cw S col w)) := fl_mem.mpr ⟨hoa, by unfold cw; rw [decide_eq_false (by omega), Bool.and_false]; rfl⟩
        have hat : hI h1 6 6 w = nI (sg o) := by
          have := m1.at hof
          rw [show ps (flS S (cw S col w)) o = w from hps] at this
          exact this
        cases hc : col (hm S o) with
        | false =>
          have hcv : hI h1 7 0 (hm S o) = bI false := (q1.co hr12).trans (by rw [hc])
          have z := ih (w + 1) h1 (by omega) (skip (fun o' ho' hc' e => by
            rw [ps_inj v ho' hoa (e.trans hps.symm), hc] at hc'
            cases hc')) q1 mf1
          refine r_iload_n 81 d_75_80 rfl rfl ?_
          refine r_sipush 84 (nI 192) d_75_81 rfl (by decide) ?_
          refine r_icmp_ge 133 87 d_75_84 (by decide) rfl (fun c_84 => absurd c_84 (nI_ge hw192 (by decide))) (fun c_84 => ?_)
          refine r_aload_n 88 d_75_87 rfl rfl ?_
          refine r_getR 91 3 6 6 (some 6) d_75_88 rfl fk_3_28 rfl (by decide) (MT.f6 m1.mt) ?_
          refine r_iload_n 92 d_75_91 rfl rfl ?_
          refine r_iald 93 w (nI (sg o)) d_75_92 rfl rfl (MT.l6_6 m1.mt hw192) hat ?_
          refine r_if_lt 127 96 d_75_93 (by decide) rfl (fun c_93 => absurd c_93 (nI_pos (by omega))) (fun c_93 => ?_)
          refine r_aload_n 97 d_75_96 rfl rfl ?_
          refine r_getR 100 3 13 7 (some 0) d_75_97 rfl fk_3_50 rfl (by decide) (MT.f13 m1.mt) ?_
          refine r_iload_n 101 d_75_100 rfl rfl ?_
          refine r_bipush 103 (nI 16) d_75_101 rfl (by decide) ?_
          refine r_idiv 104 (nI (hm S o)) d_75_103 rfl (by decide) ((pk_div (by omega) (by decide) (by decide)).trans (by rw [hdv])) ?_
          refine r_bald 105 (hm S o) (bI false) d_75_104 rfl rfl (MT.l7_0 m1.mt hr12) hcv ?_
          refine r_if_eq 127 108 d_75_105 (by decide) rfl (fun c_105 => ?_) (fun c_105 => absurd rfl c_105)
          refine r_iinc 130 (nI (w + 1)) [rv 3 (some 0), un, iv (nI (w + 1)), un] d_75_127 rfl rfl (nI_1 w) rfl rfl ?_
          refine r_goto 80 d_75_130 (by decide) ?_
          exact z
        | true =>
          have hcv : hI h1 7 0 (hm S o) = bI true := (q1.co hr12).trans (by rw [hc])
          have mN : RX (sI (sI h1 6 4 (sg o) (-1)) 6 6 w (-1)) S (flS S (cw S col (w + 1))) sg := by
            refine RX_del m1 (XH_sI (XH_sI (XH.rf _) (by decide)) (by decide)) hof (fun j => ?_) (fun j => ?_) (fun x => ?_) (fun y hy e => ?_) (fun y => ?_) (fun r _ => ⟨rfl, rfl, rfl⟩) ⟨rfl, rfl, rfl⟩ ⟨rfl, rfl⟩
            · rw [w6n (by decide), wA]
            · rw [w6n (by decide), w6n (by decide)]
            · rw [wA, w6n (by decide), show ps (flS S (cw S col w)) o = w from hps]
            · exact ps_inj v (fl_mem.mp hy).1 hoa e
            · rw [fl_mem, fl_mem]
              constructor
              · rintro ⟨a, c⟩
                have hyo : y ≠ o := fun z => by
                  subst z
                  unfold cw at c
                  rw [hc, decide_eq_true (show ps S y < w + 1 by omega)] at c
                  cases c
                refine ⟨⟨a, ?_⟩, hyo⟩
                rw [← cw_s (fun _ z => hyo (ps_inj v a hoa (z.trans hps.symm)))]
                exact c
              · rintro ⟨⟨a, c⟩, hyo⟩
                refine ⟨a, ?_⟩
                rw [cw_s (fun _ z => hyo (ps_inj v a hoa (z.trans hps.symm)))]
                exact c
          have z := ih (w + 1) _ (by omega) mN (RQ_w (RQ_w q1 (by decide)) (by decide)) (MF_sI (MF_sI mf1 rfl) rfl)
          refine r_iload_n 81 d_75_80 rfl rfl ?_
          refine r_sipush 84 (nI 192) d_75_81 rfl (by decide) ?_
          refine r_icmp_ge 133 87 d_75_84 (by decide) rfl (fun c_84 => absurd c_84 (nI_ge hw192 (by decide))) (fun c_84 => ?_)
          refine r_aload_n 88 d_75_87 rfl rfl ?_
          refine r_getR 91 3 6 6 (some 6) d_75_88 rfl fk_3_28 rfl (by decide) (MT.f6 m1.mt) ?_
          refine r_iload_n 92 d_75_91 rfl rfl ?_
          refine r_iald 93 w (nI (sg o)) d_75_92 rfl rfl (MT.l6_6 m1.mt hw192) hat ?_
          refine r_if_lt 127 96 d_75_93 (by decide) rfl (fun c_93 => absurd c_93 (nI_pos (by omega))) (fun c_93 => ?_)
          refine r_aload_n 97 d_75_96 rfl rfl ?_
          refine r_getR 100 3 13 7 (some 0) d_75_97 rfl fk_3_50 rfl (by decide) (MT.f13 m1.mt) ?_
          refine r_iload_n 101 d_75_100 rfl rfl ?_
          refine r_bipush 103 (nI 16) d_75_101 rfl (by decide) ?_
          refine r_idiv 104 (nI (hm S o)) d_75_103 rfl (by decide) ((pk_div (by omega) (by decide) (by decide)).trans (by rw [hdv])) ?_
          refine r_bald 105 (hm S o) (bI true) d_75_104 rfl rfl (MT.l7_0 m1.mt hr12) hcv ?_
          refine r_if_eq 127 108 d_75_105 (by decide) rfl (fun c_105 => absurd c_105 bI_t0) (fun c_105 => ?_)
          refine r_aload_n 109 d_75_108 rfl rfl ?_
          refine r_getR 112 3 4 6 (some 4) d_75_109 rfl fk_3_22 rfl (by decide) (MT.f4 m1.mt) ?_
          refine r_aload_n 113 d_75_112 rfl rfl ?_
          refine r_getR 116 3 6 6 (some 6) d_75_113 rfl fk_3_28 rfl (by decide) (MT.f6 m1.mt) ?_
          refine r_iload_n 117 d_75_116 rfl rfl ?_
          refine r_iald 118 w (nI (sg o)) d_75_117 rfl rfl (MT.l6_6 m1.mt hw192) hat ?_
          refine r_iconst 119 (-1) d_75_118 rfl (by decide) ?_
          refine r_iast 120 (sg o) d_75_119 rfl rfl (MT.l6_4 m1.mt hso) ?_
          refine r_aload_n 121 d_75_120 rfl rfl ?_
          refine r_getR 124 3 6 6 (some 6) d_75_121 rfl fk_3_28 rfl (by decide) (MT.f6 (MT_sI m1.mt rfl)) ?_
          refine r_iload_n 125 d_75_124 rfl rfl ?_
          refine r_iconst 126 (-1) d_75_125 rfl (by decide) ?_
          refine r_iast 127 w d_75_126 rfl rfl (MT.l6_6 (MT_sI m1.mt rfl) hw192) ?_
          refine r_iinc 130 (nI (w + 1)) [rv 3 (some 0), un, iv (nI (w + 1)), un] d_75_127 rfl rfl (nI_1 w) rfl rfl ?_
          refine r_goto 80 d_75_130 (by decide) ?_
          exact z
  refine TT.forget 1 (ls' := [rv 3 (some 0), un, u2, u3]) rfl ?_
  refine TT.forget 2 (ls' := [rv 3 (some 0), un, un, u3]) rfl ?_
  refine TT.forget 3 (ls' := [rv 3 (some 0), un, un, un]) rfl ?_
  have z := words 192 0 h0 rfl (RX_mem m (fun o => by
    rw [fl_mem]
    unfold cw
    rw [decide_eq_false (Nat.not_lt_zero _), Bool.and_false]
    exact ⟨fun z => z.1, fun z => ⟨z, rfl⟩⟩) (fun y hy => ⟨rfl, rfl, rfl⟩) ⟨rfl, rfl, rfl⟩ ⟨rfl, rfl⟩) q mf
  refine r_iconst 79 (nI 0) d_75_78 rfl (by decide) ?_
  refine r_istore_n 80 [rv 3 (some 0), un, iv (nI 0), un] d_75_79 rfl rfl rfl ?_
  exact z
theorem m_collection {h : AH} {S : SS} {sg : Nat → Nat} (m : RM h S sg) (v : IV S) {bu : Nat} (hbu : bu < 2 ^ 31) : TT 75 0 [rv 3 (some 0), iv (nI bu), un, un] [] h 0 0 (fun x h' => x = some (iv (collA S bu)) ∧ RM h' (coll S bu) sg ∧ MF h h') := by
  have b := v.bd
  have sm : SMc S (colB S bu) := v.sm bu
  have traced : ∀ h1, XF h h1 → RQ h1 S (colB S bu) (plan S (colB S bu)) sg → PI S (colB S bu) (plan S (colB S bu)) → TT 75 63 [rv 3 (some 0), iv (nI bu), iv (nI 12), un] [] h1 0 0 (fun x h' => x = some (iv (collA S bu)) ∧ RM h' (coll S bu) sg ∧ MF h h') := by
    intro h1 xf q pi
    have m1 := RX_XF m xf
    cases hp : po (plan S (colB S bu)) with
    | true =>
      have e1 : coll S bu = cpS S (colB S bu) (plan S (colB S bu)) := if_pos hp
      have e2 : collA S bu = nI (pf (plan S (colB S bu))).length := if_pos hp
      rw [e1, e2]
      have hla : hI h1 3 0 22 = bI false := q.la.trans (by rw [hp]; rfl)
      have z := m_carry (h := h) (u1 := iv (nI bu)) (u2 := iv (nI 12)) (u3 := un) v sm (fun r _ hr => colF_kd hr) pi m1 q xf.1.1
      refine r_aload_n 64 d_75_63 rfl rfl ?_
      refine r_getI 67 3 22 (bI false) d_75_64 rfl fk_3_96 rfl hla ?_
      refine r_if_eq 78 70 d_75_67 (by decide) rfl (fun c_67 => ?_) (fun c_67 => absurd rfl c_67)
      exact z
    | false =>
      have hn : ¬ po (plan S (colB S bu)) = true := by rw [hp]; exact Bool.false_ne_true
      have e1 : coll S bu = ful S := if_neg hn
      have e2 : collA S bu = -2 := if_neg hn
      rw [e1, e2]
      have hla : hI h1 3 0 22 = bI true := q.la.trans (by rw [hp]; rfl)
      refine r_aload_n 64 d_75_63 rfl rfl ?_
      refine r_getI 67 3 22 (bI true) d_75_64 rfl fk_3_96 rfl hla ?_
      refine r_if_eq 78 70 d_75_67 (by decide) rfl (fun c_67 => absurd c_67 bI_t0) (fun c_67 => ?_)
      refine r_aload_n 71 d_75_70 rfl rfl ?_
      refine r_callV (k1 := 0) (n1 := 0) (k := 0) (n := 0) 74 76 3 [] d_75_71 rfl mk_76 lk_3_112 mv_76 rfl rfl rfl rfl rfl _ (m_fullC m1 v) ?_
      intro r_71 h_71 q_71
      obtain ⟨fl, rl, q1x, q2x, q3x⟩ := q_71
      subst q1x
      show TT 75 74 [rv 3 (some 0), iv (nI bu), iv (nI 12), un] [iv (nI fl.length)] h_71 _ _ _
      refine r_istore_n 75 [rv 3 (some 0), iv (nI bu), iv (nI fl.length), un] d_75_74 rfl rfl rfl ?_
      refine r_bipush 77 (-2) d_75_75 rfl (by decide) ?_
      refine r_ireturn d_75_77 rfl ?_
      exact ⟨rfl, by rw [← (ful_of rl).1]; exact q2x, xf.1.1.tr q3x⟩
  have gath : ∀ n r h1, r + n = 12 → XF h h1 → (∀ q, q < 12 → hI h1 7 3 q = bI (chF S bu q)) → (∀ q, q < r → hI h1 7 0 q = bI (colB S bu q)) → TT 75 7 [rv 3 (some 0), iv (nI bu), iv (nI r), un] [] h1 0 0 (fun x h' => x = some (iv (collA S bu)) ∧ RM h' (coll S bu) sg ∧ MF h h') := by
    intro n
    induction n with
    | zero =>
      intro r h1 hr xf hc hg
      obtain rfl : r = 12 := by omega
      have m1 := RX_XF m xf
      refine r_iload_n 8 d_75_7 rfl rfl ?_
      refine r_bipush 10 (nI 12) d_75_8 rfl (by decide) ?_
      refine r_icmp_ge 59 13 d_75_10 (by decide) rfl (fun c_10 => ?_) (fun c_10 => absurd (nI_le (Nat.le_refl _) (by decide)) c_10)
      refine r_aload_n 60 d_75_59 rfl rfl ?_
      refine r_callV (k1 := 0) (n1 := 0) (k := 0) (n := 0) 63 74 3 [] d_75_60 rfl mk_74 lk_3_109 mv_74 rfl rfl rfl rfl rfl _ (m_trace m1 v sm hg) ?_
      intro r_60 h_60 q_60
      obtain ⟨q1x, q2x, q3x, q4x⟩ := q_60
      subst q1x
      show TT 75 63 [rv 3 (some 0), iv (nI bu), iv (nI 12), un] [] h_60 _ _ _
      exact traced h_60 (xf.tr q2x) q3x q4x
    | succ n ih =>
      intro r h1 hr xf hc hg
      have hr12 : r < 12 := by omega
      have m1 := RX_XF m xf
      have hk5 := b.kd hr12
      have fin : ∀ c : Bool, colB S bu r = c → TT 75 7 [rv 3 (some 0), iv (nI bu), iv (nI (r + 1)), un] [] (sI h1 7 0 r (bI c)) 0 0 (fun x h' => x = some (iv (collA S bu)) ∧ RM h' (coll S bu) sg ∧ MF h h') := by
        intro c e
        refine ih (r + 1) _ (by omega) (XF_sI xf rfl) (fun q hq => (w7n (by decide)).trans (hc q hq)) (fun q hq => ?_)
        rw [wA]
        by_cases eq : q = r
        · rw [if_pos eq, eq, e]
        · rw [if_neg eq]; exact hg q (by omega)
      have cv1 : nI (kd S r) = nI 1 → colB S bu r = true := fun z => by
        have := (nI_eq (by omega) (by decide)).mp z
        unfold colB colF isk
        rw [this]; rfl
      have cv2 : nI (kd S r) = nI 2 → colB S bu r = true := fun z => by
        have := (nI_eq (by omega) (by decide)).mp z
        unfold colB colF isk
        rw [this]; rfl
      have cv3 : ¬ bI (chF S bu r) = 0 → colB S bu r = true := fun z => by
        unfold colB colF
        rw [bI_1 z, Bool.or_true]
      have cv4 : ¬ nI (kd S r) = nI 1 → ¬ nI (kd S r) = nI 2 → bI (chF S bu r) = 0 → colB S bu r = false := fun z1 z2 z3 => by
        unfold colB colF isk
        rw [bI_0 z3, decide_eq_false (fun z => z1 (by rw [z])), decide_eq_false (fun z => z2 (by rw [z]))]
        rfl
      refine r_iload_n 8 d_75_7 rfl rfl ?_
      refine r_bipush 10 (nI 12) d_75_8 rfl (by decide) ?_
      refine r_icmp_ge 59 13 d_75_10 (by decide) rfl (fun c_10 => absurd c_10 (nI_ge hr12 (by decide))) (fun c_10 => ?_)
      refine r_aload_n 14 d_75_13 rfl rfl ?_
      refine r_getR 17 3 13 7 (some 0) d_75_14 rfl fk_3_50 rfl (by decide) (MT.f13 m1.mt) ?_
      refine r_iload_n 18 d_75_17 rfl rfl ?_
      refine r_aload_n 19 d_75_18 rfl rfl ?_
      refine r_getR 22 3 8 6 (some 8) d_75_19 rfl fk_3_34 rfl (by decide) (MT.f8 m1.mt) ?_
      refine r_iload_n 23 d_75_22 rfl rfl ?_
      refine r_iald 24 r (nI (kd S r)) d_75_23 rfl rfl (MT.l6_8 m1.mt hr12) (m1.kd hr12) ?_
      refine r_iconst 25 (nI 1) d_75_24 rfl (by decide) ?_
      refine r_icmp_eq 47 28 d_75_25 (by decide) rfl (fun c_25 => ?_) (fun c_25 => ?_)
      · skip
        refine r_iconst 48 (nI 1) d_75_47 rfl (by decide) ?_
        refine r_goto 52 d_75_48 (by decide) ?_
        refine r_bast 53 r d_75_52 rfl rfl (MT.l7_0 m1.mt hr12) rfl ?_
        refine r_iinc 56 (nI (r + 1)) [rv 3 (some 0), iv (nI bu), iv (nI (r + 1)), un] d_75_53 rfl rfl (nI_1 r) rfl rfl ?_
        refine r_goto 7 d_75_56 (by decide) ?_
        first
        | exact fin true (cv1 c_25)
        | exact fin true (cv2 c_35)
        | exact fin true (cv3 c_44)
        | exact fin false (cv4 c_25 c_35 c_44)
      · skip
        refine r_aload_n 29 d_75_28 rfl rfl ?_
        refine r_getR 32 3 8 6 (some 8) d_75_29 rfl fk_3_34 rfl (by decide) (MT.f8 m1.mt) ?_
        refine r_iload_n 33 d_75_32 rfl rfl ?_
        refine r_iald 34 r (nI (kd S r)) d_75_33 rfl rfl (MT.l6_8 m1.mt hr12) (m1.kd hr12) ?_
        refine r_iconst 35 (nI 2) d_75_34 rfl (by decide) ?_
        refine r_icmp_eq 47 38 d_75_35 (by decide) rfl (fun c_35 => ?_) (fun c_35 => ?_)
        · skip
          refine r_iconst 48 (nI 1) d_75_47 rfl (by decide) ?_
          refine r_goto 52 d_75_48 (by decide) ?_
          refine r_bast 53 r d_75_52 rfl rfl (MT.l7_0 m1.mt hr12) rfl ?_
          refine r_iinc 56 (nI (r + 1)) [rv 3 (some 0), iv (nI bu), iv (nI (r + 1)), un] d_75_53 rfl rfl (nI_1 r) rfl rfl ?_
          refine r_goto 7 d_75_56 (by decide) ?_
          first
          | exact fin true (cv1 c_25)
          | exact fin true (cv2 c_35)
          | exact fin true (cv3 c_44)
          | exact fin false (cv4 c_25 c_35 c_44)
        · skip
          refine r_aload_n 39 d_75_38 rfl rfl ?_
          refine r_getR 42 3 24 7 (some 3) d_75_39 rfl fk_3_78 rfl (by decide) (MT.f24 m1.mt) ?_
          refine r_iload_n 43 d_75_42 rfl rfl ?_
          refine r_bald 44 r (bI (chF S bu r)) d_75_43 rfl rfl (MT.l7_3 m1.mt hr12) (hc r hr12) ?_
          refine r_if_eq 51 47 d_75_44 (by decide) rfl (fun c_44 => ?_) (fun c_44 => ?_)
          · skip
            refine r_iconst 52 (nI 0) d_75_51 rfl (by decide) ?_
            refine r_bast 53 r d_75_52 rfl rfl (MT.l7_0 m1.mt hr12) rfl ?_
            refine r_iinc 56 (nI (r + 1)) [rv 3 (some 0), iv (nI bu), iv (nI (r + 1)), un] d_75_53 rfl rfl (nI_1 r) rfl rfl ?_
            refine r_goto 7 d_75_56 (by decide) ?_
            first
            | exact fin true (cv1 c_25)
            | exact fin true (cv2 c_35)
            | exact fin true (cv3 c_44)
            | exact fin false (cv4 c_25 c_35 c_44)
          · skip
            refine r_iconst 48 (nI 1) d_75_47 rfl (by decide) ?_
            refine r_goto 52 d_75_48 (by decide) ?_
            refine r_bast 53 r d_75_52 rfl rfl (MT.l7_0 m1.mt hr12) rfl ?_
            refine r_iinc 56 (nI (r + 1)) [rv 3 (some 0), iv (nI bu), iv (nI (r + 1)), un] d_75_53 rfl rfl (nI_1 r) rfl rfl ?_
            refine r_goto 7 d_75_56 (by decide) ?_
            first
            | exact fin true (cv1 c_25)
            | exact fin true (cv2 c_35)
            | exact fin true (cv3 c_44)
            | exact fin false (cv4 c_25 c_35 c_44)
  refine r_aload_n 1 d_75_0 rfl rfl ?_
  refine r_iload_n 2 d_75_1 rfl rfl ?_
  refine r_callV (k1 := 0) (n1 := 0) (k := 0) (n := 0) 5 69 3 [iv (nI bu)] d_75_2 rfl mk_69 lk_3_92 mv_69 rfl rfl rfl rfl rfl _ (m_choose m v hbu) ?_
  intro r_2 h_2 q_2
  obtain ⟨q1x, q2x, q3x⟩ := q_2
  subst q1x
  show TT 75 5 [rv 3 (some 0), iv (nI bu), un, un] [] h_2 _ _ _
  refine r_iconst 6 (nI 0) d_75_5 rfl (by decide) ?_
  refine r_istore_n 7 [rv 3 (some 0), iv (nI bu), iv (nI 0), un] d_75_6 rfl rfl rfl ?_
  exact gath 12 0 h_2 rfl q2x q3x (fun q hq => absurd hq (Nat.not_lt_zero q))
