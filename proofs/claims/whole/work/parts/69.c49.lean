/-! contracts of the reference: a full collection -/
def sml (S : SS) (o : Nat) : Bool := !big (kd S (hm S o))
theorem fm_cg {f g : Nat → List Nat} : ∀ n, (∀ r, r < n → f r = g r) → (List.range n).flatMap f = (List.range n).flatMap g
  | 0, _ => rfl
  | n + 1, h => by
    rw [List.range_succ, List.flatMap_append, List.flatMap_append, fm_cg n (fun r hr => h r (by omega))]
    simp [h n (by omega)]
theorem tuL_all {S : SS} (v : IV S) (fl : List Nat) : tuL S fl 12 = ((all S).filter (rin fl)).filter (sml S) := by
  rw [tuL_flat]
  unfold all
  rw [List.filter_flatMap, List.filter_flatMap]
  refine fm_cg 12 (fun r hr => ?_)
  unfold ckF
  cases hb : big (kd S r) with
  | true =>
    rw [if_pos rfl]
    symm
    rw [List.filter_eq_nil_iff]
    intro o ho
    unfold sml
    rw [v.2.1.hm hr (List.mem_filter.mp ho).1, hb]
    simp
  | false =>
    rw [if_neg Bool.false_ne_true]
    symm
    rw [List.filter_eq_self]
    intro o ho
    unfold sml
    rw [v.2.1.hm hr (List.mem_filter.mp ho).1, hb]
    rfl
theorem rl_len {S : SS} (v : IV S) {fl : List Nat} (rl : RL S fl) : ((all S).filter (rin fl)).length = fl.length := by
  apply Nat.le_antisymm
  · refine nodup_len _ _ (v.cl.2.2.1.filter _) (fun x hx => rin_t (List.mem_filter.mp hx).2)
  · refine nodup_len _ _ rl.1 (fun x hx => List.mem_filter.mpr ⟨rl.2.1 x hx, decide_eq_true hx⟩)
/-- what still lies in its place when words below w are through -/
def pB (S : SS) (fl : List Nat) (w o : Nat) : Bool := rin fl o && (big (kd S (hm S o)) || decide (w ≤ ps S o))
theorem pB_s {S : SS} {fl : List Nat} {w o : Nat} (h : rin fl o = true → big (kd S (hm S o)) = false → ps S o ≠ w) : pB S fl (w + 1) o = pB S fl w o := by
  unfold pB
  cases hr : rin fl o with
  | false => rfl
  | true =>
    rw [Bool.true_and, Bool.true_and]
    cases hb : big (kd S (hm S o)) with
    | true => rfl
    | false =>
      have := h hr hb
      rw [Bool.false_or, Bool.false_or]
      exact decide_eq_decide.mpr (by omega)
theorem m_fullC {h : AH} {S : SS} {sg : Nat → Nat} (m : RM h S sg) (v : IV S) : TT 76 0 [rv 3 (some 0), un, un, un, un] [] h 0 0 (fun x h' => ∃ fl, RL S fl ∧ x = some (iv (nI fl.length)) ∧ RM h' (fulS S fl) sg ∧ MF h h') := by
  have b := v.bd
  -- the regions are released
  have relp : ∀ fl, RL S fl → ∀ n r h1, r + n = 12 → RXG h1 S (RS (flS S (pB S fl 192)) (fun y => dead S fl sg 97 y || (decide (y < r) && !big (kd S y)))) (tuL S fl 12) sg → MQu h1 sg (tuL S fl 12) → MF h h1 → TT 76 128 [rv 3 (some 0), iv (nI fl.length), iv (nI r), un, un] [] h1 0 0 (fun x h' => ∃ fl, RL S fl ∧ x = some (iv (nI fl.length)) ∧ RM h' (fulS S fl) sg ∧ MF h h') := by
    intro fl rl n
    induction n with
    | zero =>
      intro r h1 hr m1 q1 mf1
      obtain rfl : r = 12 := by omega
      have hd : ∀ y, y < 12 → (dead S fl sg 97 y || (decide (y < 12) && !big (kd S y))) = gone S fl 12 y := by
        intro y hy
        unfold dead gone
        rw [decide_eq_true hy, Bool.true_and, Bool.true_and]
        cases hb : big (kd S y) with
        | false => rfl
        | true =>
          have ho := (own_mem v y hy hb).1
          rw [stay_own v fl y hy hb, decide_eq_true (m.lt ho)]
          simp
      have m2 : RXG h1 S (tuS S fl 12) (tuL S fl 12) sg := by
        refine RX_mem m1 (fun o => ?_) (fun y hy => ?_) ⟨rfl, rfl, rfl⟩ ⟨rfl, rfl⟩
        · rw [tu_mem v]
          show _ ↔ o ∈ all (flS S (pB S fl 192))
          rw [fl_mem]
          constructor
          · rintro ⟨a, c, d⟩
            exact ⟨a, by unfold pB; rw [d, show rin fl o = true from decide_eq_true c]; rfl⟩
          · rintro ⟨a, c⟩
            unfold pB at c
            rw [Bool.and_eq_true, Bool.or_eq_true] at c
            refine ⟨a, rin_t c.1, c.2.resolve_right (fun z => ?_)⟩
            have := of_decide_eq_true z
            have := so_lt v a
            have := hm_lt v.cl a
            unfold ps at *
            omega
        · show (if gone S fl 12 y = true then 0 else kd S y) = (if (dead S fl sg 97 y || (decide (y < 12) && !big (kd S y))) = true then 0 else kd S y) ∧ (if gone S fl 12 y = true then 0 else us S y) = (if (dead S fl sg 97 y || (decide (y < 12) && !big (kd S y))) = true then 0 else us S y) ∧ (if gone S fl 12 y = true then none else lw S y) = (if (dead S fl sg 97 y || (decide (y < 12) && !big (kd S y))) = true then none else lw S y)
          rw [hd y hy]
          exact ⟨rfl, rfl, rfl⟩
      have z := m_pack (h := h) v rl h1 m2 q1 mf1
      refine r_iload_n 129 d_76_128 rfl rfl ?_
      refine r_bipush 131 (nI 12) d_76_129 rfl (by decide) ?_
      refine r_icmp_ge 155 134 d_76_131 (by decide) rfl (fun c_131 => ?_) (fun c_131 => absurd (nI_le (Nat.le_refl _) (by decide)) c_131)
      refine TT.forget 2 (ls' := [rv 3 (some 0), iv (nI fl.length), un, un, un]) rfl ?_
      exact z
    | succ n ih =>
      intro r h1 hr m1 q1 mf1
      have hr12 : r < 12 := by omega
      have hk5 := b.kd hr12
      have hkr : hI h1 6 8 r = nI (if dead S fl sg 97 r = true then 0 else kd S r) := by
        rw [m1.kd hr12]
        show nI (if (dead S fl sg 97 r || (decide (r < r) && !big (kd S r))) = true then 0 else kd S r) = _
        rw [decide_eq_false (Nat.lt_irrefl r), Bool.false_and, Bool.or_false]
      generalize hK : (if dead S fl sg 97 r = true then 0 else kd S r) = K at hkr
      have hK5 : K ≤ 5 := by rw [← hK]; split <;> omega
      refine r_iload_n 129 d_76_128 rfl rfl ?_
      refine r_bipush 131 (nI 12) d_76_129 rfl (by decide) ?_
      refine r_icmp_ge 155 134 d_76_131 (by decide) rfl (fun c_131 => absurd c_131 (nI_ge hr12 (by decide))) (fun c_131 => ?_)
      refine r_aload_n 135 d_76_134 rfl rfl ?_
      refine r_getR 138 3 8 6 (some 8) d_76_135 rfl fk_3_34 rfl (by decide) (MT.f8 m1.mt) ?_
      refine r_iload_n 139 d_76_138 rfl rfl ?_
      refine r_iald 140 r (nI K) d_76_139 rfl rfl (MT.l6_8 m1.mt hr12) hkr ?_
      refine r_iconst 141 (nI 4) d_76_140 rfl (by decide) ?_
      refine r_icmp_ge 149 144 d_76_141 (by decide) rfl (fun c_141 => ?_) (fun c_141 => ?_)
      · skip
        refine r_iinc 152 (nI (r + 1)) [rv 3 (some 0), iv (nI fl.length), iv (nI (r + 1)), un, un] d_76_149 rfl rfl (nI_1 r) rfl rfl ?_
        refine r_goto 128 d_76_152 (by decide) ?_
        first
        | (have h4 : 4 ≤ K := (nI_leI (by decide) (by omega)).mp c_141
           have hb : big (kd S r) = true := (big_4 hk5).mpr (by rw [← hK] at h4; split at h4 <;> omega)
           refine ih (r + 1) h1 (by omega) ?_ q1 mf1
           refine RX_mem m1 (fun _ => Iff.rfl) (fun y hy => ?_) ⟨rfl, rfl, rfl⟩ ⟨rfl, rfl⟩
           have e : (dead S fl sg 97 y || (decide (y < r + 1) && !big (kd S y))) = (dead S fl sg 97 y || (decide (y < r) && !big (kd S y))) := by
             by_cases ey : y = r
             · subst ey; rw [hb]; simp
             · rw [show decide (y < r + 1) = decide (y < r) from decide_eq_decide.mpr (by omega)]
           show (if (dead S fl sg 97 y || (decide (y < r + 1) && !big (kd S y))) = true then 0 else kd S y) = (if (dead S fl sg 97 y || (decide (y < r) && !big (kd S y))) = true then 0 else kd S y) ∧ (if (dead S fl sg 97 y || (decide (y < r + 1) && !big (kd S y))) = true then 0 else us S y) = (if (dead S fl sg 97 y || (decide (y < r) && !big (kd S y))) = true then 0 else us S y) ∧ (if (dead S fl sg 97 y || (decide (y < r + 1) && !big (kd S y))) = true then none else lw S y) = (if (dead S fl sg 97 y || (decide (y < r) && !big (kd S y))) = true then none else lw S y)
           rw [e]
           exact ⟨rfl, rfl, rfl⟩)
        | (have h4 : ¬ 4 ≤ K := fun z => c_141 ((nI_leI (by decide) (by omega)).mpr z)
           refine ih (r + 1) (relH h1 r) (by omega) (rx_rel m1 (x := r) (fun y hy => ?_)) (MQ_f q1 (by unfold relH; rw [wS (by decide), wS (by decide), wS (by decide)]) (fun k => by unfold relH; rw [w6n (by decide), w6n (by decide), w6n (by decide)])) (mf1.tr (xg_rel (XG.rf h1) r).1)
           by_cases ey : y = r
           · subst ey
             rw [decide_eq_true rfl, Bool.or_true, decide_eq_true (Nat.lt_succ_self y), Bool.true_and]
             cases hd : dead S fl sg 97 y with
             | true => rfl
             | false =>
               rw [hd, if_neg Bool.false_ne_true] at hK
               have hb : big (kd S y) = false := Bool.eq_false_iff.mpr (fun z => h4 (by rw [← hK]; exact (big_4 hk5).mp z))
               rw [hb]; rfl
           · rw [decide_eq_false ey, Bool.or_false, show decide (y < r + 1) = decide (y < r) from decide_eq_decide.mpr (by omega)])
      · skip
        refine r_aload_n 145 d_76_144 rfl rfl ?_
        refine r_iload_n 146 d_76_145 rfl rfl ?_
        refine r_callV (k1 := 0) (n1 := 0) (k := 0) (n := 0) 149 66 3 [iv (nI r)] d_76_146 rfl mk_66 lk_3_116 mv_66 rfl rfl rfl rfl rfl _ (m_release m1.mt hr12) ?_
        intro r_146 h_146 q_146
        obtain ⟨q1x, q2x⟩ := q_146
        subst q2x
        rw [q1x]
        show TT 76 149 [rv 3 (some 0), iv (nI fl.length), iv (nI r), un, un] [] (relH h1 r) _ _ _
        refine r_iinc 152 (nI (r + 1)) [rv 3 (some 0), iv (nI fl.length), iv (nI (r + 1)), un, un] d_76_149 rfl rfl (nI_1 r) rfl rfl ?_
        refine r_goto 128 d_76_152 (by decide) ?_
        first
        | (have h4 : 4 ≤ K := (nI_leI (by decide) (by omega)).mp c_141
           have hb : big (kd S r) = true := (big_4 hk5).mpr (by rw [← hK] at h4; split at h4 <;> omega)
           refine ih (r + 1) h1 (by omega) ?_ q1 mf1
           refine RX_mem m1 (fun _ => Iff.rfl) (fun y hy => ?_) ⟨rfl, rfl, rfl⟩ ⟨rfl, rfl⟩
           have e : (dead S fl sg 97 y || (decide (y < r + 1) && !big (kd S y))) = (dead S fl sg 97 y || (decide (y < r) && !big (kd S y))) := by
             by_cases ey : y = r
             · subst ey; rw [hb]; simp
             · rw [show decide (y < r + 1) = decide (y < r) from decide_eq_decide.mpr (by omega)]
           show (if (dead S fl sg 97 y || (decide (y < r + 1) && !big (kd S y))) = true then 0 else kd S y) = (if (dead S fl sg 97 y || (decide (y < r) && !big (kd S y))) = true then 0 else kd S y) ∧ (if (dead S fl sg 97 y || (decide (y < r + 1) && !big (kd S y))) = true then 0 else us S y) = (if (dead S fl sg 97 y || (decide (y < r) && !big (kd S y))) = true then 0 else us S y) ∧ (if (dead S fl sg 97 y || (decide (y < r + 1) && !big (kd S y))) = true then none else lw S y) = (if (dead S fl sg 97 y || (decide (y < r) && !big (kd S y))) = true then none else lw S y)
           rw [e]
           exact ⟨rfl, rfl, rfl⟩)
        | (have h4 : ¬ 4 ≤ K := fun z => c_141 ((nI_leI (by decide) (by omega)).mpr z)
           refine ih (r + 1) (relH h1 r) (by omega) (rx_rel m1 (x := r) (fun y hy => ?_)) (MQ_f q1 (by unfold relH; rw [wS (by decide), wS (by decide), wS (by decide)]) (fun k => by unfold relH; rw [w6n (by decide), w6n (by decide), w6n (by decide)])) (mf1.tr (xg_rel (XG.rf h1) r).1)
           by_cases ey : y = r
           · subst ey
             rw [decide_eq_true rfl, Bool.or_true, decide_eq_true (Nat.lt_succ_self y), Bool.true_and]
             cases hd : dead S fl sg 97 y with
             | true => rfl
             | false =>
               rw [hd, if_neg Bool.false_ne_true] at hK
               have hb : big (kd S y) = false := Bool.eq_false_iff.mpr (fun z => h4 (by rw [← hK]; exact (big_4 hk5).mp z))
               rw [hb]; rfl
           · rw [decide_eq_false ey, Bool.or_false, show decide (y < r + 1) = decide (y < r) from decide_eq_decide.mpr (by omega)])
  -- the words
  have words : ∀ fl, RL S fl → ∀ n w gl c h1 u3, w + n = 192 → RXG h1 S (RS (flS S (pB S fl w)) (dead S fl sg 97)) gl sg → MQu h1 sg gl → gl ++ ((wl (atO S) n w).filter (rin fl)).filter (sml S) = tuL S fl 12 → c + ((wl (atO S) n w).filter (rin fl)).length = fl.length → MF h h1 → TT 76 50 [rv 3 (some 0), iv (nI c), iv (nI w), u3, un] [] h1 0 0 (fun x h' => ∃ fl, RL S fl ∧ x = some (iv (nI fl.length)) ∧ RM h' (fulS S fl) sg ∧ MF h h') := by
    intro fl rl n
    induction n with
    | zero =>
      intro w gl c h1 u3 hw m1 q1 hg hc mf1
      obtain rfl : w = 192 := by omega
      have hg : gl = tuL S fl 12 := by simpa [wl] using hg
      have hc : c = fl.length := by simpa [wl] using hc
      subst hg
      subst hc
      refine TT.forget 3 (ls' := [rv 3 (some 0), iv (nI fl.length), iv (nI 192), un, un]) rfl ?_
      have z := relp fl rl 12 0 h1 rfl (RX_mem m1 (fun _ => Iff.rfl) (fun y hy => by
        show (if (dead S fl sg 97 y || (decide (y < 0) && !big (kd S y))) = true then 0 else kd S y) = (if dead S fl sg 97 y = true then 0 else kd S y) ∧ (if (dead S fl sg 97 y || (decide (y < 0) && !big (kd S y))) = true then 0 else us S y) = (if dead S fl sg 97 y = true then 0 else us S y) ∧ (if (dead S fl sg 97 y || (decide (y < 0) && !big (kd S y))) = true then none else lw S y) = (if dead S fl sg 97 y = true then none else lw S y)
        rw [decide_eq_false (Nat.not_lt_zero y), Bool.false_and, Bool.or_false]
        exact ⟨rfl, rfl, rfl⟩) ⟨rfl, rfl, rfl⟩ ⟨rfl, rfl⟩) q1 mf1
      refine r_iload_n 51 d_76_50 rfl rfl ?_
      refine r_sipush 54 (nI 192) d_76_51 rfl (by decide) ?_
      refine r_icmp_ge 126 57 d_76_54 (by decide) rfl (fun c_54 => ?_) (fun c_54 => absurd (nI_le (Nat.le_refl _) (by decide)) c_54)
      refine r_iconst 127 (nI 0) d_76_126 rfl (by decide) ?_
      refine r_istore_n 128 [rv 3 (some 0), iv (nI fl.length), iv (nI 0), un, un] d_76_127 rfl rfl rfl ?_
      exact z
    | succ n ih =>
      intro w gl c h1 u3 hw m1 q1 hg hc mf1
      have hw192 : w < 192 := by omega
      refine TT.forget 3 (ls' := [rv 3 (some 0), iv (nI c), iv (nI w), un, un]) rfl ?_
      rw [wl, List.filter_append] at hg hc
      rw [List.filter_append] at hg
      have skip : (∀ o, o ∈ all S → rin fl o = true → big (kd S (hm S o)) = false → ps S o ≠ w) → RXG h1 S (RS (flS S (pB S fl (w + 1))) (dead S fl sg 97)) gl sg := by
        intro hno
        refine RX_mem m1 (fun o => ?_) (fun y hy => ⟨rfl, rfl, rfl⟩) ⟨rfl, rfl, rfl⟩ ⟨rfl, rfl⟩
        show o ∈ all (flS S (pB S fl (w + 1))) ↔ o ∈ all (flS S (pB S fl w))
        rw [fl_mem, fl_mem]
        exact ⟨fun z => ⟨z.1, by rw [← pB_s (hno o z.1)]; exact z.2⟩, fun z => ⟨z.1, by rw [pB_s (hno o z.1)]; exact z.2⟩⟩
      have none_ : (∀ o, o ∈ all S → rin fl o = true → ps S o ≠ w) → gl ++ ((wl (atO S) n (w + 1)).filter (rin fl)).filter (sml S) = tuL S fl 12 → c + ((wl (atO S) n (w + 1)).filter (rin fl)).length = fl.length → TT 76 50 [rv 3 (some 0), iv (nI c), iv (nI w), un, un] [] h1 0 0 (fun x h' => ∃ fl, RL S fl ∧ x = some (iv (nI fl.length)) ∧ RM h' (fulS S fl) sg ∧ MF h h') := by
        intro hno hg' hc'
        have hat : hI h1 6 6 w = -1 := m1.an hw192 (fun o ho => by
          have ho : o ∈ all (flS S (pB S fl w)) := ho
          rw [fl_mem] at ho
          have hr : rin fl o = true := by have := ho.2; unfold pB at this; rw [Bool.and_eq_true] at this; exact this.1
          exact hno o ho.1 hr)
        refine r_iload_n 51 d_76_50 rfl rfl ?_
        refine r_sipush 54 (nI 192) d_76_51 rfl (by decide) ?_
        refine r_icmp_ge 126 57 d_76_54 (by decide) rfl (fun c_54 => absurd c_54 (nI_ge hw192 (by decide))) (fun c_54 => ?_)
        refine r_aload_n 58 d_76_57 rfl rfl ?_
        refine r_getR 61 3 6 6 (some 6) d_76_58 rfl fk_3_28 rfl (by decide) (MT.f6 m1.mt) ?_
        refine r_iload_n 62 d_76_61 rfl rfl ?_
        refine r_iald 63 w (-1) d_76_62 rfl rfl (MT.l6_6 m1.mt hw192) hat ?_
        refine r_istore_n 64 [rv 3 (some 0), iv (nI c), iv (nI w), iv (-1), un] d_76_63 rfl rfl rfl ?_
        refine r_iload_n 65 d_76_64 rfl rfl ?_
        refine r_iload_n 66 d_76_65 rfl rfl ?_
        refine r_if_lt 73 69 d_76_66 (by decide) rfl (fun c_66 => ?_) (fun c_66 => absurd (by decide) c_66)
        refine r_iconst 74 (nI 0) d_76_73 rfl (by decide) ?_
        refine r_iadd 75 (nI c) d_76_74 rfl (nI_add c 0) ?_
        refine r_istore_n 76 [rv 3 (some 0), iv (nI c), iv (nI w), iv (-1), un] d_76_75 rfl rfl rfl ?_
        refine r_iload_n 77 d_76_76 rfl rfl ?_
        refine r_if_lt 120 80 d_76_77 (by decide) rfl (fun c_77 => ?_) (fun c_77 => absurd (by decide) c_77)
        refine r_iinc 123 (nI (w + 1)) [rv 3 (some 0), iv (nI c), iv (nI (w + 1)), iv (-1), un] d_76_120 rfl rfl (nI_1 w) rfl rfl ?_
        refine r_goto 50 d_76_123 (by decide) ?_
        exact ih (w + 1) gl c h1 _ (by omega) (skip (fun o a b _ => hno o a b)) q1 hg' hc' mf1
      cases ea : atO S w with
      | none =>
        rw [ea] at hg hc
        exact none_ (fun o ho _ => atO_no ea o ho) hg hc
      | some o =>
        obtain ⟨hoa, hps⟩ := atO_mem ea
        rw [ea] at hg hc
        cases hri : rin fl o with
        | false =>
          have e : List.filter (rin fl) (some o).toList = [] := by simp [hri]
          rw [e] at hg hc
          refine none_ (fun o' ho' hr' e' => ?_) hg hc
          have := ps_inj v ho' hoa (e'.trans hps.symm)
          rw [this, hri] at hr'
          cases hr'
        | true =>
          have e : List.filter (rin fl) (some o).toList = [o] := by simp [hri]
          rw [e] at hg hc
          have hs16 := so_lt v hoa
          have hr12 := hm_lt v.cl hoa
          have hso := m.lt hoa
          have hk5 := b.kd hr12
          have hdv : w / 16 = hm S o := by unfold ps at hps; omega
          have hof : o ∈ all (flS S (pB S fl w)) := fl_mem.mpr ⟨hoa, by unfold pB; rw [hri, decide_eq_true (by omega), Bool.or_true]; rfl⟩
          have hat : hI h1 6 6 w = nI (sg o) := by
            have := m1.at hof
            rw [show ps (RS (flS S (pB S fl w)) (dead S fl sg 97)) o = w from hps] at this
            exact this
          obtain ⟨i, hi, -, -⟩ := it_ix v hoa
          have hit := List.mem_of_getElem? hi
          have hne : itm S (hm S o) ≠ [] := fun y => by rw [y] at hit; cases hit
          have hk5' : kd S (hm S o) ≠ 5 := fun y => hne ((v.1 _ hr12).2.2.2.1 y).1
          have hkd : hI h1 6 8 (hm S o) = nI (kd S (hm S o)) := by
            rw [m1.kd hr12]
            show nI (if dead S fl sg 97 (hm S o) = true then 0 else kd S (hm S o)) = _
            rw [if_neg]
            unfold dead
            cases hb : big (kd S (hm S o)) with
            | false => simp
            | true =>
              have h4 : kd S (hm S o) = 4 := (big_iff.mp hb).resolve_right hk5'
              rw [(own_4 v hr12 h4 hit).1, hri]
              simp
          cases hb : big (kd S (hm S o)) with
          | true =>
            have h4 := (big_4 hk5).mp hb
            have e2 : List.filter (sml S) [o] = [] := by unfold sml; simp [hb]
            rw [e2] at hg
            refine r_iload_n 51 d_76_50 rfl rfl ?_
            refine r_sipush 54 (nI 192) d_76_51 rfl (by decide) ?_
            refine r_icmp_ge 126 57 d_76_54 (by decide) rfl (fun c_54 => absurd c_54 (nI_ge hw192 (by decide))) (fun c_54 => ?_)
            refine r_aload_n 58 d_76_57 rfl rfl ?_
            refine r_getR 61 3 6 6 (some 6) d_76_58 rfl fk_3_28 rfl (by decide) (MT.f6 m1.mt) ?_
            refine r_iload_n 62 d_76_61 rfl rfl ?_
            refine r_iald 63 w (nI (sg o)) d_76_62 rfl rfl (MT.l6_6 m1.mt hw192) hat ?_
            refine r_istore_n 64 [rv 3 (some 0), iv (nI c), iv (nI w), iv (nI (sg o)), un] d_76_63 rfl rfl rfl ?_
            refine r_iload_n 65 d_76_64 rfl rfl ?_
            refine r_iload_n 66 d_76_65 rfl rfl ?_
            refine r_if_lt 73 69 d_76_66 (by decide) rfl (fun c_66 => absurd c_66 (nI_pos (by omega))) (fun c_66 => ?_)
            refine r_iconst 70 (nI 1) d_76_69 rfl (by decide) ?_
            refine r_goto 74 d_76_70 (by decide) ?_
            refine r_iadd 75 (nI (c + 1)) d_76_74 rfl (nI_add c 1) ?_
            refine r_istore_n 76 [rv 3 (some 0), iv (nI (c + 1)), iv (nI w), iv (nI (sg o)), un] d_76_75 rfl rfl rfl ?_
            refine r_iload_n 77 d_76_76 rfl rfl ?_
            refine r_if_lt 120 80 d_76_77 (by decide) rfl (fun c_77 => absurd c_77 (nI_pos (by omega))) (fun c_77 => ?_)
            refine r_aload_n 81 d_76_80 rfl rfl ?_
            refine r_getR 84 3 8 6 (some 8) d_76_81 rfl fk_3_34 rfl (by decide) (MT.f8 m1.mt) ?_
            refine r_iload_n 85 d_76_84 rfl rfl ?_
            refine r_bipush 87 (nI 16) d_76_85 rfl (by decide) ?_
            refine r_idiv 88 (nI (hm S o)) d_76_87 rfl (by decide) ((pk_div (by omega) (by decide) (by decide)).trans (by rw [hdv])) ?_
            refine r_iald 89 (hm S o) (nI (kd S (hm S o))) d_76_88 rfl rfl (MT.l6_8 m1.mt hr12) hkd ?_
            refine r_iconst 90 (nI 4) d_76_89 rfl (by decide) ?_
            refine r_icmp_ge 120 93 d_76_90 (by decide) rfl (fun c_90 => ?_) (fun c_90 => absurd (nI_le h4 (by omega)) c_90)
            refine r_iinc 123 (nI (w + 1)) [rv 3 (some 0), iv (nI (c + 1)), iv (nI (w + 1)), iv (nI (sg o)), un] d_76_120 rfl rfl (nI_1 w) rfl rfl ?_
            refine r_goto 50 d_76_123 (by decide) ?_
            refine ih (w + 1) gl (c + 1) h1 _ (by omega) (skip (fun o' a b' c' e' => ?_)) q1 hg (by simp at hc; omega) mf1
            have := ps_inj v a hoa (e'.trans hps.symm)
            rw [this, hb] at c'
            cases c'
          | false =>
            have h4 : ¬ 4 ≤ kd S (hm S o) := fun z => by rw [(big_4 hk5).mpr z] at hb; cases hb
            have e2 : List.filter (sml S) [o] = [o] := by unfold sml; simp [hb]
            rw [e2] at hg
            have hlen : gl.length < 97 := by
              have h1 := congrArg List.length hg
              have h2 := tuL_len (fl := fl) b 12 (Nat.le_refl _)
              rw [List.length_append] at h1
              simp at h1
              omega
            have xf : XF h1 (sI (sI h1 6 13 gl.length (nI (sg o))) 3 0 15 (nI (gl.length + 1))) := XF_sI (XF_sI (XF.rf h1) rfl) rfl
            have m2 := RX_XF m1 xf
            have mN : RXG (sI (sI (sI h1 6 13 gl.length (nI (sg o))) 3 0 15 (nI (gl.length + 1))) 6 6 w (-1)) S (RS (flS S (pB S fl (w + 1))) (dead S fl sg 97)) (gl ++ [o]) sg := by
              refine RX_pend m2 (XH_sI (XH.rf _) (by decide)) hof (fun j => w6n (by decide)) (fun j => w6n (by decide)) (fun x => ?_) (fun y hy e' => ?_) (fun y => ?_) (fun r _ => ⟨rfl, rfl, rfl⟩) ⟨rfl, rfl, rfl⟩ ⟨rfl, rfl⟩ (fun y hy => by rw [List.mem_append, List.mem_singleton]; exact hy)
              · rw [wA, show ps (RS (flS S (pB S fl w)) (dead S fl sg 97)) o = w from hps]
              · have hy : y ∈ all (flS S (pB S fl w)) := hy
                exact ps_inj v (fl_mem.mp hy).1 hoa e'
              · show y ∈ all (flS S (pB S fl (w + 1))) ↔ y ∈ all (flS S (pB S fl w)) ∧ y ≠ o
                rw [fl_mem, fl_mem]
                constructor
                · rintro ⟨a, c'⟩
                  have hyo : y ≠ o := fun z => by
                    subst z
                    unfold pB at c'
                    rw [hb, decide_eq_false (by omega)] at c'
                    simp at c'
                  refine ⟨⟨a, ?_⟩, hyo⟩
                  rw [← pB_s (fun _ _ z => hyo (ps_inj v a hoa (z.trans hps.symm)))]
                  exact c'
                · rintro ⟨⟨a, c'⟩, hyo⟩
                  refine ⟨a, ?_⟩
                  rw [pB_s (fun _ _ z => hyo (ps_inj v a hoa (z.trans hps.symm)))]
                  exact c'
            have qN : MQu (sI (sI (sI h1 6 13 gl.length (nI (sg o))) 3 0 15 (nI (gl.length + 1))) 6 6 w (-1)) sg (gl ++ [o]) := by
              refine ⟨?_, fun j o' hj => ?_⟩
              · rw [wS (by decide), wA, if_pos rfl]; simp
              · rw [w6n (by decide), wS (by decide), wA]
                rw [List.getElem?_append] at hj
                split at hj
                · rename_i hlt
                  rw [if_neg (by omega)]
                  exact q1.2 j o' hj
                · by_cases ej : j = gl.length
                  · rw [if_pos ej]
                    rw [ej, Nat.sub_self] at hj
                    cases hj
                    rfl
                  · rw [List.getElem?_eq_none (by simp; omega)] at hj
                    cases hj
            have z := ih (w + 1) (gl ++ [o]) (c + 1) _ (iv (nI (sg o))) (by omega) mN qN (by rw [List.append_assoc]; exact hg) (by simp at hc ⊢; omega) (MF_sI (MF_sI (MF_sI mf1 rfl) rfl) rfl)
            refine r_iload_n 51 d_76_50 rfl rfl ?_
            refine r_sipush 54 (nI 192) d_76_51 rfl (by decide) ?_
            refine r_icmp_ge 126 57 d_76_54 (by decide) rfl (fun c_54 => absurd c_54 (nI_ge hw192 (by decide))) (fun c_54 => ?_)
            refine r_aload_n 58 d_76_57 rfl rfl ?_
            refine r_getR 61 3 6 6 (some 6) d_76_58 rfl fk_3_28 rfl (by decide) (MT.f6 m1.mt) ?_
            refine r_iload_n 62 d_76_61 rfl rfl ?_
            refine r_iald 63 w (nI (sg o)) d_76_62 rfl rfl (MT.l6_6 m1.mt hw192) hat ?_
            refine r_istore_n 64 [rv 3 (some 0), iv (nI c), iv (nI w), iv (nI (sg o)), un] d_76_63 rfl rfl rfl ?_
            refine r_iload_n 65 d_76_64 rfl rfl ?_
            refine r_iload_n 66 d_76_65 rfl rfl ?_
            refine r_if_lt 73 69 d_76_66 (by decide) rfl (fun c_66 => absurd c_66 (nI_pos (by omega))) (fun c_66 => ?_)
            refine r_iconst 70 (nI 1) d_76_69 rfl (by decide) ?_
            refine r_goto 74 d_76_70 (by decide) ?_
            refine r_iadd 75 (nI (c + 1)) d_76_74 rfl (nI_add c 1) ?_
            refine r_istore_n 76 [rv 3 (some 0), iv (nI (c + 1)), iv (nI w), iv (nI (sg o)), un] d_76_75 rfl rfl rfl ?_
            refine r_iload_n 77 d_76_76 rfl rfl ?_
            refine r_if_lt 120 80 d_76_77 (by decide) rfl (fun c_77 => absurd c_77 (nI_pos (by omega))) (fun c_77 => ?_)
            refine r_aload_n 81 d_76_80 rfl rfl ?_
            refine r_getR 84 3 8 6 (some 8) d_76_81 rfl fk_3_34 rfl (by decide) (MT.f8 m1.mt) ?_
            refine r_iload_n 85 d_76_84 rfl rfl ?_
            refine r_bipush 87 (nI 16) d_76_85 rfl (by decide) ?_
            refine r_idiv 88 (nI (hm S o)) d_76_87 rfl (by decide) ((pk_div (by omega) (by decide) (by decide)).trans (by rw [hdv])) ?_
            refine r_iald 89 (hm S o) (nI (kd S (hm S o))) d_76_88 rfl rfl (MT.l6_8 m1.mt hr12) hkd ?_
            refine r_iconst 90 (nI 4) d_76_89 rfl (by decide) ?_
            refine r_icmp_ge 120 93 d_76_90 (by decide) rfl (fun c_90 => absurd c_90 (nI_ge (by omega) (by decide))) (fun c_90 => ?_)
            refine r_aload_n 94 d_76_93 rfl rfl ?_
            refine r_getR 97 3 16 6 (some 13) d_76_94 rfl fk_3_57 rfl (by decide) (MT.f16 m1.mt) ?_
            refine r_aload_n 98 d_76_97 rfl rfl ?_
            refine r_getI 101 3 15 (nI gl.length) d_76_98 rfl fk_3_100 rfl q1.1 ?_
            refine r_iload_n 102 d_76_101 rfl rfl ?_
            refine r_iast 103 gl.length d_76_102 rfl rfl (MT.l6_13 m1.mt hlen) ?_
            refine r_aload_n 104 d_76_103 rfl rfl ?_
            refine r_dup 105 d_76_104 rfl rfl ?_
            refine r_getI 108 3 15 (nI gl.length) d_76_105 rfl fk_3_100 rfl ((wS (by decide)).trans q1.1) ?_
            refine r_iconst 109 (nI 1) d_76_108 rfl (by decide) ?_
            refine r_iadd 110 (nI (gl.length + 1)) d_76_109 rfl (nI_add gl.length 1) ?_
            refine r_putI 113 3 15 d_76_110 rfl fk_3_100 (Or.inl rfl) rfl rfl rfl ?_
            refine r_aload_n 114 d_76_113 rfl rfl ?_
            refine r_getR 117 3 6 6 (some 6) d_76_114 rfl fk_3_28 rfl (by decide) (MT.f6 (MT_sI (MT_sI m1.mt rfl) rfl)) ?_
            refine r_iload_n 118 d_76_117 rfl rfl ?_
            refine r_iconst 119 (-1) d_76_118 rfl (by decide) ?_
            refine r_iast 120 w d_76_119 rfl rfl (MT.l6_6 (MT_sI (MT_sI m1.mt rfl) rfl) hw192) ?_
            refine r_iinc 123 (nI (w + 1)) [rv 3 (some 0), iv (nI (c + 1)), iv (nI (w + 1)), iv (nI (sg o)), un] d_76_120 rfl rfl (nI_1 w) rfl rfl ?_
            refine r_goto 50 d_76_123 (by decide) ?_
            exact z
  -- dropping
  have drops : ∀ fl, RL S fl → ∀ n j h1, j + n = 97 → RX h1 S (DJ S fl sg j) sg → (∀ o, o ∈ all S → hI h1 7 2 (sg o) = bI (rin fl o)) → MF h h1 → TT 76 8 [rv 3 (some 0), iv (nI 0), iv (nI j), un, un] [] h1 0 0 (fun x h' => ∃ fl, RL S fl ∧ x = some (iv (nI fl.length)) ∧ RM h' (fulS S fl) sg ∧ MF h h') := by
    intro fl rl n
    induction n with
    | zero =>
      intro j h1 hj m1 fr mf1
      obtain rfl : j = 97 := by omega
      have xf : XF h1 (sI h1 3 0 15 (nI 0)) := XF_sI (XF.rf h1) rfl
      have m2 : RX (sI h1 3 0 15 (nI 0)) S (RS (flS S (pB S fl 0)) (dead S fl sg 97)) sg := by
        refine RX_mem (RX_XF m1 xf) (fun o => ?_) (fun y hy => ⟨rfl, rfl, rfl⟩) ⟨rfl, rfl, rfl⟩ ⟨rfl, rfl⟩
        show o ∈ all (flS S (pB S fl 0)) ↔ o ∈ all (flS S (kee fl sg 97))
        rw [fl_mem, fl_mem]
        have e : o ∈ all S → pB S fl 0 o = kee fl sg 97 o := fun ho => by
          unfold pB kee
          rw [decide_eq_true (Nat.zero_le _), Bool.or_true, Bool.and_true, decide_eq_false (by have := m.lt ho; omega), Bool.or_false]
        exact ⟨fun z => ⟨z.1, by rw [← e z.1]; exact z.2⟩, fun z => ⟨z.1, by rw [e z.1]; exact z.2⟩⟩
      have z := words fl rl 192 0 [] 0 _ un rfl m2 ⟨rfl, fun i o ho => by cases ho⟩ (by rw [wl_all v, tuL_all v]; rfl) (by rw [wl_all v, rl_len v rl]; omega) (MF_sI mf1 rfl)
      refine r_iload_n 9 d_76_8 rfl rfl ?_
      refine r_bipush 11 (nI 97) d_76_9 rfl (by decide) ?_
      refine r_icmp_ge 43 14 d_76_11 (by decide) rfl (fun c_11 => ?_) (fun c_11 => absurd (nI_le (Nat.le_refl _) (by decide)) c_11)
      refine r_aload_n 44 d_76_43 rfl rfl ?_
      refine r_iconst 45 (nI 0) d_76_44 rfl (by decide) ?_
      refine r_putI 48 3 15 d_76_45 rfl fk_3_100 (Or.inl rfl) rfl rfl rfl ?_
      refine r_iconst 49 (nI 0) d_76_48 rfl (by decide) ?_
      refine r_istore_n 50 [rv 3 (some 0), iv (nI 0), iv (nI 0), un, un] d_76_49 rfl rfl rfl ?_
      exact z
    | succ n ih =>
      intro j h1 hj m1 fr mf1
      have hj97 : j < 97 := by omega
      by_cases hex : ∃ o, o ∈ all S ∧ sg o = j
      · obtain ⟨o, hoa, rfl⟩ := hex
        have hr12 := hm_lt v.cl hoa
        have hof : o ∈ all (DJ S fl sg (sg o)) := dj_mem.mpr ⟨hoa, by unfold kee; rw [decide_eq_true (Nat.le_refl _), Bool.or_true]⟩
        have hhm : hI h1 6 4 (sg o) = nI (hm S o) := m1.hm hof
        have hfr := fr o hoa
        cases hri : rin fl o with
        | true =>
          rw [hri] at hfr
          refine r_iload_n 9 d_76_8 rfl rfl ?_
          refine r_bipush 11 (nI 97) d_76_9 rfl (by decide) ?_
          refine r_icmp_ge 43 14 d_76_11 (by decide) rfl (fun c_11 => absurd c_11 (nI_ge hj97 (by decide))) (fun c_11 => ?_)
          refine r_aload_n 15 d_76_14 rfl rfl ?_
          refine r_getR 18 3 4 6 (some 4) d_76_15 rfl fk_3_22 rfl (by decide) (MT.f4 m1.mt) ?_
          refine r_iload_n 19 d_76_18 rfl rfl ?_
          refine r_iald 20 (sg o) (nI (hm S o)) d_76_19 rfl rfl (MT.l6_4 m1.mt hj97) hhm ?_
          refine r_if_lt 37 23 d_76_20 (by decide) rfl (fun c_20 => absurd c_20 (nI_pos (by omega))) (fun c_20 => ?_)
          refine r_aload_n 24 d_76_23 rfl rfl ?_
          refine r_getR 27 3 23 7 (some 2) d_76_24 rfl fk_3_75 rfl (by decide) (MT.f23 m1.mt) ?_
          refine r_iload_n 28 d_76_27 rfl rfl ?_
          refine r_bald 29 (sg o) (bI true) d_76_28 rfl rfl (MT.l7_2 m1.mt hj97) hfr ?_
          refine r_if_ne 37 32 d_76_29 (by decide) rfl (fun c_29 => ?_) (fun c_29 => absurd c_29 bI_t0)
          refine r_iinc 40 (nI (sg o + 1)) [rv 3 (some 0), iv (nI 0), iv (nI (sg o + 1)), un, un] d_76_37 rfl rfl (nI_1 (sg o)) rfl rfl ?_
          refine r_goto 8 d_76_40 (by decide) ?_
          refine ih (sg o + 1) h1 (by omega) (DJ_skip v m1 (fun y hy e => ?_)) fr mf1
          rw [m.inj hy hoa e]
          exact hri
        | false =>
          rw [hri] at hfr
          refine r_iload_n 9 d_76_8 rfl rfl ?_
          refine r_bipush 11 (nI 97) d_76_9 rfl (by decide) ?_
          refine r_icmp_ge 43 14 d_76_11 (by decide) rfl (fun c_11 => absurd c_11 (nI_ge hj97 (by decide))) (fun c_11 => ?_)
          refine r_aload_n 15 d_76_14 rfl rfl ?_
          refine r_getR 18 3 4 6 (some 4) d_76_15 rfl fk_3_22 rfl (by decide) (MT.f4 m1.mt) ?_
          refine r_iload_n 19 d_76_18 rfl rfl ?_
          refine r_iald 20 (sg o) (nI (hm S o)) d_76_19 rfl rfl (MT.l6_4 m1.mt hj97) hhm ?_
          refine r_if_lt 37 23 d_76_20 (by decide) rfl (fun c_20 => absurd c_20 (nI_pos (by omega))) (fun c_20 => ?_)
          refine r_aload_n 24 d_76_23 rfl rfl ?_
          refine r_getR 27 3 23 7 (some 2) d_76_24 rfl fk_3_75 rfl (by decide) (MT.f23 m1.mt) ?_
          refine r_iload_n 28 d_76_27 rfl rfl ?_
          refine r_bald 29 (sg o) (bI false) d_76_28 rfl rfl (MT.l7_2 m1.mt hj97) hfr ?_
          refine r_if_ne 37 32 d_76_29 (by decide) rfl (fun c_29 => absurd c_29 (fun z => z rfl)) (fun c_29 => ?_)
          refine r_aload_n 33 d_76_32 rfl rfl ?_
          refine r_iload_n 34 d_76_33 rfl rfl ?_
          refine r_callV (k1 := 0) (n1 := 0) (k := 0) (n := 0) 37 78 3 [iv (nI (sg o))] d_76_34 rfl mk_78 lk_3_123 mv_78 rfl rfl rfl rfl rfl _ (m_drop v m1 hoa hri) ?_
          intro r_34 h_34 q_34
          obtain ⟨q1, q2, q3, q4⟩ := q_34
          subst q1
          show TT 76 37 [rv 3 (some 0), iv (nI 0), iv (nI (sg o)), un, un] [] h_34 _ _ _
          refine r_iinc 40 (nI (sg o + 1)) [rv 3 (some 0), iv (nI 0), iv (nI (sg o + 1)), un, un] d_76_37 rfl rfl (nI_1 (sg o)) rfl rfl ?_
          refine r_goto 8 d_76_40 (by decide) ?_
          exact ih (sg o + 1) h_34 (by omega) q2 (fun y hy => (q4 _).trans (fr y hy)) (mf1.tr q3)
      · have hmiss : ∀ o, o ∈ all S → sg o ≠ j := fun o ho e => hex ⟨o, ho, e⟩
        have hfr := m1.fr hj97 (fun o ho => hmiss o (dj_mem.mp ho).1)
        refine r_iload_n 9 d_76_8 rfl rfl ?_
        refine r_bipush 11 (nI 97) d_76_9 rfl (by decide) ?_
        refine r_icmp_ge 43 14 d_76_11 (by decide) rfl (fun c_11 => absurd c_11 (nI_ge hj97 (by decide))) (fun c_11 => ?_)
        refine r_aload_n 15 d_76_14 rfl rfl ?_
        refine r_getR 18 3 4 6 (some 4) d_76_15 rfl fk_3_22 rfl (by decide) (MT.f4 m1.mt) ?_
        refine r_iload_n 19 d_76_18 rfl rfl ?_
        refine r_iald 20 j (-1) d_76_19 rfl rfl (MT.l6_4 m1.mt hj97) hfr ?_
        refine r_if_lt 37 23 d_76_20 (by decide) rfl (fun c_20 => ?_) (fun c_20 => absurd (by decide) c_20)
        refine r_iinc 40 (nI (j + 1)) [rv 3 (some 0), iv (nI 0), iv (nI (j + 1)), un, un] d_76_37 rfl rfl (nI_1 j) rfl rfl ?_
        refine r_goto 8 d_76_40 (by decide) ?_
        exact ih (j + 1) h1 (by omega) (DJ_skip v m1 (fun y hy e => absurd e (hmiss y hy))) fr mf1
  refine r_aload_n 1 d_76_0 rfl rfl ?_
  refine r_callV (k1 := 0) (n1 := 0) (k := 0) (n := 0) 4 64 3 [] d_76_1 rfl mk_64 lk_3_81 mv_64 rfl rfl rfl rfl rfl _ (m_reach m v) ?_
  intro r_1 h_1 q_1
  obtain ⟨q1, q2, fl, q3, q4⟩ := q_1
  subst q1
  show TT 76 4 [rv 3 (some 0), un, un, un, un] [] h_1 _ _ _
  refine r_iconst 5 (nI 0) d_76_4 rfl (by decide) ?_
  refine r_istore_n 6 [rv 3 (some 0), iv (nI 0), un, un, un] d_76_5 rfl rfl rfl ?_
  refine r_iconst 7 (nI 0) d_76_6 rfl (by decide) ?_
  refine r_istore_n 8 [rv 3 (some 0), iv (nI 0), iv (nI 0), un, un] d_76_7 rfl rfl rfl ?_
  refine drops fl q3 97 0 h_1 rfl (RX_mem (RX_XF m q2) (fun o => ?_) (fun y hy => ?_) ⟨rfl, rfl, rfl⟩ ⟨rfl, rfl⟩) q4 q2.1.1
  · rw [dj_mem]
    unfold kee
    rw [decide_eq_true (Nat.zero_le _), Bool.or_true]
    exact ⟨fun z => z.1, fun z => ⟨z, rfl⟩⟩
  · have e : dead S fl sg 0 y = false := by unfold dead; rw [decide_eq_false (Nat.not_lt_zero _), Bool.and_false, Bool.and_false]
    show (if dead S fl sg 0 y = true then 0 else kd S y) = kd S y ∧ (if dead S fl sg 0 y = true then 0 else us S y) = us S y ∧ (if dead S fl sg 0 y = true then none else lw S y) = lw S y
    rw [e]
    exact ⟨rfl, rfl, rfl⟩
