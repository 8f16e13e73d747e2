/-! contracts of the class: large objects -/
def kuS (S : SS) (r k u : Nat) : SS := mkS (va_up (kd S) r k) (va_up (us S) r u) (lw S) (itm S) (ro S) (wd S) (fd S) (hm S) (so S) (cu S) (ct S)
theorem rc_ku {h : AH} {S : SS} (c : RC h S) (r k u : Nat) : RC (sI (sI h 2 r 3 (nI k)) 2 r 4 (nI u)) (kuS S r k u) := by
  refine ⟨ST_sI (ST_sI c.st rfl) rfl, fun r' hr => ⟨?_, ?_, c.lw hr, c.ic hr, (c.2.1 r' hr).2.2.2.2⟩, c.2.2⟩
  · by_cases e : r' = r
    · subst e
      exact (hI_at (h := h)).trans (by show _ = nI (va_up (kd S) r' k r'); rw [va_up_self])
    · exact (hI_ne (h := h) (k := 3) (v := nI k) e 3).trans ((c.kd hr).trans (by show _ = nI (va_up (kd S) r k r'); rw [va_up_ne _ _ e]))
  · by_cases e : r' = r
    · subst e
      exact hI_at.trans (by show _ = nI (va_up (us S) r' u r'); rw [va_up_self])
    · exact (hI_ne e 4).trans ((c.us hr).trans (by show _ = nI (va_up (us S) r u r'); rw [va_up_ne _ _ e]))
def m16 (x : Nat) : Nat := if 16 < x then 16 else x
def lgS (S : SS) (f w : Nat) : Nat → SS
  | 0 => S
  | j + 1 => kuS (lgS S f w j) (f + j) (if j = 0 then 4 else 5) (m16 (w - 16 * j))
theorem lgS_ct {S : SS} {f w : Nat} : ∀ j, ct (lgS S f w j) = ct S
  | 0 => rfl
  | j + 1 => lgS_ct j
theorem dec16 (x : Int32) (j : Nat) : x - nI (16 * j) + Int32.ofInt (-16) = x - nI (16 * (j + 1)) := by
  have e1 : Int32.ofInt (-16) = -nI 16 := by decide
  have e2 : nI (16 * (j + 1)) = nI (16 * j) + nI 16 := by rw [nI_add, Nat.mul_succ]
  rw [e1, e2, Int32.sub_eq_add_neg, Int32.sub_eq_add_neg, Int32.neg_add, Int32.sub_eq_add_neg, Int32.add_assoc]
theorem c_layLarge {h : AH} {S : SS} (c : RC h S) {o f nd w : Nat} (ho : o < ct S 3) (hw : wd S o = w) (hw40 : w ≤ 40) (hf : f + nd ≤ 12) (hnd : 0 < nd) (hnw : ∀ j, j < nd → 16 * j < w) (hl8 : (itm S f).length < 8) : TT 18 0 [rv 0 (some 0), rv 1 (some o), iv (nI f), iv (nI nd), un, un] [] h 0 0 (fun x h' => x = none ∧ RC h' (lgS (apS S f o) f w nd) ∧ CF h h') := by
  have hf12 : f < 12 := by omega
  have loop : ∀ n j h1, j + n = nd → RC h1 (lgS (apS S f o) f w j) → CF h h1 → TT 18 19 [rv 0 (some 0), rv 1 (some o), iv (nI f), iv (nI nd), iv (nI w - nI (16 * j)), iv (nI (f + j))] [] h1 0 0 (fun x h' => x = none ∧ RC h' (lgS (apS S f o) f w nd) ∧ CF h h') := by
    intro n
    induction n with
    | zero =>
      intro j h1 hj c1 cf
      obtain rfl : j = nd := by omega
      refine r_iload 21 d_18_19 rfl rfl ?_
      refine r_iload_n 22 d_18_21 rfl rfl ?_
      refine r_iload_n 23 d_18_22 rfl rfl ?_
      refine r_iadd 24 (nI (f + j)) d_18_23 rfl (nI_add f j) ?_
      refine r_icmp_ge 74 27 d_18_24 (by decide) rfl (fun c_24 => ?_) (fun c_24 => absurd (nI_le (Nat.le_refl _) (by omega)) c_24)
      refine r_return d_18_74 rfl ?_
      exact ⟨rfl, c1, cf⟩
    | succ n ih =>
      intro j h1 hj c1 cf
      have hr12 : f + j < 12 := by omega
      have hjw := hnw j (by omega)
      have body : ∀ k : Nat, k = (if j = 0 then 4 else 5) → TT 18 45 [rv 0 (some 0), rv 1 (some o), iv (nI f), iv (nI nd), iv (nI w - nI (16 * j)), iv (nI (f + j))] [iv (nI k), rv 2 (some (f + j))] h1 0 0 (fun x h' => x = none ∧ RC h' (lgS (apS S f o) f w nd) ∧ CF h h') := by
        intro k hk
        have z := ih (j + 1) (sI (sI h1 2 (f + j) 3 (nI k)) 2 (f + j) 4 (nI (m16 (w - 16 * j)))) (by omega) (by rw [lgS, ← hk]; exact rc_ku c1 _ _ _) (CF_sI (CF_sI cf rfl) rfl)
        refine r_putI 48 2 3 d_18_45 rfl fk_0_93 (Or.inl rfl) rfl rfl rfl ?_
        refine r_aload_n 49 d_18_48 rfl rfl ?_
        refine r_getR 52 0 0 5 (some 0) d_18_49 rfl fk_0_11 rfl (by decide) (ST.reg (ST_sI c1.st rfl)) ?_
        refine r_iload 54 d_18_52 rfl rfl ?_
        refine r_aald 55 5 2 (f + j) (some (f + j)) d_18_54 rfl (Or.inr ⟨rfl, rfl⟩) rfl (ST.l50 (ST_sI c1.st rfl) hr12) (ST.rat (ST_sI c1.st rfl) hr12) ?_
        refine r_iload 57 d_18_55 rfl rfl ?_
        refine r_bipush 59 (nI 16) d_18_57 rfl (by decide) ?_
        refine r_min 62 (nI (m16 (w - 16 * j))) d_18_59 rfl lk_0_99 rfl rfl rfl (by rw [pk_sub (by omega)]; unfold m16; by_cases e : 16 < w - 16 * j; rw [if_pos e, if_pos ((nI_ltI (by decide) (by omega)).mpr e)]; rw [if_neg e, if_neg (fun q => e ((nI_ltI (by decide) (by omega)).mp q))]) ?_
        refine r_putI 65 2 4 d_18_62 rfl fk_0_105 (Or.inl rfl) rfl rfl rfl ?_
        refine r_iinc 68 (nI w - nI (16 * (j + 1))) [rv 0 (some 0), rv 1 (some o), iv (nI f), iv (nI nd), iv (nI w - nI (16 * (j + 1))), iv (nI (f + j))] d_18_65 rfl rfl (dec16 _ _) rfl rfl ?_
        refine r_iinc 71 (nI (f + (j + 1))) [rv 0 (some 0), rv 1 (some o), iv (nI f), iv (nI nd), iv (nI w - nI (16 * (j + 1))), iv (nI (f + (j + 1)))] d_18_68 rfl rfl (nI_1 _) rfl rfl ?_
        refine r_goto 19 d_18_71 (by decide) ?_
        exact z
      refine r_iload 21 d_18_19 rfl rfl ?_
      refine r_iload_n 22 d_18_21 rfl rfl ?_
      refine r_iload_n 23 d_18_22 rfl rfl ?_
      refine r_iadd 24 (nI (f + nd)) d_18_23 rfl (nI_add f nd) ?_
      refine r_icmp_ge 74 27 d_18_24 (by decide) rfl (fun c_24 => absurd c_24 (nI_ge (by omega) (by omega))) (fun c_24 => ?_)
      refine r_aload_n 28 d_18_27 rfl rfl ?_
      refine r_getR 31 0 0 5 (some 0) d_18_28 rfl fk_0_11 rfl (by decide) (ST.reg c1.st) ?_
      refine r_iload 33 d_18_31 rfl rfl ?_
      refine r_aald 34 5 2 (f + j) (some (f + j)) d_18_33 rfl (Or.inr ⟨rfl, rfl⟩) rfl (ST.l50 c1.st hr12) (ST.rat c1.st hr12) ?_
      refine r_iload 36 d_18_34 rfl rfl ?_
      refine r_iload_n 37 d_18_36 rfl rfl ?_
      refine r_icmp_ne 44 40 d_18_37 (by decide) rfl (fun c_37 => ?_) (fun c_37 => ?_)
      · skip
        refine r_iconst 45 (nI 5) d_18_44 rfl (by decide) ?_
        first
        | exact body 5 (by rw [if_neg]; intro q; exact c_37 (by rw [q]; rfl))
        | exact body 4 (by rw [if_pos]; have := (nI_eq (a := f + j) (b := f) (by omega) (by omega)).mp c_37; omega)
      · skip
        refine r_iconst 41 (nI 4) d_18_40 rfl (by decide) ?_
        refine r_goto 45 d_18_41 (by decide) ?_
        first
        | exact body 5 (by rw [if_neg]; intro q; exact c_37 (by rw [q]; rfl))
        | exact body 4 (by rw [if_pos]; have := (nI_eq (a := f + j) (b := f) (by omega) (by omega)).mp c_37; omega)
  refine r_aload_n 1 d_18_0 rfl rfl ?_
  refine r_getR 4 0 0 5 (some 0) d_18_1 rfl fk_0_11 rfl (by decide) (ST.reg c.st) ?_
  refine r_iload_n 5 d_18_4 rfl rfl ?_
  refine r_aald 6 5 2 f (some f) d_18_5 rfl (Or.inr ⟨rfl, rfl⟩) rfl (ST.l50 c.st hf12) (ST.rat c.st hf12) ?_
  refine r_aload_n 7 d_18_6 rfl rfl ?_
  refine r_callV (k1 := 0) (n1 := 0) (k := 0) (n := 0) 10 5 2 [rv 1 (some o)] d_18_7 rfl mk_5 lk_0_45 mv_5 rfl rfl rfl rfl rfl _ (c_append h f o (itm S f).length c.st hf12 (c.ic hf12) hl8) ?_
  intro r_7 h_7 q_7
  obtain ⟨q1, q2⟩ := q_7
  subst q1
  subst q2
  have c2 := rc_ap c hf12 ho
  show TT 18 10 [rv 0 (some 0), rv 1 (some o), iv (nI f), iv (nI nd), un, un] [] (apH h f o (itm S f).length) _ _ _
  refine r_aload_n 11 d_18_10 rfl rfl ?_
  refine r_getI 14 1 1 (nI w) d_18_11 rfl fk_0_96 rfl ((c2.wd ho).trans (by rw [← hw]; rfl)) ?_
  refine r_istore 16 [rv 0 (some 0), rv 1 (some o), iv (nI f), iv (nI nd), iv (nI w), un] d_18_14 rfl rfl rfl ?_
  refine r_iload_n 17 d_18_16 rfl rfl ?_
  refine r_istore 19 [rv 0 (some 0), rv 1 (some o), iv (nI f), iv (nI nd), iv (nI w), iv (nI f)] d_18_17 rfl rfl rfl ?_
  have z := loop nd 0 _ (by omega) c2 (cf_ap (CF.rf h))
  rw [show nI w - nI (16 * 0) = nI w from Int32.sub_zero _] at z
  exact z
/-- where a large object of nd regions comes to lie -/
noncomputable def lgP (S : SS) (nd : Nat) : Option Nat × SS := match lfr (isk S 0) nd 12 0 0 with
  | some f => (some f, S)
  | none => (lfr (isk (ful S) 0) nd 12 0 0, ful S)
def lgR (S : SS) (nd : Nat) : Prop := lfr (isk S 0) nd 12 0 0 = none → RL S (fl0 S)
/-- a large object of w words and n fields made in nd regions from f on, held by root i -/
def mk2 (S : SS) (w n i f nd : Nat) : SS := roS (lgS (apS (niS S w n) f (ct S 3)) f w nd) i (some (ct S 3))
theorem lfr_run {p : Nat → Bool} {nd : Nat} : ∀ n r run j, lfr p nd n r run = some j → run ≤ r → (∀ q, r - run ≤ q → q < r → p q = true) → 0 < nd → j + nd ≤ r + n ∧ ∀ q, j ≤ q → q < j + nd → p q = true
  | 0, _, _, _, h, _, _, _ => by cases h
  | n + 1, r, run, j, h, hrun, hp, hnd => by
    rw [lfr] at h
    by_cases e : p r = true
    · rw [if_pos e] at h
      have hp' : ∀ q, r + 1 - (run + 1) ≤ q → q < r + 1 → p q = true := fun q q1 q2 => by
        by_cases eq : q = r
        · subst eq; exact e
        · exact hp q (by omega) (by omega)
      by_cases e2 : run + 1 = nd
      · rw [if_pos e2] at h
        cases h
        exact ⟨by omega, fun q q1 q2 => hp' q (by omega) (by omega)⟩
      · rw [if_neg e2] at h
        have := lfr_run n (r + 1) (run + 1) j h (by omega) hp' hnd
        exact ⟨by omega, this.2⟩
    · rw [if_neg e, if_neg (by omega)] at h
      have := lfr_run n (r + 1) 0 j h (by omega) (fun q q1 q2 => by omega) hnd
      exact ⟨by omega, this.2⟩
theorem lfr_free {S : SS} (v : IV S) {nd f : Nat} (hnd : 0 < nd) (h : lfr (isk S 0) nd 12 0 0 = some f) : f + nd ≤ 12 ∧ ∀ q, f ≤ q → q < f + nd → kd S q = 0 := by
  obtain ⟨a, b⟩ := lfr_run 12 0 0 f h (Nat.le_refl _) (fun q _ q2 => by omega) hnd
  exact ⟨by omega, fun q q1 q2 => of_decide_eq_true (b q q1 q2)⟩
theorem c_large {h : AH} {S : SS} (c : RC h S) (v : IV S) {i n w : Nat} (hi : i < 6) (hn : n < 4) (hw9 : 9 ≤ w) (hw40 : w ≤ 40) : TT 11 0 [rv 0 (some 0), iv (nI i), iv (nI n), iv (nI w), un, un, un] [] h 2 10 (fun x h' => lgR S ((w + 15) / 16) ∧ CF h h' ∧ IV (lgP S ((w + 15) / 16)).2 ∧ (match (lgP S ((w + 15) / 16)).1 with
    | none => x = some (iv (-2)) ∧ RC h' (lgP S ((w + 15) / 16)).2
    | some f => x = some (iv (nI (ct (lgP S ((w + 15) / 16)).2 3 + 1))) ∧ RC h' (mk2 (lgP S ((w + 15) / 16)).2 w n i f ((w + 15) / 16)))) := by
  generalize hnd : (w + 15) / 16 = nd
  have hnd0 : 0 < nd := by omega
  have hnd3 : nd ≤ 3 := by omega
  have hnw : ∀ j, j < nd → 16 * j < w := fun j hj => by omega
  have rest : ∀ S1 h1 f, RC h1 S1 → IV S1 → lfr (isk S1 0) nd 12 0 0 = some f → CF h h1 → TT 11 65 [rv 0 (some 0), iv (nI i), iv (nI n), iv (nI w), iv (nI nd), iv (nI f), un] [] h1 2 10 (fun x h' => CF h h' ∧ x = some (iv (nI (ct S1 3 + 1))) ∧ RC h' (mk2 S1 w n i f nd)) := by
    intro S1 h1 f c1 v1 hl cf
    obtain ⟨g1, g2⟩ := lfr_free v1 hnd0 hl
    have hi0 : itm S1 f = [] := ((v1.1 f (by omega)).1 (g2 f (Nat.le_refl _) (by omega))).1
    refine r_iload 67 d_11_65 rfl rfl ?_
    refine r_if_ge 73 70 d_11_67 (by decide) rfl (fun c_67 => ?_) (fun c_67 => absurd (nI_pos' (by omega)) c_67)
    refine r_aload_n 74 d_11_73 rfl rfl ?_
    refine r_iload_n 75 d_11_74 rfl rfl ?_
    refine r_iload_n 76 d_11_75 rfl rfl ?_
    refine r_callV (k1 := 2) (n1 := 10) (k := 0) (n := 0) 79 12 0 [iv (nI w), iv (nI n)] d_11_76 rfl mk_12 lk_0_41 mv_12 rfl rfl rfl rfl rfl _ (c_newItem c1 w n (by omega)) ?_
    intro r_76 h_76 q_76
    obtain ⟨p1, p2⟩ := q_76
    subst p1
    subst p2
    have c2 := rc_ni c1 v1.2.2.2.2.2.1 w n
    have hlt : ct S1 3 < ct (niS S1 w n) 3 := Nat.lt_succ_self _
    show TT 11 79 [rv 0 (some 0), iv (nI i), iv (nI n), iv (nI w), iv (nI nd), iv (nI f), un] [rv 1 (some (ct S1 3))] (niH h1 (nI (ct S1 3 + 1)) (nI w) n) _ _ _
    refine r_astore 81 [rv 0 (some 0), iv (nI i), iv (nI n), iv (nI w), iv (nI nd), iv (nI f), rv 1 (some (ct S1 3))] d_11_79 rfl rfl rfl ?_
    refine r_aload_n 82 d_11_81 rfl rfl ?_
    refine r_aload 84 d_11_82 rfl rfl ?_
    refine r_iload 86 d_11_84 rfl rfl ?_
    refine r_iload 88 d_11_86 rfl rfl ?_
    refine r_callV (k1 := 0) (n1 := 0) (k := 0) (n := 0) 91 18 0 [rv 1 (some (ct S1 3)), iv (nI f), iv (nI nd)] d_11_88 rfl mk_18 lk_0_64 mv_18 rfl rfl rfl rfl rfl _ (c_layLarge c2 hlt (va_up_self _ _ _) hw40 g1 hnd0 hnw (by show (itm S1 f).length < 8; rw [hi0]; decide)) ?_
    intro r_88 h_88 q_88
    obtain ⟨q1, q2, q3⟩ := q_88
    subst q1
    have hlt2 : ct S1 3 < ct (lgS (apS (niS S1 w n) f (ct S1 3)) f w nd) 3 := by rw [lgS_ct]; exact hlt
    show TT 11 91 [rv 0 (some 0), iv (nI i), iv (nI n), iv (nI w), iv (nI nd), iv (nI f), rv 1 (some (ct S1 3))] [] h_88 _ _ _
    refine r_aload_n 92 d_11_91 rfl rfl ?_
    refine r_getR 95 0 1 4 (some 12) d_11_92 rfl fk_0_20 rfl (by decide) q2.st.roo ?_
    refine r_iload_n 96 d_11_95 rfl rfl ?_
    refine r_aload 98 d_11_96 rfl rfl ?_
    refine r_aast 99 4 1 i d_11_98 rfl (Or.inl ⟨rfl, rfl⟩) rfl (q2.st.lro hi) ?_
    refine r_aload 101 d_11_99 rfl rfl ?_
    refine r_getI 104 1 0 (nI (ct S1 3 + 1)) d_11_101 rfl fk_0_53 rfl (q2.no hlt2) ?_
    refine r_ireturn d_11_104 rfl ?_
    exact ⟨CF_sR ((CF_sR (CF_nw (CF_sI (CF_sI (CF_nw (CF_sI cf rfl) rfl) rfl) rfl) rfl) rfl).tr q3) rfl, rfl, rc_ro q2 i (some (ct S1 3))⟩
  have hlt12 := fun (S : SS) j => lfr_lt (f := isk S 0) (nd := nd) hnd0 12 0 0 j
  cases h1 : lfr (isk S 0) nd 12 0 0 with
  | some f =>
    have ep : lgP S nd = (some f, S) := by unfold lgP; rw [h1]
    have hf12 := hlt12 S f h1
    rw [ep]
    have hr : lgR S nd := fun z => by rw [h1] at z; cases z
    refine r_iload_n 1 d_11_0 rfl rfl ?_
    refine r_callS (k1 := 0) (n1 := 0) (k := 2) (n := 10) 4 23 [iv (nI i)] d_11_1 rfl mk_23 lk_0_30 mv_23 rfl rfl rfl rfl _ (c_isRoot h (nI i)) ?_
    intro r_1 h_1 q_1
    obtain ⟨q1, q2⟩ := q_1
    subst q2
    rw [q1]
    show TT 11 4 [rv 0 (some 0), iv (nI i), iv (nI n), iv (nI w), un, un, un] [iv (bI (ix 6 (nI i)).isSome)] h _ _ _
    refine r_if_eq 26 7 d_11_4 (by decide) rfl (fun c_4 => absurd c_4 (by rw [ix_nI (by decide) hi]; exact bI_t0)) (fun c_4 => ?_)
    refine r_iload_n 8 d_11_7 rfl rfl ?_
    refine r_callS (k1 := 0) (n1 := 0) (k := 2) (n := 10) 11 25 [iv (nI n)] d_11_8 rfl mk_25 lk_0_34 mv_25 rfl rfl rfl rfl _ (c_isFieldCount h (nI n)) ?_
    intro r_8 h_8 q_8
    obtain ⟨q1, q2⟩ := q_8
    subst q2
    rw [q1]
    show TT 11 11 [rv 0 (some 0), iv (nI i), iv (nI n), iv (nI w), un, un, un] [iv (bI (ix 4 (nI n)).isSome)] h _ _ _
    refine r_if_eq 26 14 d_11_11 (by decide) rfl (fun c_11 => absurd c_11 (by rw [ix_nI (by decide) hn]; exact bI_t0)) (fun c_11 => ?_)
    refine r_iload_n 15 d_11_14 rfl rfl ?_
    refine r_bipush 17 (nI 9) d_11_15 rfl (by decide) ?_
    refine r_icmp_lt 26 20 d_11_17 (by decide) rfl (fun c_17 => absurd c_17 (nI_nlt hw9 (by omega))) (fun c_17 => ?_)
    refine r_iload_n 21 d_11_20 rfl rfl ?_
    refine r_bipush 23 (nI 40) d_11_21 rfl (by decide) ?_
    refine r_icmp_le 28 26 d_11_23 (by decide) rfl (fun c_23 => ?_) (fun c_23 => absurd (nI_le hw40 (by decide)) c_23)
    refine r_iload_n 29 d_11_28 rfl rfl ?_
    refine r_bipush 31 (nI 16) d_11_29 rfl (by decide) ?_
    refine r_iadd 32 (nI (w + 16)) d_11_31 rfl (nI_add w 16) ?_
    refine r_iconst 33 (nI 1) d_11_32 rfl (by decide) ?_
    refine r_isub 34 (nI (w + 15)) d_11_33 rfl (pk_sub (by omega)) ?_
    refine r_bipush 36 (nI 16) d_11_34 rfl (by decide) ?_
    refine r_idiv 37 (nI nd) d_11_36 rfl (by decide) ((pk_div (by omega) (by decide) (by decide)).trans (by rw [hnd])) ?_
    refine r_istore 39 [rv 0 (some 0), iv (nI i), iv (nI n), iv (nI w), iv (nI nd), un, un] d_11_37 rfl rfl rfl ?_
    refine r_aload_n 40 d_11_39 rfl rfl ?_
    refine r_iload 42 d_11_40 rfl rfl ?_
    refine r_callV (k1 := 0) (n1 := 0) (k := 2) (n := 10) 45 17 0 [iv (nI nd)] d_11_42 rfl mk_17 lk_0_56 mv_17 rfl rfl rfl rfl rfl _ (c_leastFreeRun c v.bd nd hnd0 (by omega)) ?_
    intro r_42 h_42 q_42
    obtain ⟨q1, q2⟩ := q_42
    rw [h1] at q2
    subst q2
    rw [q1]
    show TT 11 45 [rv 0 (some 0), iv (nI i), iv (nI n), iv (nI w), iv (nI nd), un, un] [iv (nI f)] h _ _ _
    refine r_istore 47 [rv 0 (some 0), iv (nI i), iv (nI n), iv (nI w), iv (nI nd), iv (nI f), un] d_11_45 rfl rfl rfl ?_
    refine r_iload 49 d_11_47 rfl rfl ?_
    refine r_if_ge 65 52 d_11_49 (by decide) rfl (fun c_49 => ?_) (fun c_49 => absurd (nI_pos' (by omega)) c_49)
    exact TT.mono (fun x h' z => ⟨hr, z.1, v, z.2.1, z.2.2⟩) (rest S h f c v h1 (CF.rf h))
  | none =>
    have e2 : lgP S nd = (lfr (isk (ful S) 0) nd 12 0 0, ful S) := by unfold lgP; rw [h1]
    rw [e2]
    cases h2 : lfr (isk (ful S) 0) nd 12 0 0 with
    | some f =>
      have hf12 := hlt12 (ful S) f h2
      refine r_iload_n 1 d_11_0 rfl rfl ?_
      refine r_callS (k1 := 0) (n1 := 0) (k := 2) (n := 10) 4 23 [iv (nI i)] d_11_1 rfl mk_23 lk_0_30 mv_23 rfl rfl rfl rfl _ (c_isRoot h (nI i)) ?_
      intro r_1 h_1 q_1
      obtain ⟨q1, q2⟩ := q_1
      subst q2
      rw [q1]
      show TT 11 4 [rv 0 (some 0), iv (nI i), iv (nI n), iv (nI w), un, un, un] [iv (bI (ix 6 (nI i)).isSome)] h _ _ _
      refine r_if_eq 26 7 d_11_4 (by decide) rfl (fun c_4 => absurd c_4 (by rw [ix_nI (by decide) hi]; exact bI_t0)) (fun c_4 => ?_)
      refine r_iload_n 8 d_11_7 rfl rfl ?_
      refine r_callS (k1 := 0) (n1 := 0) (k := 2) (n := 10) 11 25 [iv (nI n)] d_11_8 rfl mk_25 lk_0_34 mv_25 rfl rfl rfl rfl _ (c_isFieldCount h (nI n)) ?_
      intro r_8 h_8 q_8
      obtain ⟨q1, q2⟩ := q_8
      subst q2
      rw [q1]
      show TT 11 11 [rv 0 (some 0), iv (nI i), iv (nI n), iv (nI w), un, un, un] [iv (bI (ix 4 (nI n)).isSome)] h _ _ _
      refine r_if_eq 26 14 d_11_11 (by decide) rfl (fun c_11 => absurd c_11 (by rw [ix_nI (by decide) hn]; exact bI_t0)) (fun c_11 => ?_)
      refine r_iload_n 15 d_11_14 rfl rfl ?_
      refine r_bipush 17 (nI 9) d_11_15 rfl (by decide) ?_
      refine r_icmp_lt 26 20 d_11_17 (by decide) rfl (fun c_17 => absurd c_17 (nI_nlt hw9 (by omega))) (fun c_17 => ?_)
      refine r_iload_n 21 d_11_20 rfl rfl ?_
      refine r_bipush 23 (nI 40) d_11_21 rfl (by decide) ?_
      refine r_icmp_le 28 26 d_11_23 (by decide) rfl (fun c_23 => ?_) (fun c_23 => absurd (nI_le hw40 (by decide)) c_23)
      refine r_iload_n 29 d_11_28 rfl rfl ?_
      refine r_bipush 31 (nI 16) d_11_29 rfl (by decide) ?_
      refine r_iadd 32 (nI (w + 16)) d_11_31 rfl (nI_add w 16) ?_
      refine r_iconst 33 (nI 1) d_11_32 rfl (by decide) ?_
      refine r_isub 34 (nI (w + 15)) d_11_33 rfl (pk_sub (by omega)) ?_
      refine r_bipush 36 (nI 16) d_11_34 rfl (by decide) ?_
      refine r_idiv 37 (nI nd) d_11_36 rfl (by decide) ((pk_div (by omega) (by decide) (by decide)).trans (by rw [hnd])) ?_
      refine r_istore 39 [rv 0 (some 0), iv (nI i), iv (nI n), iv (nI w), iv (nI nd), un, un] d_11_37 rfl rfl rfl ?_
      refine r_aload_n 40 d_11_39 rfl rfl ?_
      refine r_iload 42 d_11_40 rfl rfl ?_
      refine r_callV (k1 := 0) (n1 := 0) (k := 2) (n := 10) 45 17 0 [iv (nI nd)] d_11_42 rfl mk_17 lk_0_56 mv_17 rfl rfl rfl rfl rfl _ (c_leastFreeRun c v.bd nd hnd0 (by omega)) ?_
      intro r_42 h_42 q_42
      obtain ⟨q1, q2⟩ := q_42
      rw [h1] at q2
      subst q2
      rw [q1]
      show TT 11 45 [rv 0 (some 0), iv (nI i), iv (nI n), iv (nI w), iv (nI nd), un, un] [iv (-1)] h _ _ _
      refine r_istore 47 [rv 0 (some 0), iv (nI i), iv (nI n), iv (nI w), iv (nI nd), iv (-1), un] d_11_45 rfl rfl rfl ?_
      refine r_iload 49 d_11_47 rfl rfl ?_
      refine r_if_ge 65 52 d_11_49 (by decide) rfl (fun c_49 => absurd c_49 (by decide)) (fun c_49 => ?_)
      refine r_aload_n 53 d_11_52 rfl rfl ?_
      refine r_callV (k1 := 0) (n1 := 0) (k := 2) (n := 10) 56 48 0 [] d_11_53 rfl mk_48 lk_0_60 mv_48 rfl rfl rfl rfl rfl _ (k_full c v) ?_
      intro r_53 h_53 q_53
      obtain ⟨p1, p2, p3, p4, p5⟩ := q_53
      subst p1
      show TT 11 56 [rv 0 (some 0), iv (nI i), iv (nI n), iv (nI w), iv (nI nd), iv (-1), un] [iv (nI (fl0 S).length)] h_53 _ _ _
      refine r_pop 57 d_11_56 rfl rfl ?_
      refine r_aload_n 58 d_11_57 rfl rfl ?_
      refine r_iload 60 d_11_58 rfl rfl ?_
      refine r_callV (k1 := 0) (n1 := 0) (k := 2) (n := 10) 63 17 0 [iv (nI nd)] d_11_60 rfl mk_17 lk_0_56 mv_17 rfl rfl rfl rfl rfl _ (c_leastFreeRun p2 p3.bd nd hnd0 (by omega)) ?_
      intro r_60 h_60 q_60
      obtain ⟨q3, q4⟩ := q_60
      rw [h2] at q4
      subst q4
      rw [q3]
      show TT 11 63 [rv 0 (some 0), iv (nI i), iv (nI n), iv (nI w), iv (nI nd), iv (-1), un] [iv (nI f)] h_53 _ _ _
      refine r_istore 65 [rv 0 (some 0), iv (nI i), iv (nI n), iv (nI w), iv (nI nd), iv (nI f), un] d_11_63 rfl rfl rfl ?_
      exact TT.mono (fun x h' z => ⟨fun _ => p4, z.1, p3, z.2.1, z.2.2⟩) (rest (ful S) h_53 f p2 p3 h2 p5)
    | none =>
      refine TT.widen (k := 0) (n := 0) (by omega) (by omega) ?_
      refine r_iload_n 1 d_11_0 rfl rfl ?_
      refine r_callS (k1 := 0) (n1 := 0) (k := 0) (n := 0) 4 23 [iv (nI i)] d_11_1 rfl mk_23 lk_0_30 mv_23 rfl rfl rfl rfl _ (c_isRoot h (nI i)) ?_
      intro r_1 h_1 q_1
      obtain ⟨q1, q2⟩ := q_1
      subst q2
      rw [q1]
      show TT 11 4 [rv 0 (some 0), iv (nI i), iv (nI n), iv (nI w), un, un, un] [iv (bI (ix 6 (nI i)).isSome)] h _ _ _
      refine r_if_eq 26 7 d_11_4 (by decide) rfl (fun c_4 => absurd c_4 (by rw [ix_nI (by decide) hi]; exact bI_t0)) (fun c_4 => ?_)
      refine r_iload_n 8 d_11_7 rfl rfl ?_
      refine r_callS (k1 := 0) (n1 := 0) (k := 0) (n := 0) 11 25 [iv (nI n)] d_11_8 rfl mk_25 lk_0_34 mv_25 rfl rfl rfl rfl _ (c_isFieldCount h (nI n)) ?_
      intro r_8 h_8 q_8
      obtain ⟨q1, q2⟩ := q_8
      subst q2
      rw [q1]
      show TT 11 11 [rv 0 (some 0), iv (nI i), iv (nI n), iv (nI w), un, un, un] [iv (bI (ix 4 (nI n)).isSome)] h _ _ _
      refine r_if_eq 26 14 d_11_11 (by decide) rfl (fun c_11 => absurd c_11 (by rw [ix_nI (by decide) hn]; exact bI_t0)) (fun c_11 => ?_)
      refine r_iload_n 15 d_11_14 rfl rfl ?_
      refine r_bipush 17 (nI 9) d_11_15 rfl (by decide) ?_
      refine r_icmp_lt 26 20 d_11_17 (by decide) rfl (fun c_17 => absurd c_17 (nI_nlt hw9 (by omega))) (fun c_17 => ?_)
      refine r_iload_n 21 d_11_20 rfl rfl ?_
      refine r_bipush 23 (nI 40) d_11_21 rfl (by decide) ?_
      refine r_icmp_le 28 26 d_11_23 (by decide) rfl (fun c_23 => ?_) (fun c_23 => absurd (nI_le hw40 (by decide)) c_23)
      refine r_iload_n 29 d_11_28 rfl rfl ?_
      refine r_bipush 31 (nI 16) d_11_29 rfl (by decide) ?_
      refine r_iadd 32 (nI (w + 16)) d_11_31 rfl (nI_add w 16) ?_
      refine r_iconst 33 (nI 1) d_11_32 rfl (by decide) ?_
      refine r_isub 34 (nI (w + 15)) d_11_33 rfl (pk_sub (by omega)) ?_
      refine r_bipush 36 (nI 16) d_11_34 rfl (by decide) ?_
      refine r_idiv 37 (nI nd) d_11_36 rfl (by decide) ((pk_div (by omega) (by decide) (by decide)).trans (by rw [hnd])) ?_
      refine r_istore 39 [rv 0 (some 0), iv (nI i), iv (nI n), iv (nI w), iv (nI nd), un, un] d_11_37 rfl rfl rfl ?_
      refine r_aload_n 40 d_11_39 rfl rfl ?_
      refine r_iload 42 d_11_40 rfl rfl ?_
      refine r_callV (k1 := 0) (n1 := 0) (k := 0) (n := 0) 45 17 0 [iv (nI nd)] d_11_42 rfl mk_17 lk_0_56 mv_17 rfl rfl rfl rfl rfl _ (c_leastFreeRun c v.bd nd hnd0 (by omega)) ?_
      intro r_42 h_42 q_42
      obtain ⟨q1, q2⟩ := q_42
      rw [h1] at q2
      subst q2
      rw [q1]
      show TT 11 45 [rv 0 (some 0), iv (nI i), iv (nI n), iv (nI w), iv (nI nd), un, un] [iv (-1)] h _ _ _
      refine r_istore 47 [rv 0 (some 0), iv (nI i), iv (nI n), iv (nI w), iv (nI nd), iv (-1), un] d_11_45 rfl rfl rfl ?_
      refine r_iload 49 d_11_47 rfl rfl ?_
      refine r_if_ge 65 52 d_11_49 (by decide) rfl (fun c_49 => absurd c_49 (by decide)) (fun c_49 => ?_)
      refine r_aload_n 53 d_11_52 rfl rfl ?_
      refine r_callV (k1 := 0) (n1 := 0) (k := 0) (n := 0) 56 48 0 [] d_11_53 rfl mk_48 lk_0_60 mv_48 rfl rfl rfl rfl rfl _ (k_full c v) ?_
      intro r_53 h_53 q_53
      obtain ⟨p1, p2, p3, p4, p5⟩ := q_53
      subst p1
      show TT 11 56 [rv 0 (some 0), iv (nI i), iv (nI n), iv (nI w), iv (nI nd), iv (-1), un] [iv (nI (fl0 S).length)] h_53 _ _ _
      refine r_pop 57 d_11_56 rfl rfl ?_
      refine r_aload_n 58 d_11_57 rfl rfl ?_
      refine r_iload 60 d_11_58 rfl rfl ?_
      refine r_callV (k1 := 0) (n1 := 0) (k := 0) (n := 0) 63 17 0 [iv (nI nd)] d_11_60 rfl mk_17 lk_0_56 mv_17 rfl rfl rfl rfl rfl _ (c_leastFreeRun p2 p3.bd nd hnd0 (by omega)) ?_
      intro r_60 h_60 q_60
      obtain ⟨q3, q4⟩ := q_60
      rw [h2] at q4
      subst q4
      rw [q3]
      show TT 11 63 [rv 0 (some 0), iv (nI i), iv (nI n), iv (nI w), iv (nI nd), iv (-1), un] [iv (-1)] h_53 _ _ _
      refine r_istore 65 [rv 0 (some 0), iv (nI i), iv (nI n), iv (nI w), iv (nI nd), iv (-1), un] d_11_63 rfl rfl rfl ?_
      refine r_iload 67 d_11_65 rfl rfl ?_
      refine r_if_ge 73 70 d_11_67 (by decide) rfl (fun c_67 => absurd c_67 (by decide)) (fun c_67 => ?_)
      refine r_bipush 72 (-2) d_11_70 rfl (by decide) ?_
      refine r_ireturn d_11_72 rfl ?_
      exact ⟨fun _ => p4, p5, p3, rfl, p2⟩
