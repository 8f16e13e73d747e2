/-! contracts of the class: making -/
theorem CF_nw {h h1 : AH} (a : CF h h1) {s n : Nat} (hs : mS s = false) : CF h (nw h1 s n) := fun s' hs' => by
  obtain ⟨a1, a2, a3, a4⟩ := a s' hs'
  have hne : s' ≠ s := fun z => by rw [z, hs] at hs'; cases hs'
  refine ⟨?_, fun i => ?_, fun i k => ?_, fun i k => ?_⟩
  · rw [hC_nw, if_neg hne]; exact a1
  · rw [hL_nw, if_neg (fun z => hne z.1)]; exact a2 i
  · rw [hI_nw, if_neg (fun z => hne z.1)]; exact a3 i k
  · rw [hR_nw, if_neg (fun z => hne z.1)]; exact a4 i k
theorem bI_t0 : ¬ bI true = 0 := by decide
theorem wR_ne {h : AH} {s n i k : Nat} (hi : i ≠ h.1 s) : hR (nw h s n) s i k = hR h s i k := if_neg (fun z => hi z.2)
theorem wI_ne {h : AH} {s n i k : Nat} (hi : i ≠ h.1 s) : hI (nw h s n) s i k = hI h s i k := if_neg (fun z => hi z.2)
theorem wL_ne {h : AH} {s n i : Nat} (hi : i ≠ h.1 s) : hL (nw h s n) s i = hL h s i := if_neg (fun z => hi z.2)
theorem wR_at {h : AH} {s n k : Nat} : hR (nw h s n) s (h.1 s) k = none := if_pos ⟨rfl, rfl⟩
theorem wL_at {h : AH} {s n : Nat} : hL (nw h s n) s (h.1 s) = n := if_pos ⟨rfl, rfl⟩
theorem c_Item (h : AH) (o : Nat) (a w : Int32) (n : Nat) (hn : n ≤ 100) : TT 0 0 [rv 1 (some o), iv a, iv w, iv (nI n)] [] h (0 + 1) (0 + n) (fun x h' => x = none ∧ h' = sR (nw (sI (sI h 1 o 0 a) 1 o 1 w) 4 n) 1 o 2 (some (h.1 4))) := by
  refine r_aload_n 1 d_0_0 rfl rfl ?_
  refine r_obj 4 d_0_1 rfl lk_1_1 rfl rfl rfl ?_
  refine r_aload_n 5 d_0_4 rfl rfl ?_
  refine r_iload_n 6 d_0_5 rfl rfl ?_
  refine r_putI 9 1 0 d_0_6 rfl fk_1_7 (Or.inr fn_0_7) rfl rfl rfl ?_
  refine r_aload_n 10 d_0_9 rfl rfl ?_
  refine r_iload_n 11 d_0_10 rfl rfl ?_
  refine r_putI 14 1 1 d_0_11 rfl fk_1_13 (Or.inr fn_0_13) rfl rfl rfl ?_
  refine r_aload_n 15 d_0_14 rfl rfl ?_
  refine r_iload_n 16 d_0_15 rfl rfl ?_
  refine r_newq 19 4 n d_0_16 rfl nk_1_8 rfl (by omega) ?_
  refine r_putR 22 1 2 4 d_0_19 rfl fk_1_16 (Or.inr fn_0_16) rfl (by decide) (fun o => by cases o <;> exact ⟨rfl, rfl⟩) ?_
  refine r_return d_0_22 rfl ?_
  exact ⟨rfl, rfl⟩
/-- the heap behind newItem -/
def niH (h : AH) (v w : Int32) (n : Nat) : AH := sR (nw (sI (sI (nw (sI h 0 0 9 v) 1 0) 1 (h.1 1) 0 v) 1 (h.1 1) 1 w) 4 n) 1 (h.1 1) 2 (some (h.1 4))
theorem c_newItem {h : AH} {S : SS} (c : RC h S) (w n : Nat) (hn : n ≤ 3) : TT 12 0 [rv 0 (some 0), iv (nI w), iv (nI n)] [] h 2 10 (fun x h' => x = some (rv 1 (some (ct S 3))) ∧ h' = niH h (nI (ct S 3 + 1)) (nI w) n) := by
  have e1 : h.1 1 = ct S 3 := c.c1
  refine TT.widen (k := (0 + 1 + 0) + 1) (n := (0 + n + 0) + (cT 1).2.2) (by omega) (by show 0 + n + 0 + 7 ≤ 10; omega) ?_
  rw [← e1]
  refine r_aload_n 1 d_12_0 rfl rfl ?_
  refine r_dup 2 d_12_1 rfl rfl ?_
  refine r_getI 5 0 9 (nI (h.1 1)) d_12_2 rfl fk_0_68 rfl (c.ct3.trans (by rw [e1])) ?_
  refine r_iconst 6 (nI 1) d_12_5 rfl (by decide) ?_
  refine r_iadd 7 (nI ((h.1 1) + 1)) d_12_6 rfl (nI_add (h.1 1) 1) ?_
  refine r_putI 10 0 9 d_12_7 rfl fk_0_68 (Or.inl rfl) rfl rfl rfl ?_
  refine r_new 13 1 d_12_10 rfl nk_0_18 ?_
  refine r_dup 14 d_12_13 rfl rfl ?_
  refine r_aload_n 15 d_12_14 rfl rfl ?_
  refine r_getI 18 0 9 (nI (h.1 1 + 1)) d_12_15 rfl fk_0_68 rfl rfl ?_
  refine r_iload_n 19 d_12_18 rfl rfl ?_
  refine r_iload_n 20 d_12_19 rfl rfl ?_
  refine r_callI (k1 := 0 + 1) (n1 := 0 + n) (k := 0) (n := 0) 23 0 1 [iv (nI (h.1 1 + 1)), iv (nI w), iv (nI n)] d_12_20 rfl mk_0 lk_0_71 mv_0 rfl rfl rfl rfl rfl _ (c_Item _ (h.1 1) (nI (h.1 1 + 1)) (nI w) n (by omega)) ?_
  intro r_20 h_20 q_20
  obtain ⟨q1, q2⟩ := q_20
  subst q1
  subst q2
  refine r_areturn d_12_23 rfl ?_
  exact ⟨rfl, rfl⟩
/-- the state behind newItem -/
def niS (S : SS) (w n : Nat) : SS := mkS (kd S) (us S) (lw S) (itm S) (ro S) (va_up (wd S) (ct S 3) w) (va_up (fd S) (ct S 3) (List.replicate n none)) (hm S) (so S) (cu S) (va_up (ct S) 3 (ct S 3 + 1))
theorem rc_ni {h : AH} {S : SS} (c : RC h S) (hm0 : ∀ o, o ∈ all S → o < ct S 3) (w n : Nat) : RC (niH h (nI (ct S 3 + 1)) (nI w) n) (niS S w n) := by
  have e1 : h.1 1 = ct S 3 := c.c1
  have e4 : h.1 4 = 14 + ct S 3 := c.c4
  have r4 : ∀ i k, i ≠ 14 + ct S 3 → hR (niH h (nI (ct S 3 + 1)) (nI w) n) 4 i k = hR h 4 i k := by
    intro i k hi
    exact wR_ne (h := (sI (sI (nw (sI h 0 0 9 (nI (ct S 3 + 1))) 1 0) 1 (h.1 1) 0 (nI (ct S 3 + 1))) 1 (h.1 1) 1 (nI w))) (s := 4) (n := n) (fun z => hi (z.trans e4))
  have l4 : ∀ i, i ≠ 14 + ct S 3 → hL (niH h (nI (ct S 3 + 1)) (nI w) n) 4 i = hL h 4 i := by
    intro i hi
    exact wL_ne (h := (sI (sI (nw (sI h 0 0 9 (nI (ct S 3 + 1))) 1 0) 1 (h.1 1) 0 (nI (ct S 3 + 1))) 1 (h.1 1) 1 (nI w))) (s := 4) (n := n) (fun z => hi (z.trans e4))
  have i1 : ∀ i k, i ≠ ct S 3 → hI (niH h (nI (ct S 3 + 1)) (nI w) n) 1 i k = hI h 1 i k := by
    intro i k hi
    show hI (sI (sI (nw (sI h 0 0 9 (nI (ct S 3 + 1))) 1 0) 1 (h.1 1) 0 (nI (ct S 3 + 1))) 1 (h.1 1) 1 (nI w)) 1 i k = _
    rw [hI_ne (by rw [e1]; exact hi), hI_ne (by rw [e1]; exact hi)]
    exact wI_ne (h := sI h 0 0 9 (nI (ct S 3 + 1))) (s := 1) (n := 0) (fun z => hi (z.trans e1))
  have r1 : ∀ i k, i ≠ ct S 3 → hR (niH h (nI (ct S 3 + 1)) (nI w) n) 1 i k = hR h 1 i k := by
    intro i k hi
    refine (hR_ne (s := 1) (i := h.1 1) (k := 2) (v := some (h.1 4)) (fun z => hi (z.trans e1)) k).trans ?_
    exact wR_ne (h := sI h 0 0 9 (nI (ct S 3 + 1))) (s := 1) (n := 0) (fun z => hi (z.trans e1))
  refine ⟨⟨c.st.1, ⟨c.st.2.1.1, c.st.2.1.2.1, ?_, ?_⟩, fun r hr => ⟨c.st.rat hr, c.st.idx hr, c.st.itm hr, ?_⟩, fun o ho => ?_⟩, fun r hr => ⟨c.kd hr, c.us hr, c.lw hr, c.ic hr, fun i o ho => ⟨?_, Nat.lt_succ_of_lt (c.ilt hr ho)⟩⟩, ⟨?_, ?_⟩, fun o ho => ?_, fun o ho => ?_, fun i hi => ?_, c.cu, c.ct0, c.ct1, c.ct2, rfl⟩
  · rw [l4 12 (by omega)]; exact c.st.2.1.2.2.1
  · rw [l4 13 (by omega)]; exact c.st.2.1.2.2.2
  · rw [l4 r (by omega)]; exact (c.st.2.2.1 r hr).2.2.2
  · have ho' : o < h.1 1 + 1 := ho
    by_cases e : o = ct S 3
    · subst e
      show hR (niH h (nI (ct S 3 + 1)) (nI w) n) 1 (ct S 3) 2 = _
      unfold niH
      rw [← e1, hR_at, e4, e1]
    · rw [r1 o 2 e]
      exact c.st.fld (by show o < h.1 1; omega)
  · rw [r4 r i (by omega)]; exact c.it hr ho
  · show h.1 1 + 1 = ct S 3 + 1
    rw [e1]
  · show h.1 4 + 1 = 14 + (ct S 3 + 1)
    rw [e4]; omega
  · have ho' : o < ct S 3 + 1 := ho
    show hI _ 1 o 0 = nI (o + 1) ∧ hI _ 1 o 1 = nI (va_up (wd S) (ct S 3) w o) ∧ hL _ 4 (14 + o) = (va_up (fd S) (ct S 3) (List.replicate n none) o).length ∧ ∀ f v, (va_up (fd S) (ct S 3) (List.replicate n none) o)[f]? = some v → hR _ 4 (14 + o) f = v
    by_cases e : o = ct S 3
    · subst e
      rw [va_up_self, va_up_self]
      refine ⟨?_, ?_, ?_, fun f v hf => ?_⟩
      · rw [← e1]
        show hI (sI (nw (sI h 0 0 9 (nI (h.1 1 + 1))) 1 0) 1 (h.1 1) 0 (nI (h.1 1 + 1))) 1 (h.1 1) 0 = _
        exact hI_at
      · rw [← e1]
        show hI (sI (sI (nw (sI h 0 0 9 (nI (h.1 1 + 1))) 1 0) 1 (h.1 1) 0 (nI (h.1 1 + 1))) 1 (h.1 1) 1 (nI w)) 1 (h.1 1) 1 = _
        exact hI_at
      · rw [List.length_replicate, ← e4]
        exact wL_at (h := (sI (sI (nw (sI h 0 0 9 (nI (ct S 3 + 1))) 1 0) 1 (h.1 1) 0 (nI (ct S 3 + 1))) 1 (h.1 1) 1 (nI w))) (s := 4) (n := n)
      · have := List.mem_of_getElem? hf
        rw [List.eq_of_mem_replicate this, ← e4]
        exact wR_at (h := (sI (sI (nw (sI h 0 0 9 (nI (ct S 3 + 1))) 1 0) 1 (h.1 1) 0 (nI (ct S 3 + 1))) 1 (h.1 1) 1 (nI w))) (s := 4) (n := n)
    · rw [va_up_ne _ _ e, va_up_ne _ _ e, i1 o 0 e, i1 o 1 e, l4 (14 + o) (by omega)]
      have hlt : o < ct S 3 := by omega
      exact ⟨c.no hlt, c.wd hlt, c.fl hlt, fun f v hf => by rw [r4 (14 + o) f (by omega)]; exact c.fd hlt hf⟩
  · have hlt := hm0 o ho
    rw [r1 o 3 (by omega), i1 o 4 (by omega)]
    exact ⟨c.hm ho, c.so ho⟩
  · rw [r4 12 i (by omega)]; exact c.ro hi
def roS (S : SS) (i : Nat) (v : Option Nat) : SS := mkS (kd S) (us S) (lw S) (itm S) (va_up (ro S) i v) (wd S) (fd S) (hm S) (so S) (cu S) (ct S)
theorem rc_ro {h : AH} {S : SS} (c : RC h S) (i : Nat) (v : Option Nat) : RC (sR h 4 12 i v) (roS S i v) := by
  refine ⟨ST_sR c.st rfl, fun r hr => ⟨c.kd hr, c.us hr, c.lw hr, c.ic hr, fun j o ho => ⟨?_, c.ilt hr ho⟩⟩, c.2.2.1, fun o ho => ⟨c.no ho, c.wd ho, c.fl ho, fun f v hf => ?_⟩, c.2.2.2.2.1, fun j hj => ?_, c.2.2.2.2.2.2⟩
  · rw [hR_ne (by omega)]; exact c.it hr ho
  · rw [hR_ne (by omega)]; exact c.fd ho hf
  · show hR _ 4 12 j = va_up (ro S) i v j
    by_cases e : j = i
    · subst e
      rw [va_up_self]; exact hR_at
    · rw [va_up_ne _ _ e, hR_nk e]; exact c.ro hj
def lvS (S : SS) (r : Nat) (x : Option Nat) : SS := mkS (kd S) (us S) (va_up (lw S) r x) (itm S) (ro S) (wd S) (fd S) (hm S) (so S) (cu S) (ct S)
/-- a small object of w words and n fields made in region r, held by root i -/
def mk1 (S : SS) (w n i r : Nat) : SS := roS (lvS (apS (niS S w n) r (ct S 3)) r none) i (some (ct S 3))
theorem c_make {h : AH} {S : SS} (c : RC h S) (v : IV S) {i n e : Nat} (hi : i < 6) (hn : n < 4) (he : e < 4) (vp : ∀ r, (plS S (2 + n + e)).1 = some r → r < 12 ∧ (itm (plS S (2 + n + e)).2 r).length < 8 ∧ IV (plS S (2 + n + e)).2) : TT 10 0 [rv 0 (some 0), iv (nI i), iv (nI n), iv (nI e), un, un, un] [] h 2 10 (fun x h' => plR S (2 + n + e) ∧ CF h h' ∧ (match (plS S (2 + n + e)).1 with
    | none => x = some (iv (-2)) ∧ RC h' (plS S (2 + n + e)).2
    | some r => x = some (iv (nI (ct (plS S (2 + n + e)).2 3 + 1))) ∧ RC h' (mk1 (plS S (2 + n + e)).2 (2 + n + e) n i r))) := by
  cases hp : (plS S (2 + n + e)).1 with
  | none =>
    refine TT.widen (k := 0) (n := 0) (by omega) (by omega) ?_
    refine r_iload_n 1 d_10_0 rfl rfl ?_
    refine r_callS (k1 := 0) (n1 := 0) (k := 0) (n := 0) 4 23 [iv (nI i)] d_10_1 rfl mk_23 lk_0_30 mv_23 rfl rfl rfl rfl _ (c_isRoot h (nI i)) ?_
    intro r_1 h_1 q_1
    obtain ⟨q1, q2⟩ := q_1
    subst q2
    rw [q1]
    show TT 10 4 [rv 0 (some 0), iv (nI i), iv (nI n), iv (nI e), un, un, un] [iv (bI (ix 6 (nI i)).isSome)] h _ _ _
    refine r_if_eq 23 7 d_10_4 (by decide) rfl (fun c_4 => absurd c_4 (by rw [ix_nI (by decide) hi]; exact bI_t0)) (fun c_4 => ?_)
    refine r_iload_n 8 d_10_7 rfl rfl ?_
    refine r_callS (k1 := 0) (n1 := 0) (k := 0) (n := 0) 11 25 [iv (nI n)] d_10_8 rfl mk_25 lk_0_34 mv_25 rfl rfl rfl rfl _ (c_isFieldCount h (nI n)) ?_
    intro r_8 h_8 q_8
    obtain ⟨q1, q2⟩ := q_8
    subst q2
    rw [q1]
    show TT 10 11 [rv 0 (some 0), iv (nI i), iv (nI n), iv (nI e), un, un, un] [iv (bI (ix 4 (nI n)).isSome)] h _ _ _
    refine r_if_eq 23 14 d_10_11 (by decide) rfl (fun c_11 => absurd c_11 (by rw [ix_nI (by decide) hn]; exact bI_t0)) (fun c_11 => ?_)
    refine r_iload_n 15 d_10_14 rfl rfl ?_
    refine r_if_lt 23 18 d_10_15 (by decide) rfl (fun c_15 => absurd c_15 (nI_pos (by omega))) (fun c_15 => ?_)
    refine r_iload_n 19 d_10_18 rfl rfl ?_
    refine r_iconst 20 (nI 3) d_10_19 rfl (by decide) ?_
    refine r_icmp_le 25 23 d_10_20 (by decide) rfl (fun c_20 => ?_) (fun c_20 => absurd (nI_le (by omega) (by decide)) c_20)
    refine r_iconst 26 (nI 2) d_10_25 rfl (by decide) ?_
    refine r_iload_n 27 d_10_26 rfl rfl ?_
    refine r_iadd 28 (nI (2 + n)) d_10_27 rfl (nI_add 2 n) ?_
    refine r_iload_n 29 d_10_28 rfl rfl ?_
    refine r_iadd 30 (nI ((2 + n) + e)) d_10_29 rfl (nI_add (2 + n) e) ?_
    refine r_istore 32 [rv 0 (some 0), iv (nI i), iv (nI n), iv (nI e), iv (nI ((2 + n) + e)), un, un] d_10_30 rfl rfl rfl ?_
    refine r_aload_n 33 d_10_32 rfl rfl ?_
    refine r_iload 35 d_10_33 rfl rfl ?_
    refine r_callV (k1 := 0) (n1 := 0) (k := 0) (n := 0) 38 13 0 [iv (nI ((2 + n) + e))] d_10_35 rfl mk_13 lk_0_37 mv_13 rfl rfl rfl rfl rfl _ (c_placeForSmall c v (by omega)) ?_
    intro r_35 h_35 q_35
    obtain ⟨q1, q2, q3, q4⟩ := q_35
    rw [hp] at q1
    subst q1
    show TT 10 38 [rv 0 (some 0), iv (nI i), iv (nI n), iv (nI e), iv (nI ((2 + n) + e)), un, un] [rv 2 none] h_35 _ _ _
    refine r_astore 40 [rv 0 (some 0), iv (nI i), iv (nI n), iv (nI e), iv (nI ((2 + n) + e)), rv 2 none, un] d_10_38 rfl rfl rfl ?_
    refine r_aload 42 d_10_40 rfl rfl ?_
    refine r_ifnonnull 48 45 d_10_42 (by decide) rfl (fun i_42 c_42 => absurd c_42 (by simp)) (fun c_42 => ?_)
    refine r_bipush 47 (-2) d_10_45 rfl (by decide) ?_
    refine r_ireturn d_10_47 rfl ?_
    exact ⟨q3, q4, rfl, q2⟩
  | some r =>
    obtain ⟨hr, hl8, v1⟩ := vp r hp
    refine r_iload_n 1 d_10_0 rfl rfl ?_
    refine r_callS (k1 := 0) (n1 := 0) (k := 2) (n := 10) 4 23 [iv (nI i)] d_10_1 rfl mk_23 lk_0_30 mv_23 rfl rfl rfl rfl _ (c_isRoot h (nI i)) ?_
    intro r_1 h_1 q_1
    obtain ⟨q1, q2⟩ := q_1
    subst q2
    rw [q1]
    show TT 10 4 [rv 0 (some 0), iv (nI i), iv (nI n), iv (nI e), un, un, un] [iv (bI (ix 6 (nI i)).isSome)] h _ _ _
    refine r_if_eq 23 7 d_10_4 (by decide) rfl (fun c_4 => absurd c_4 (by rw [ix_nI (by decide) hi]; exact bI_t0)) (fun c_4 => ?_)
    refine r_iload_n 8 d_10_7 rfl rfl ?_
    refine r_callS (k1 := 0) (n1 := 0) (k := 2) (n := 10) 11 25 [iv (nI n)] d_10_8 rfl mk_25 lk_0_34 mv_25 rfl rfl rfl rfl _ (c_isFieldCount h (nI n)) ?_
    intro r_8 h_8 q_8
    obtain ⟨q1, q2⟩ := q_8
    subst q2
    rw [q1]
    show TT 10 11 [rv 0 (some 0), iv (nI i), iv (nI n), iv (nI e), un, un, un] [iv (bI (ix 4 (nI n)).isSome)] h _ _ _
    refine r_if_eq 23 14 d_10_11 (by decide) rfl (fun c_11 => absurd c_11 (by rw [ix_nI (by decide) hn]; exact bI_t0)) (fun c_11 => ?_)
    refine r_iload_n 15 d_10_14 rfl rfl ?_
    refine r_if_lt 23 18 d_10_15 (by decide) rfl (fun c_15 => absurd c_15 (nI_pos (by omega))) (fun c_15 => ?_)
    refine r_iload_n 19 d_10_18 rfl rfl ?_
    refine r_iconst 20 (nI 3) d_10_19 rfl (by decide) ?_
    refine r_icmp_le 25 23 d_10_20 (by decide) rfl (fun c_20 => ?_) (fun c_20 => absurd (nI_le (by omega) (by decide)) c_20)
    refine r_iconst 26 (nI 2) d_10_25 rfl (by decide) ?_
    refine r_iload_n 27 d_10_26 rfl rfl ?_
    refine r_iadd 28 (nI (2 + n)) d_10_27 rfl (nI_add 2 n) ?_
    refine r_iload_n 29 d_10_28 rfl rfl ?_
    refine r_iadd 30 (nI ((2 + n) + e)) d_10_29 rfl (nI_add (2 + n) e) ?_
    refine r_istore 32 [rv 0 (some 0), iv (nI i), iv (nI n), iv (nI e), iv (nI ((2 + n) + e)), un, un] d_10_30 rfl rfl rfl ?_
    refine r_aload_n 33 d_10_32 rfl rfl ?_
    refine r_iload 35 d_10_33 rfl rfl ?_
    refine r_callV (k1 := 0) (n1 := 0) (k := 2) (n := 10) 38 13 0 [iv (nI ((2 + n) + e))] d_10_35 rfl mk_13 lk_0_37 mv_13 rfl rfl rfl rfl rfl _ (c_placeForSmall c v (by omega)) ?_
    intro r_35 h_35 q_35
    obtain ⟨q1, q2, q3, q4⟩ := q_35
    rw [hp] at q1
    subst q1
    generalize hS1 : (plS S (2 + n + e)).2 = S1 at q2 v1 hl8 ⊢
    show TT 10 38 [rv 0 (some 0), iv (nI i), iv (nI n), iv (nI e), iv (nI ((2 + n) + e)), un, un] [rv 2 (some r)] h_35 _ _ _
    refine r_astore 40 [rv 0 (some 0), iv (nI i), iv (nI n), iv (nI e), iv (nI ((2 + n) + e)), rv 2 (some r), un] d_10_38 rfl rfl rfl ?_
    refine r_aload 42 d_10_40 rfl rfl ?_
    refine r_ifnonnull 48 45 d_10_42 (by decide) rfl (fun i_42 c_42 => ?_) (fun c_42 => absurd c_42 (by simp))
    refine r_aload_n 49 d_10_48 rfl rfl ?_
    refine r_iload 51 d_10_49 rfl rfl ?_
    refine r_iload_n 52 d_10_51 rfl rfl ?_
    refine r_callV (k1 := 2) (n1 := 10) (k := 0) (n := 0) 55 12 0 [iv (nI ((2 + n) + e)), iv (nI n)] d_10_52 rfl mk_12 lk_0_41 mv_12 rfl rfl rfl rfl rfl _ (c_newItem q2 (2 + n + e) n (by omega)) ?_
    intro r_52 h_52 q_52
    obtain ⟨p1, p2⟩ := q_52
    subst p1
    subst p2
    have c2 := rc_ni q2 v1.2.2.2.2.2.1 (2 + n + e) n
    have hlt : ct S1 3 < ct (niS S1 (2 + n + e) n) 3 := Nat.lt_succ_self _
    show TT 10 55 [rv 0 (some 0), iv (nI i), iv (nI n), iv (nI e), iv (nI ((2 + n) + e)), rv 2 (some r), un] [rv 1 (some (ct S1 3))] (niH h_35 (nI (ct S1 3 + 1)) (nI (2 + n + e)) n) _ _ _
    refine r_astore 57 [rv 0 (some 0), iv (nI i), iv (nI n), iv (nI e), iv (nI ((2 + n) + e)), rv 2 (some r), rv 1 (some (ct S1 3))] d_10_55 rfl rfl rfl ?_
    refine r_aload 59 d_10_57 rfl rfl ?_
    refine r_aload 61 d_10_59 rfl rfl ?_
    refine r_callV (k1 := 0) (n1 := 0) (k := 0) (n := 0) 64 5 2 [rv 1 (some (ct S1 3))] d_10_61 rfl mk_5 lk_0_45 mv_5 rfl rfl rfl rfl rfl _ (c_append _ r (ct S1 3) (itm S1 r).length c2.st hr (c2.ic hr) hl8) ?_
    intro r_61 h_61 q_61
    obtain ⟨p1, p2⟩ := q_61
    subst p1
    subst p2
    have c3 := rc_25 (rc_ap c2 hr hlt) r none
    show TT 10 64 [rv 0 (some 0), iv (nI i), iv (nI n), iv (nI e), iv (nI ((2 + n) + e)), rv 2 (some r), rv 1 (some (ct S1 3))] [] (apH (niH h_35 (nI (ct S1 3 + 1)) (nI (2 + n + e)) n) r (ct S1 3) (itm S1 r).length) _ _ _
    refine r_aload 66 d_10_64 rfl rfl ?_
    refine r_iconst 67 (-1) d_10_66 rfl (by decide) ?_
    refine r_putI 70 2 5 d_10_67 rfl fk_0_49 (Or.inl rfl) rfl rfl rfl ?_
    refine r_aload_n 71 d_10_70 rfl rfl ?_
    refine r_getR 74 0 1 4 (some 12) d_10_71 rfl fk_0_20 rfl (by decide) c3.st.roo ?_
    refine r_iload_n 75 d_10_74 rfl rfl ?_
    refine r_aload 77 d_10_75 rfl rfl ?_
    refine r_aast 78 4 1 i d_10_77 rfl (Or.inl ⟨rfl, rfl⟩) rfl (c3.st.lro hi) ?_
    refine r_aload 80 d_10_78 rfl rfl ?_
    refine r_getI 83 1 0 (nI (ct S1 3 + 1)) d_10_80 rfl fk_0_53 rfl (c2.no hlt) ?_
    refine r_ireturn d_10_83 rfl ?_
    exact ⟨q3, CF_sR (CF_sI (cf_ap (CF_sR (CF_nw (CF_sI (CF_sI (CF_nw (CF_sI q4 rfl) rfl) rfl) rfl) rfl) rfl)) rfl) rfl, rfl, rc_ro c3 i (some (ct S1 3))⟩
