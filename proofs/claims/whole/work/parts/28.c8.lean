/-! contracts of the class: clearing and appending, as the state sees it -/
def clS (S : SS) (r : Nat) : SS := mkS (va_up (kd S) r 0) (va_up (us S) r 0) (va_up (lw S) r none) (va_up (itm S) r []) (ro S) (wd S) (fd S) (hm S) (so S) (cu S) (ct S)
def apS (S : SS) (r o : Nat) : SS := mkS (kd S) (va_up (us S) r (us S r + wd S o)) (lw S) (va_up (itm S) r (itm S r ++ [o])) (ro S) (wd S) (fd S) (va_up (hm S) o r) (va_up (so S) o (us S r)) (cu S) (ct S)
theorem hI_at {h : AH} {s i k : Nat} {v : Int32} : hI (sI h s i k v) s i k = v := by rw [hI_sI, if_pos ⟨rfl, rfl, rfl⟩]
theorem hI_ne {h : AH} {s i k i' : Nat} {v : Int32} (hi : i' ≠ i) (k' : Nat) : hI (sI h s i k v) s i' k' = hI h s i' k' := by
  rw [hI_sI, if_neg (fun z => hi z.2.2)]
theorem all_cl {S : SS} {r o : Nat} (h : o ∈ all (clS S r)) : o ∈ all S := by
  obtain ⟨r', h1, h2⟩ := mem_all.mp h
  refine mem_all.mpr ⟨r', h1, ?_⟩
  have h3 : o ∈ va_up (itm S) r [] r' := h2
  unfold va_up at h3
  split at h3
  · cases h3
  · exact h3
theorem rc_cl {h : AH} {S : SS} (c : RC h S) (r : Nat) : RC (clH h r) (clS S r) := by
  refine ⟨ST_sI (ST_sI (ST_sI (ST_sI c.st rfl) rfl) rfl) rfl, fun r' hr => ?_, c.2.2.1, c.2.2.2.1, fun o ho => c.2.2.2.2.1 o (all_cl ho), c.2.2.2.2.2⟩
  by_cases e : r' = r
  · subst e
    refine ⟨?_, ?_, ?_, ?_, fun i o ho => ?_⟩
    · show _ = nI (va_up (kd S) r' 0 r'); rw [va_up_self]; exact hI_at
    · show _ = nI (va_up (us S) r' 0 r'); rw [va_up_self]; exact hI_at
    · show _ = ol (va_up (lw S) r' none r'); rw [va_up_self]; exact hI_at
    · show _ = nI (va_up (itm S) r' [] r').length; rw [va_up_self]; exact hI_at
    · have ho' : (va_up (itm S) r' [] r')[i]? = some o := ho
      rw [va_up_self] at ho'
      cases ho'
  · refine ⟨?_, ?_, ?_, ?_, fun i o ho => ?_⟩
    · show _ = nI (va_up (kd S) r 0 r'); rw [va_up_ne _ _ e]; exact (hI_ne (h := h) (k := 3) (v := nI 0) e 3).trans (c.kd hr)
    · show _ = nI (va_up (us S) r 0 r'); rw [va_up_ne _ _ e]; exact (hI_ne (h := h) (k := 4) (v := nI 0) e 4).trans (c.us hr)
    · show _ = ol (va_up (lw S) r none r'); rw [va_up_ne _ _ e]; exact (hI_ne (h := h) (k := 5) (v := -1) e 5).trans (c.lw hr)
    · show _ = nI (va_up (itm S) r [] r').length; rw [va_up_ne _ _ e]; exact (hI_ne e _).trans (c.ic hr)
    · have ho' : (va_up (itm S) r [] r')[i]? = some o := ho
      rw [va_up_ne _ _ e] at ho'
      exact (c.2.1 r' hr).2.2.2.2 i o ho'
theorem all_ap {S : SS} {r o o' : Nat} (h : o' ∈ all (apS S r o)) : o' = o ∨ o' ∈ all S := by
  obtain ⟨r', h1, h2⟩ := mem_all.mp h
  have h3 : o' ∈ va_up (itm S) r (itm S r ++ [o]) r' := h2
  unfold va_up at h3
  split at h3
  · next e =>
    rcases List.mem_append.mp h3 with q | q
    · exact Or.inr (mem_all.mpr ⟨r', h1, by rw [e]; exact q⟩)
    · simp at q; exact Or.inl q
  · exact Or.inr (mem_all.mpr ⟨r', h1, h3⟩)
theorem rc_ap {h : AH} {S : SS} (c : RC h S) {r o : Nat} (hr0 : r < 12) (ho0 : o < ct S 3) : RC (apH h r o (itm S r).length) (apS S r o) := by
  have hu : hI h 2 r 4 = nI (us S r) := c.us hr0
  have hwd : hI h 1 o 1 = nI (wd S o) := c.wd ho0
  refine ⟨ST_sI (ST_sI (ST_sR (ST_sI (ST_sR c.st rfl) rfl) rfl) rfl) rfl, fun r' hr => ?_, c.2.2.1, fun o' ho' => ⟨c.no ho', c.wd ho', c.fl ho', fun f v hf => ?_⟩, fun o' ho' => ?_, fun i hi => ?_, c.2.2.2.2.2.2⟩
  · by_cases e : r' = r
    · subst e
      refine ⟨c.kd hr, ?_, c.lw hr, ?_, fun i x hx => ?_⟩
      · show _ = nI (va_up (us S) r' (us S r' + wd S o) r')
        rw [va_up_self, ← nI_add, ← hu, ← hwd]; exact hI_at
      · show _ = nI (va_up (itm S) r' (itm S r' ++ [o]) r').length
        rw [va_up_self, List.length_append]; exact hI_at
      · have hx' : (va_up (itm S) r' (itm S r' ++ [o]) r')[i]? = some x := hx
        rw [va_up_self] at hx'
        by_cases hl : i < (itm S r').length
        · rw [List.getElem?_append_left hl] at hx'
          exact ⟨(hR_nk (by omega) _).trans (c.it hr hx'), c.ilt hr hx'⟩
        · rw [List.getElem?_append_right (by omega)] at hx'
          have hz : i - (itm S r').length = 0 := by have := (List.getElem?_eq_some_iff.mp hx').1; simp at this; omega
          rw [hz] at hx'
          cases hx'
          obtain rfl : i = (itm S r').length := by omega
          exact ⟨hR_at, ho0⟩
    · refine ⟨c.kd hr, ?_, c.lw hr, ?_, fun i x hx => ?_⟩
      · show _ = nI (va_up (us S) r (us S r + wd S o) r')
        rw [va_up_ne _ _ e]; exact (hI_ne e _).trans (c.us hr)
      · show _ = nI (va_up (itm S) r (itm S r ++ [o]) r').length
        rw [va_up_ne _ _ e]; exact (hI_ne (h := h) (s := 2) (i := r) (k := 2) (v := nI ((itm S r).length + 1)) e 2).trans (c.ic hr)
      · have hx' : (va_up (itm S) r (itm S r ++ [o]) r')[i]? = some x := hx
        rw [va_up_ne _ _ e] at hx'
        exact ⟨(hR_ne e _).trans (c.it hr hx'), c.ilt hr hx'⟩
  · exact (hR_ne (by omega) _).trans (c.fd ho' hf)
  · show hR (sR h 1 o 3 (some r)) 1 o' 3 = some (va_up (hm S) o r o') ∧ hI (sI (sR h 1 o 3 (some r)) 1 o 4 (hI h 2 r 4)) 1 o' 4 = nI (va_up (so S) o (us S r) o')
    by_cases e : o' = o
    · subst e
      rw [va_up_self, va_up_self]
      exact ⟨hR_at, hI_at.trans hu⟩
    · rw [va_up_ne _ _ e, va_up_ne _ _ e]
      have hm' : o' ∈ all S := (all_ap ho').resolve_left e
      exact ⟨(hR_ne e _).trans (c.hm hm'), (hI_ne e _).trans (c.so hm')⟩
  · exact (hR_ne (by omega) _).trans (c.ro hi)
/-- a region filled by a full collection is an old one, all of it live -/
def olS (S : SS) (r : Nat) : SS := mkS (va_up (kd S) r 3) (us S) (va_up (lw S) r (some (us S r))) (itm S) (ro S) (wd S) (fd S) (hm S) (so S) (cu S) (ct S)
theorem rc_ol {h : AH} {S : SS} (c : RC h S) (r : Nat) : RC (sI (sI h 2 r 3 (nI 3)) 2 r 5 (nI (us S r))) (olS S r) := by
  refine ⟨ST_sI (ST_sI c.st rfl) rfl, fun r' hr => ?_, c.2.2⟩
  by_cases e : r' = r
  · subst e
    refine ⟨?_, c.us hr, ?_, c.ic hr, (c.2.1 r' hr).2.2.2.2⟩
    · show _ = nI (va_up (kd S) r' 3 r'); rw [va_up_self]; exact hI_at
    · show _ = ol (va_up (lw S) r' (some (us S r')) r'); rw [va_up_self]; exact hI_at
  · refine ⟨?_, c.us hr, ?_, c.ic hr, (c.2.1 r' hr).2.2.2.2⟩
    · show _ = nI (va_up (kd S) r 3 r'); rw [va_up_ne _ _ e]; exact (hI_ne (h := h) (k := 3) (v := nI 3) e 3).trans (c.kd hr)
    · show _ = ol (va_up (lw S) r (some (us S r)) r'); rw [va_up_ne _ _ e]; exact (hI_ne e _).trans (c.lw hr)
theorem FD_push {h : AH} {gl : List Nat} (f : FD h gl) (o : Nat) : FD (sI (sR h 4 13 gl.length (some o)) 0 0 3 (nI (gl.length + 1))) (gl ++ [o]) := by
  refine ⟨?_, fun i x hi => ?_⟩
  · show nI (gl.length + 1) = _
    rw [List.length_append]; rfl
  · by_cases hl : i < gl.length
    · rw [List.getElem?_append_left hl] at hi
      exact (hR_nk (by omega) _).trans (f.2 i x hi)
    · rw [List.getElem?_append_right (by omega)] at hi
      have hz : i - gl.length = 0 := by have := (List.getElem?_eq_some_iff.mp hi).1; simp at this; omega
      rw [hz] at hi
      cases hi
      obtain rfl : i = gl.length := by omega
      exact hR_at
theorem take_filter {l fl : List Nat} {i o : Nat} (h : l[i]? = some o) : (l.take (i + 1)).filter (rin fl) = (l.take i).filter (rin fl) ++ (if rin fl o = true then [o] else []) := by
  rw [List.take_succ, h, List.filter_append]
  simp only [Option.toList, List.filter_cons, List.filter_nil]
theorem c_takeUpReached {h : AH} {S : SS} {fl gl : List Nat} (c : RC h S) (f : RF h S fl) (g : FD h gl) {r : Nat} (hr : r < 12) (hl8 : (itm S r).length ≤ 8) (hg : gl.length + (itm S r).length ≤ 96) : TT 50 0 [rv 0 (some 0), rv 2 (some r), un] [] h 0 0 (fun x h' => x = none ∧ RC h' S ∧ (∀ o, hI h' 1 o 5 = hI h 1 o 5) ∧ FD h' (gl ++ (itm S r).filter (rin fl)) ∧ CF h h') := by
  have loop : ∀ n i h1, i + n = (itm S r).length → RC h1 S → (∀ o, hI h1 1 o 5 = hI h 1 o 5) → FD h1 (gl ++ ((itm S r).take i).filter (rin fl)) → CF h h1 → TT 50 2 [rv 0 (some 0), rv 2 (some r), iv (nI i)] [] h1 0 0 (fun x h' => x = none ∧ RC h' S ∧ (∀ o, hI h' 1 o 5 = hI h 1 o 5) ∧ FD h' (gl ++ (itm S r).filter (rin fl)) ∧ CF h h') := by
    intro n
    induction n with
    | zero =>
      intro i h1 hi c1 f1 g1 cf
      obtain rfl : i = (itm S r).length := by omega
      rw [List.take_length] at g1
      refine r_iload_n 3 d_50_2 rfl rfl ?_
      refine r_aload_n 4 d_50_3 rfl rfl ?_
      refine r_getI 7 2 2 (nI (itm S r).length) d_50_4 rfl fk_0_153 rfl (c1.ic hr) ?_
      refine r_icmp_ge 53 10 d_50_7 (by decide) rfl (fun c_7 => ?_) (fun c_7 => absurd (nI_le (Nat.le_refl _) (by omega)) c_7)
      refine r_return d_50_53 rfl ?_
      exact ⟨rfl, c1, f1, g1, cf⟩
    | succ n ih =>
      intro i h1 hi c1 f1 g1 cf
      have hi8 : i < 8 := by omega
      obtain ⟨o, ho⟩ := at_lt (l := itm S r) (i := i) (by omega)
      have hoa := mem_it hr ho
      have hgl : (gl ++ ((itm S r).take i).filter (rin fl)).length < 96 := by
        have h1 := List.length_filter_le (rin fl) ((itm S r).take i)
        have h2 := List.length_take_le i (itm S r)
        rw [List.length_append]
        omega
      have e1 := take_filter (fl := fl) ho
      refine r_iload_n 3 d_50_2 rfl rfl ?_
      refine r_aload_n 4 d_50_3 rfl rfl ?_
      refine r_getI 7 2 2 (nI (itm S r).length) d_50_4 rfl fk_0_153 rfl (c1.ic hr) ?_
      refine r_icmp_ge 53 10 d_50_7 (by decide) rfl (fun c_7 => absurd c_7 (nI_ge (by omega) (by omega))) (fun c_7 => ?_)
      refine r_aload_n 11 d_50_10 rfl rfl ?_
      refine r_getR 14 2 1 4 (some r) d_50_11 rfl fk_0_156 rfl (by decide) (ST.itm c1.st hr) ?_
      refine r_iload_n 15 d_50_14 rfl rfl ?_
      refine r_aald 16 4 1 i (some o) d_50_15 rfl (Or.inl ⟨rfl, rfl⟩) rfl (ST.lit c1.st hr hi8) (c1.it hr ho) ?_
      refine r_getI 19 1 5 (bI (rin fl o)) d_50_16 rfl fk_0_231 rfl ((f1 o).trans (f o hoa)) ?_
      refine r_if_eq 47 22 d_50_19 (by decide) rfl (fun c_19 => ?_) (fun c_19 => ?_)
      · skip
        refine r_iinc 50 (nI (i + 1)) [rv 0 (some 0), rv 2 (some r), iv (nI (i + 1))] d_50_47 rfl rfl (nI_1 i) rfl rfl ?_
        refine r_goto 2 d_50_50 (by decide) ?_
        first
        | (refine ih (i + 1) h1 (by omega) c1 f1 ?_ cf; rw [e1, bI_0 c_19, if_neg Bool.false_ne_true, List.append_nil]; exact g1)
        | (refine ih (i + 1) _ (by omega) (rc_03 (rc_413 c1 _ _) _) f1 ?_ (CF_sI (CF_sR cf rfl) rfl); rw [e1, bI_1 c_19, if_pos rfl, ← List.append_assoc]; exact FD_push g1 o)
      · skip
        refine r_aload_n 23 d_50_22 rfl rfl ?_
        refine r_getR 26 0 2 4 (some 13) d_50_23 rfl fk_0_24 rfl (by decide) (ST.fnd c1.st) ?_
        refine r_aload_n 27 d_50_26 rfl rfl ?_
        refine r_getI 30 0 3 (nI (gl ++ ((itm S r).take i).filter (rin fl)).length) d_50_27 rfl fk_0_140 rfl g1.1 ?_
        refine r_aload_n 31 d_50_30 rfl rfl ?_
        refine r_getR 34 2 1 4 (some r) d_50_31 rfl fk_0_156 rfl (by decide) (ST.itm c1.st hr) ?_
        refine r_iload_n 35 d_50_34 rfl rfl ?_
        refine r_aald 36 4 1 i (some o) d_50_35 rfl (Or.inl ⟨rfl, rfl⟩) rfl (ST.lit c1.st hr hi8) (c1.it hr ho) ?_
        refine r_aast 37 4 1 ((gl ++ ((itm S r).take i).filter (rin fl)).length) d_50_36 rfl (Or.inl ⟨rfl, rfl⟩) rfl (ST.lfn c1.st hgl) ?_
        refine r_aload_n 38 d_50_37 rfl rfl ?_
        refine r_dup 39 d_50_38 rfl rfl ?_
        refine r_getI 42 0 3 (nI (gl ++ ((itm S r).take i).filter (rin fl)).length) d_50_39 rfl fk_0_140 rfl g1.1 ?_
        refine r_iconst 43 (nI 1) d_50_42 rfl (by decide) ?_
        refine r_iadd 44 (nI (((gl ++ ((itm S r).take i).filter (rin fl)).length) + 1)) d_50_43 rfl (nI_add ((gl ++ ((itm S r).take i).filter (rin fl)).length) 1) ?_
        refine r_putI 47 0 3 d_50_44 rfl fk_0_140 (Or.inl rfl) rfl rfl rfl ?_
        refine r_iinc 50 (nI (i + 1)) [rv 0 (some 0), rv 2 (some r), iv (nI (i + 1))] d_50_47 rfl rfl (nI_1 i) rfl rfl ?_
        refine r_goto 2 d_50_50 (by decide) ?_
        first
        | (refine ih (i + 1) h1 (by omega) c1 f1 ?_ cf; rw [e1, bI_0 c_19, if_neg Bool.false_ne_true, List.append_nil]; exact g1)
        | (refine ih (i + 1) _ (by omega) (rc_03 (rc_413 c1 _ _) _) f1 ?_ (CF_sI (CF_sR cf rfl) rfl); rw [e1, bI_1 c_19, if_pos rfl, ← List.append_assoc]; exact FD_push g1 o)
  refine r_iconst 1 (nI 0) d_50_0 rfl (by decide) ?_
  refine r_istore_n 2 [rv 0 (some 0), rv 2 (some r), iv (nI 0)] d_50_1 rfl rfl rfl ?_
  exact loop _ 0 h (Nat.zero_add _) c (fun _ => rfl) (by simpa using g) (CF.rf h)
