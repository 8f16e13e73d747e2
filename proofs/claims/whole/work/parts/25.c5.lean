/-! contracts of the class: the search for what is reached -/
theorem at_lt {l : List Nat} {i : Nat} (h : i < l.length) : ∃ o, l[i]? = some o := ⟨l[i], List.getElem?_eq_getElem h⟩
theorem mem_it {S : SS} {r i o : Nat} (hr : r < 12) (h : (itm S r)[i]? = some o) : o ∈ all S := mem_all.mpr ⟨r, hr, List.mem_of_getElem? h⟩
theorem keep0 {h : AH} {o o' : Nat} (e : hI h 1 o' 5 = nI 0) : hI (sI h 1 o 5 (nI 0)) 1 o' 5 = nI 0 := by
  rw [hI_sI]
  split
  · rfl
  · exact e
theorem at0 {h : AH} {o : Nat} : hI (sI h 1 o 5 (nI 0)) 1 o 5 = nI 0 := by rw [hI_sI, if_pos ⟨rfl, rfl, rfl⟩]
theorem c_forgetReached {h : AH} {S : SS} (c : RC h S) (b : BD S) : TT 45 0 [rv 0 (some 0), un, un] [] h 0 0 (fun x h' => x = none ∧ RC h' S ∧ FR h' S [] ∧ CF h h') := by
  have loop : ∀ n r h1, r + n = 12 → RC h1 S → hI h1 0 0 3 = nI 0 → (∀ r' o, r' < r → o ∈ itm S r' → hI h1 1 o 5 = nI 0) → CF h h1 → ∀ v, TT 45 7 [rv 0 (some 0), iv (nI r), v] [] h1 0 0 (fun x h' => x = none ∧ RC h' S ∧ FR h' S [] ∧ CF h h') := by
    intro n
    induction n with
    | zero =>
      intro r h1 hr c1 hf hz cf v
      obtain rfl : r = 12 := by omega
      refine TT.forget 2 (ls' := [rv 0 (some 0), iv (nI 12), un]) rfl ?_
      refine r_iload_n 8 d_45_7 rfl rfl ?_
      refine r_bipush 10 (nI 12) d_45_8 rfl (by decide) ?_
      refine r_icmp_ge 55 13 d_45_10 (by decide) rfl (fun c_10 => ?_) (fun c_10 => absurd (nI_le (Nat.le_refl _) (by decide)) c_10)
      refine r_return d_45_55 rfl ?_
      refine ⟨rfl, c1, ⟨⟨hf, fun i o hi => by cases hi⟩, fun o ho => ?_, List.nodup_nil, fun o ho => by cases ho⟩, cf⟩
      obtain ⟨r, h1, h2⟩ := mem_all.mp ho
      exact (hz r o h1 h2).trans (by simp [bI])
    | succ n ih =>
      intro r h1 hr c1 hf hz cf v
      have hr12 : r < 12 := by omega
      have inner : ∀ m i h2, i + m = (itm S r).length → RC h2 S → hI h2 0 0 3 = nI 0 → (∀ r' o, r' < r → o ∈ itm S r' → hI h2 1 o 5 = nI 0) → (∀ j o, j < i → (itm S r)[j]? = some o → hI h2 1 o 5 = nI 0) → CF h h2 → TT 45 15 [rv 0 (some 0), iv (nI r), iv (nI i)] [] h2 0 0 (fun x h' => x = none ∧ RC h' S ∧ FR h' S [] ∧ CF h h') := by
        intro m
        have hl8 := b.it hr12
        induction m with
        | zero =>
          intro i h2 hi c2 hf hz hzi cf
          refine r_iload_n 16 d_45_15 rfl rfl ?_
          refine r_aload_n 17 d_45_16 rfl rfl ?_
          refine r_getR 20 0 0 5 (some 0) d_45_17 rfl fk_0_11 rfl (by decide) (ST.reg c2.st) ?_
          refine r_iload_n 21 d_45_20 rfl rfl ?_
          refine r_aald 22 5 2 r (some r) d_45_21 rfl (Or.inr ⟨rfl, rfl⟩) rfl (ST.l50 c2.st hr12) (ST.rat c2.st hr12) ?_
          refine r_getI 25 2 2 (nI (itm S r).length) d_45_22 rfl fk_0_153 rfl (c2.ic hr12) ?_
          refine r_icmp_ge 49 28 d_45_25 (by decide) rfl (fun c_25 => ?_) (fun c_25 => absurd (nI_le (by omega) (by omega)) c_25)
          refine r_iinc 52 (nI (r + 1)) [rv 0 (some 0), iv (nI (r + 1)), iv (nI i)] d_45_49 rfl rfl (nI_1 r) rfl rfl ?_
          refine r_goto 7 d_45_52 (by decide) ?_
          refine ih (r + 1) h2 (by omega) c2 hf (fun r' o hr' ho => ?_) cf _
          rcases Nat.lt_or_ge r' r with q | q
          · exact hz r' o q ho
          · obtain rfl : r' = r := by omega
            obtain ⟨j, hj⟩ := List.getElem?_of_mem ho
            exact hzi j o (by have := (List.getElem?_eq_some_iff.mp hj).1; omega) hj
        | succ m ihm =>
          intro i h2 hi c2 hf hz hzi cf
          obtain ⟨o, ho⟩ := at_lt (l := itm S r) (i := i) (by omega)
          have hi8 : i < 8 := by omega
          refine r_iload_n 16 d_45_15 rfl rfl ?_
          refine r_aload_n 17 d_45_16 rfl rfl ?_
          refine r_getR 20 0 0 5 (some 0) d_45_17 rfl fk_0_11 rfl (by decide) (ST.reg c2.st) ?_
          refine r_iload_n 21 d_45_20 rfl rfl ?_
          refine r_aald 22 5 2 r (some r) d_45_21 rfl (Or.inr ⟨rfl, rfl⟩) rfl (ST.l50 c2.st hr12) (ST.rat c2.st hr12) ?_
          refine r_getI 25 2 2 (nI (itm S r).length) d_45_22 rfl fk_0_153 rfl (c2.ic hr12) ?_
          refine r_icmp_ge 49 28 d_45_25 (by decide) rfl (fun c_25 => absurd c_25 (nI_ge (by omega) (by omega))) (fun c_25 => ?_)
          refine r_aload_n 29 d_45_28 rfl rfl ?_
          refine r_getR 32 0 0 5 (some 0) d_45_29 rfl fk_0_11 rfl (by decide) (ST.reg c2.st) ?_
          refine r_iload_n 33 d_45_32 rfl rfl ?_
          refine r_aald 34 5 2 r (some r) d_45_33 rfl (Or.inr ⟨rfl, rfl⟩) rfl (ST.l50 c2.st hr12) (ST.rat c2.st hr12) ?_
          refine r_getR 37 2 1 4 (some r) d_45_34 rfl fk_0_156 rfl (by decide) (ST.itm c2.st hr12) ?_
          refine r_iload_n 38 d_45_37 rfl rfl ?_
          refine r_aald 39 4 1 i (some o) d_45_38 rfl (Or.inl ⟨rfl, rfl⟩) rfl (ST.lit c2.st hr12 hi8) (c2.it hr12 ho) ?_
          refine r_iconst 40 (nI 0) d_45_39 rfl (by decide) ?_
          refine r_putI 43 1 5 d_45_40 rfl fk_0_231 (Or.inl rfl) rfl rfl rfl ?_
          refine r_iinc 46 (nI (i + 1)) [rv 0 (some 0), iv (nI r), iv (nI (i + 1))] d_45_43 rfl rfl (nI_1 i) rfl rfl ?_
          refine r_goto 15 d_45_46 (by decide) ?_
          refine ihm (i + 1) _ (by omega) (rc_15 c2 o (nI 0)) hf (fun r' o' hr' ho' => keep0 (hz r' o' hr' ho')) (fun j o' hj ho' => ?_) (CF_sI cf rfl)
          rcases Nat.lt_or_ge j i with q | q
          · exact keep0 (hzi j o' q ho')
          · obtain rfl : j = i := by omega
            cases ho.symm.trans ho'
            exact at0
      refine TT.forget 2 (ls' := [rv 0 (some 0), iv (nI r), un]) rfl ?_
      refine r_iload_n 8 d_45_7 rfl rfl ?_
      refine r_bipush 10 (nI 12) d_45_8 rfl (by decide) ?_
      refine r_icmp_ge 55 13 d_45_10 (by decide) rfl (fun c_10 => absurd c_10 (nI_ge hr12 (by decide))) (fun c_10 => ?_)
      refine r_iconst 14 (nI 0) d_45_13 rfl (by decide) ?_
      refine r_istore_n 15 [rv 0 (some 0), iv (nI r), iv (nI 0)] d_45_14 rfl rfl rfl ?_
      exact inner (itm S r).length 0 h1 (by omega) c1 hf hz (fun j o hj => absurd hj (Nat.not_lt_zero j)) cf
  refine r_aload_n 1 d_45_0 rfl rfl ?_
  refine r_iconst 2 (nI 0) d_45_1 rfl (by decide) ?_
  refine r_putI 5 0 3 d_45_2 rfl fk_0_140 (Or.inl rfl) rfl rfl rfl ?_
  refine r_iconst 6 (nI 0) d_45_5 rfl (by decide) ?_
  refine r_istore_n 7 [rv 0 (some 0), iv (nI 0), un] d_45_6 rfl rfl rfl ?_
  exact loop 12 0 _ rfl (rc_03 c _) rfl (fun r' o hr' => absurd hr' (Nat.not_lt_zero r')) (CF_sI (CF.rf h) rfl) un
