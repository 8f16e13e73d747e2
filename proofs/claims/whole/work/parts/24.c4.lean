/-! contracts of the class: what is reached -/
theorem rc_15 {h : AH} {S : SS} (c : RC h S) (i : Nat) (v : Int32) : RC (sI h 1 i 5 v) S := c
theorem rc_03 {h : AH} {S : SS} (c : RC h S) (v : Int32) : RC (sI h 0 0 3 v) S := c
theorem hR_ne {h : AH} {s i k i' : Nat} {v : Option Nat} (hi : i' ≠ i) (k' : Nat) : hR (sR h s i k v) s i' k' = hR h s i' k' := by
  rw [hR_sR, if_neg (fun z => hi z.2.2)]
theorem hR_at {h : AH} {s i k : Nat} {v : Option Nat} : hR (sR h s i k v) s i k = v := by
  rw [hR_sR, if_pos ⟨rfl, rfl, rfl⟩]
theorem hR_nk {h : AH} {s i k k' : Nat} {v : Option Nat} (hk : k' ≠ k) (i' : Nat) : hR (sR h s i k v) s i' k' = hR h s i' k' := by
  rw [hR_sR, if_neg (fun z => hk z.2.1)]
theorem rc_413 {h : AH} {S : SS} (c : RC h S) (j : Nat) (v : Option Nat) : RC (sR h 4 13 j v) S := by
  refine ⟨ST_sR c.st rfl, fun r hr => ⟨c.kd hr, c.us hr, c.lw hr, c.ic hr, fun i o ho => ⟨?_, c.ilt hr ho⟩⟩, c.2.2.1, fun o ho => ⟨c.no ho, c.wd ho, c.fl ho, fun f v hf => ?_⟩, c.2.2.2.2.1, fun i hi => ?_, c.2.2.2.2.2.2⟩
  · rw [hR_ne (by omega)]; exact c.it hr ho
  · rw [hR_ne (by omega)]; exact c.fd ho hf
  · rw [hR_ne (by omega)]; exact c.ro hi
/-- the list in found -/
def FD (h : AH) (fl : List Nat) : Prop := hI h 0 0 3 = nI fl.length ∧ ∀ i o, fl[i]? = some o → hR h 4 13 i = some o
/-- the flags say what is in the list -/
def RF (h : AH) (S : SS) (fl : List Nat) : Prop := ∀ o, o ∈ all S → hI h 1 o 5 = bI (decide (o ∈ fl))
def add (fl : List Nat) (o : Option Nat) : List Nat := match o with
  | none => fl
  | some x => if x ∈ fl then fl else fl ++ [x]
theorem nodup_len : ∀ (l m : List Nat), l.Nodup → (∀ x ∈ l, x ∈ m) → l.length ≤ m.length
  | [], _, _, _ => Nat.zero_le _
  | a :: l, m, hn, hs => by
    have ha : a ∈ m := hs a List.mem_cons_self
    have hn2 := List.nodup_cons.mp hn
    have h1 := nodup_len l (m.erase a) hn2.2 (fun x hx => by
      have hxa : x ≠ a := fun z => hn2.1 (z ▸ hx)
      exact (List.mem_erase_of_ne hxa).mpr (hs x (List.mem_cons_of_mem _ hx)))
    have h2 := List.length_erase_of_mem ha
    have h3 := List.length_pos_of_mem ha
    simp only [List.length_cons]
    omega
theorem add_mem {fl : List Nat} {o : Option Nat} {x : Nat} : x ∈ add fl o ↔ x ∈ fl ∨ o = some x := by
  cases o with
  | none => simp [add]
  | some y =>
    unfold add
    simp only
    split
    · next hy =>
      constructor
      · exact Or.inl
      · rintro (q | q)
        · exact q
        · cases q; exact hy
    · simp [eq_comm]
theorem add_nodup {fl : List Nat} {o : Option Nat} (h : fl.Nodup) : (add fl o).Nodup := by
  cases o with
  | none => exact h
  | some y =>
    unfold add
    simp only
    split
    · exact h
    · next hy => exact List.nodup_append.mpr ⟨h, by simp, fun a ha b hb => by
        simp at hb
        subst hb
        exact fun z => hy (z ▸ ha)⟩
theorem add_at {fl : List Nat} {o : Option Nat} {i x : Nat} (h : fl[i]? = some x) : (add fl o)[i]? = some x := by
  cases o with
  | none => exact h
  | some y =>
    unfold add
    simp only
    split
    · exact h
    · rw [List.getElem?_append_left (List.getElem?_eq_some_iff.mp h).1]; exact h
theorem add_len {fl : List Nat} {o : Option Nat} : fl.length ≤ (add fl o).length := by
  cases o with
  | none => exact Nat.le_refl _
  | some y =>
    unfold add
    simp only
    split
    · exact Nat.le_refl _
    · simp
/-- roots and fields hold objects of the heap; each lies in one place -/
def CL (S : SS) : Prop := (∀ i o, i < 6 → ro S i = some o → o ∈ all S) ∧ (∀ o o', o ∈ all S → some o' ∈ fd S o → o' ∈ all S) ∧ (all S).Nodup ∧ ∀ r o, r < 12 → o ∈ itm S r → hm S o = r
theorem hm_lt {S : SS} (cl : CL S) {o : Nat} (ho : o ∈ all S) : hm S o < 12 := by
  obtain ⟨r, h1, h2⟩ := mem_all.mp ho
  rw [cl.2.2.2 r o h1 h2]
  exact h1
theorem flat_len {f : Nat → List Nat} {n k : Nat} (h : ∀ r, r < n → (f r).length ≤ k) : ((List.range n).flatMap f).length ≤ n * k := by
  induction n with
  | zero => simp
  | succ n ih =>
    rw [List.range_succ, List.flatMap_append, List.length_append]
    have h1 := ih (fun r hr => h r (by omega))
    have h2 := h n (by omega)
    simp only [List.flatMap_cons, List.flatMap_nil, List.append_nil]
    rw [Nat.succ_mul]
    omega
theorem all_len {S : SS} (b : BD S) : (all S).length ≤ 96 := flat_len (k := 8) (fun r hr => b.it hr)
/-- what the flags and the list of found say -/
def FR (h : AH) (S : SS) (fl : List Nat) : Prop := FD h fl ∧ RF h S fl ∧ fl.Nodup ∧ ∀ o ∈ fl, o ∈ all S
theorem FR.len {h : AH} {S : SS} {fl : List Nat} (f : FR h S fl) (b : BD S) : fl.length ≤ 96 := Nat.le_trans (nodup_len _ _ f.2.2.1 f.2.2.2) (all_len b)
theorem c_reach {h : AH} {S : SS} {fl : List Nat} (c : RC h S) (b : BD S) (f : FR h S fl) (o : Option Nat) (ho : ∀ x, o = some x → x ∈ all S) : TT 46 0 [rv 0 (some 0), rv 1 o] [] h 0 0 (fun x h' => x = none ∧ RC h' S ∧ FR h' S (add fl o) ∧ CF h h') := by
  cases o with
  | none =>
    refine r_aload_n 1 d_46_0 rfl rfl ?_
    refine r_ifnull 36 4 d_46_1 (by decide) rfl (fun c_1 => ?_) (fun i_1 c_1 => absurd c_1 (by simp))
    refine r_return d_46_36 rfl ?_
    exact ⟨rfl, c, f, CF.rf h⟩
  | some o =>
    have hm := ho o rfl
    by_cases hin : o ∈ fl
    · have e1 : add fl (some o) = fl := by simp [add, hin]
      rw [e1]
      refine r_aload_n 1 d_46_0 rfl rfl ?_
      refine r_ifnull 36 4 d_46_1 (by decide) rfl (fun c_1 => absurd c_1 (by simp)) (fun i_1 c_1 => ?_)
      refine r_aload_n 5 d_46_4 rfl rfl ?_
      refine r_getI 8 1 5 (nI 1) d_46_5 rfl fk_0_231 rfl ((f.2.1 o hm).trans (by rw [decide_eq_true hin]; rfl)) ?_
      refine r_if_ne 36 11 d_46_8 (by decide) rfl (fun c_8 => ?_) (fun c_8 => absurd c_8 (by decide))
      refine r_return d_46_36 rfl ?_
      exact ⟨rfl, c, f, CF.rf h⟩
    · have e1 : add fl (some o) = fl ++ [o] := by simp [add, hin]
      have hnd : (fl ++ [o]).Nodup := e1 ▸ add_nodup f.2.2.1
      have hsub : ∀ x ∈ fl ++ [o], x ∈ all S := fun x hx => by
        rcases List.mem_append.mp hx with q | q
        · exact f.2.2.2 x q
        · simp at q; subst q; exact hm
      have hlen : fl.length < 96 := by
        have := Nat.le_trans (nodup_len _ _ hnd hsub) (all_len b)
        simp at this
        omega
      rw [e1]
      refine r_aload_n 1 d_46_0 rfl rfl ?_
      refine r_ifnull 36 4 d_46_1 (by decide) rfl (fun c_1 => absurd c_1 (by simp)) (fun i_1 c_1 => ?_)
      refine r_aload_n 5 d_46_4 rfl rfl ?_
      refine r_getI 8 1 5 (nI 0) d_46_5 rfl fk_0_231 rfl ((f.2.1 o hm).trans (by rw [decide_eq_false hin]; rfl)) ?_
      refine r_if_ne 36 11 d_46_8 (by decide) rfl (fun c_8 => absurd c_8 (fun z => z rfl)) (fun c_8 => ?_)
      refine r_aload_n 12 d_46_11 rfl rfl ?_
      refine r_iconst 13 (nI 1) d_46_12 rfl (by decide) ?_
      refine r_putI 16 1 5 d_46_13 rfl fk_0_231 (Or.inl rfl) rfl rfl rfl ?_
      refine r_aload_n 17 d_46_16 rfl rfl ?_
      refine r_getR 20 0 2 4 (some 13) d_46_17 rfl fk_0_24 rfl (by decide) (ST.fnd (ST_sI c.st rfl)) ?_
      refine r_aload_n 21 d_46_20 rfl rfl ?_
      refine r_getI 24 0 3 (nI fl.length) d_46_21 rfl fk_0_140 rfl f.1.1 ?_
      refine r_aload_n 25 d_46_24 rfl rfl ?_
      refine r_aast 26 4 1 fl.length d_46_25 rfl (Or.inl ⟨rfl, rfl⟩) rfl (ST.lfn (ST_sI c.st rfl) hlen) ?_
      refine r_aload_n 27 d_46_26 rfl rfl ?_
      refine r_dup 28 d_46_27 rfl rfl ?_
      refine r_getI 31 0 3 (nI fl.length) d_46_28 rfl fk_0_140 rfl f.1.1 ?_
      refine r_iconst 32 (nI 1) d_46_31 rfl (by decide) ?_
      refine r_iadd 33 (nI (fl.length + 1)) d_46_32 rfl (nI_add fl.length 1) ?_
      refine r_putI 36 0 3 d_46_33 rfl fk_0_140 (Or.inl rfl) rfl rfl rfl ?_
      refine r_return d_46_36 rfl ?_
      refine ⟨rfl, rc_03 (rc_413 (rc_15 c _ _) _ _) _, ⟨⟨?_, fun i x hi => ?_⟩, fun x hx => ?_, hnd, hsub⟩, CF_sI (CF_sR (CF_sI (CF.rf h) rfl) rfl) rfl⟩
      · show nI (fl.length + 1) = _
        rw [List.length_append]; rfl
      · by_cases hl : i < fl.length
        · rw [List.getElem?_append_left hl] at hi
          exact (hR_nk (by omega) _).trans (f.1.2 i x hi)
        · rw [List.getElem?_append_right (by omega)] at hi
          have hz : i - fl.length = 0 := by have := (List.getElem?_eq_some_iff.mp hi).1; simp at this; omega
          rw [hz] at hi
          cases hi
          obtain rfl : i = fl.length := by omega
          exact hR_at
      · show (if 1 = 1 ∧ 5 = 5 ∧ x = o then nI 1 else hI h 1 x 5) = _
        by_cases hxo : x = o
        · subst hxo
          simp [bI]
        · rw [if_neg (fun z => hxo z.2.2), f.2.1 x hx]
          congr 1
          simp [hxo]
