/-! contracts of the class: what comes in to a region -/
def hitF (S : SS) (r : Nat) (v : Option Nat) : Bool := match v with
  | none => false
  | some o => decide (hm S o = r)
def ffI (S : SS) (o r : Nat) : Nat := ((fd S o).filter (hitF S r)).length
theorem ff_take {S : SS} {l : List (Option Nat)} {r f : Nat} {v : Option Nat} (h : l[f]? = some v) : ((l.take (f + 1)).filter (hitF S r)).length = ((l.take f).filter (hitF S r)).length + (if hitF S r v = true then 1 else 0) := by
  rw [List.take_succ, h, List.filter_append, List.length_append]
  simp only [Option.toList, List.filter_cons, List.filter_nil]
  split <;> rfl
theorem c_fieldsInto {h : AH} {S : SS} (c : RC h S) (b : BD S) (cl : CL S) {o r : Nat} (ho : o ∈ all S) : TT 42 0 [rv 1 (some o), rv 2 (some r), un, un] [] h 0 0 (fun x h' => h' = h ∧ x = some (iv (nI (ffI S o r)))) := by
  have holt := c.mlt ho
  have hf3 := b.fd holt
  have loop : ∀ n f, f + n = (fd S o).length → TT 42 4 [rv 1 (some o), rv 2 (some r), iv (nI (((fd S o).take f).filter (hitF S r)).length), iv (nI f)] [] h 0 0 (fun x h' => h' = h ∧ x = some (iv (nI (ffI S o r)))) := by
    intro n
    induction n with
    | zero =>
      intro f hf
      obtain rfl : f = (fd S o).length := by omega
      refine r_iload_n 5 d_42_4 rfl rfl ?_
      refine r_aload_n 6 d_42_5 rfl rfl ?_
      refine r_getR 9 1 2 4 (some (14 + o)) d_42_6 rfl fk_0_118 rfl (by decide) (ST.fld c.st (by rw [c.c1]; exact holt)) ?_
      refine r_alen 10 4 (nI (fd S o).length) d_42_9 rfl (by decide) (by rw [c.fl holt]) ?_
      refine r_icmp_ge 44 13 d_42_10 (by decide) rfl (fun c_10 => ?_) (fun c_10 => absurd (nI_le (Nat.le_refl _) (by omega)) c_10)
      refine r_iload_n 45 d_42_44 rfl rfl ?_
      refine r_ireturn d_42_45 rfl ?_
      exact ⟨rfl, by rw [List.take_length]; rfl⟩
    | succ n ih =>
      intro f hf
      obtain ⟨w, hw⟩ : ∃ w, (fd S o)[f]? = some w := ⟨_, List.getElem?_eq_getElem (by omega)⟩
      have hwm : ∀ x, w = some x → x ∈ all S := fun x hx => cl.2.1 o x ho (hx ▸ List.mem_of_getElem? hw)
      have z := ih (f + 1) (by omega)
      rw [ff_take hw] at z
      cases w with
      | none =>
        rw [show hitF S r none = false from rfl, if_neg Bool.false_ne_true, Nat.add_zero] at z
        refine r_iload_n 5 d_42_4 rfl rfl ?_
        refine r_aload_n 6 d_42_5 rfl rfl ?_
        refine r_getR 9 1 2 4 (some (14 + o)) d_42_6 rfl fk_0_118 rfl (by decide) (ST.fld c.st (by rw [c.c1]; exact holt)) ?_
        refine r_alen 10 4 (nI (fd S o).length) d_42_9 rfl (by decide) (by rw [c.fl holt]) ?_
        refine r_icmp_ge 44 13 d_42_10 (by decide) rfl (fun c_10 => absurd c_10 (nI_ge (by omega) (by omega))) (fun c_10 => ?_)
        refine r_aload_n 14 d_42_13 rfl rfl ?_
        refine r_getR 17 1 2 4 (some (14 + o)) d_42_14 rfl fk_0_118 rfl (by decide) (ST.fld c.st (by rw [c.c1]; exact holt)) ?_
        refine r_iload_n 18 d_42_17 rfl rfl ?_
        refine r_aald 19 4 1 f none d_42_18 rfl (Or.inl ⟨rfl, rfl⟩) rfl (by rw [c.fl holt]; omega) (c.fd holt hw) ?_
        refine r_ifnull 38 22 d_42_19 (by decide) rfl (fun c_19 => ?_) (fun i_19 c_19 => absurd c_19 (by simp))
        refine r_iinc 41 (nI (f + 1)) [rv 1 (some o), rv 2 (some r), iv (nI (((fd S o).take f).filter (hitF S r)).length), iv (nI (f + 1))] d_42_38 rfl rfl (nI_1 f) rfl rfl ?_
        refine r_goto 4 d_42_41 (by decide) ?_
        exact z
      | some o' =>
        have ho' := hwm o' rfl
        refine r_iload_n 5 d_42_4 rfl rfl ?_
        refine r_aload_n 6 d_42_5 rfl rfl ?_
        refine r_getR 9 1 2 4 (some (14 + o)) d_42_6 rfl fk_0_118 rfl (by decide) (ST.fld c.st (by rw [c.c1]; exact holt)) ?_
        refine r_alen 10 4 (nI (fd S o).length) d_42_9 rfl (by decide) (by rw [c.fl holt]) ?_
        refine r_icmp_ge 44 13 d_42_10 (by decide) rfl (fun c_10 => absurd c_10 (nI_ge (by omega) (by omega))) (fun c_10 => ?_)
        refine r_aload_n 14 d_42_13 rfl rfl ?_
        refine r_getR 17 1 2 4 (some (14 + o)) d_42_14 rfl fk_0_118 rfl (by decide) (ST.fld c.st (by rw [c.c1]; exact holt)) ?_
        refine r_iload_n 18 d_42_17 rfl rfl ?_
        refine r_aald 19 4 1 f (some o') d_42_18 rfl (Or.inl ⟨rfl, rfl⟩) rfl (by rw [c.fl holt]; omega) (c.fd holt hw) ?_
        refine r_ifnull 38 22 d_42_19 (by decide) rfl (fun c_19 => absurd c_19 (by simp)) (fun i_19 c_19 => ?_)
        refine r_aload_n 23 d_42_22 rfl rfl ?_
        refine r_getR 26 1 2 4 (some (14 + o)) d_42_23 rfl fk_0_118 rfl (by decide) (ST.fld c.st (by rw [c.c1]; exact holt)) ?_
        refine r_iload_n 27 d_42_26 rfl rfl ?_
        refine r_aald 28 4 1 f (some o') d_42_27 rfl (Or.inl ⟨rfl, rfl⟩) rfl (by rw [c.fl holt]; omega) (c.fd holt hw) ?_
        refine r_getR 31 1 3 2 (some (hm S o')) d_42_28 rfl fk_0_169 rfl (by decide) (c.hm ho') ?_
        refine r_aload_n 32 d_42_31 rfl rfl ?_
        refine r_acmp_ne 38 35 d_42_32 (by decide) rfl (by decide) (fun c_32 => ?_) (fun c_32 => ?_)
        · skip
          refine r_iinc 41 (nI (f + 1)) [rv 1 (some o), rv 2 (some r), iv (nI (((fd S o).take f).filter (hitF S r)).length), iv (nI (f + 1))] d_42_38 rfl rfl (nI_1 f) rfl rfl ?_
          refine r_goto 4 d_42_41 (by decide) ?_
          first
          | (rw [show hitF S r (some o') = false from decide_eq_false (fun q => c_32 (by rw [q])), if_neg Bool.false_ne_true, Nat.add_zero] at z; exact z)
          | (rw [show hitF S r (some o') = true from decide_eq_true (Option.some.inj c_32), if_pos rfl] at z; exact z)
        · skip
          refine r_iinc 38 (nI ((((fd S o).take f).filter (hitF S r)).length + 1)) [rv 1 (some o), rv 2 (some r), iv (nI ((((fd S o).take f).filter (hitF S r)).length + 1)), iv (nI f)] d_42_35 rfl rfl (nI_1 ((((fd S o).take f).filter (hitF S r)).length)) rfl rfl ?_
          refine r_iinc 41 (nI (f + 1)) [rv 1 (some o), rv 2 (some r), iv (nI ((((fd S o).take f).filter (hitF S r)).length + 1)), iv (nI (f + 1))] d_42_38 rfl rfl (nI_1 f) rfl rfl ?_
          refine r_goto 4 d_42_41 (by decide) ?_
          first
          | (rw [show hitF S r (some o') = false from decide_eq_false (fun q => c_32 (by rw [q])), if_neg Bool.false_ne_true, Nat.add_zero] at z; exact z)
          | (rw [show hitF S r (some o') = true from decide_eq_true (Option.some.inj c_32), if_pos rfl] at z; exact z)
  refine r_iconst 1 (nI 0) d_42_0 rfl (by decide) ?_
  refine r_istore_n 2 [rv 1 (some o), rv 2 (some r), iv (nI 0), un] d_42_1 rfl rfl rfl ?_
  refine r_iconst 3 (nI 0) d_42_2 rfl (by decide) ?_
  refine r_istore_n 4 [rv 1 (some o), rv 2 (some r), iv (nI 0), iv (nI 0)] d_42_3 rfl rfl rfl ?_
  exact loop _ 0 (Nat.zero_add _)
def smf (f : Nat → Nat) : Nat → Nat
  | 0 => 0
  | n + 1 => smf f n + f n
def fsum (S : SS) (r : Nat) (l : List Nat) : Nat := (l.map (fun o => ffI S o r)).sum
def inR (S : SS) (r r' : Nat) : Nat := if r' = r then 0 else fsum S r (itm S r')
/-- how many fields of objects in other regions hold objects in this one -/
def inc (S : SS) (r : Nat) : Nat := smf (inR S r) 12
theorem fsum_take {S : SS} {r i o : Nat} {l : List Nat} (h : l[i]? = some o) : fsum S r (l.take (i + 1)) = fsum S r (l.take i) + ffI S o r := by
  unfold fsum
  rw [List.take_succ, h, List.map_append, List.sum_append]
  simp
theorem c_incomingTo {h : AH} {S : SS} (c : RC h S) (b : BD S) (cl : CL S) {r : Nat} (hr0 : r < 12) : TT 41 0 [rv 0 (some 0), rv 2 (some r), un, un, un, un] [] h 0 0 (fun x h' => h' = h ∧ x = some (iv (nI (inc S r)))) := by
  have loop : ∀ n q v w, q + n = 12 → TT 41 4 [rv 0 (some 0), rv 2 (some r), iv (nI (smf (inR S r) q)), iv (nI q), v, w] [] h 0 0 (fun x h' => h' = h ∧ x = some (iv (nI (inc S r)))) := by
    intro n
    induction n with
    | zero =>
      intro q v w hq
      obtain rfl : q = 12 := by omega
      refine TT.forget 4 (ls' := [rv 0 (some 0), rv 2 (some r), iv (nI (smf (inR S r) 12)), iv (nI 12), un, w]) rfl ?_
      refine TT.forget 5 (ls' := [rv 0 (some 0), rv 2 (some r), iv (nI (smf (inR S r) 12)), iv (nI 12), un, un]) rfl ?_
      refine r_iload_n 5 d_41_4 rfl rfl ?_
      refine r_bipush 7 (nI 12) d_41_5 rfl (by decide) ?_
      refine r_icmp_ge 64 10 d_41_7 (by decide) rfl (fun c_7 => ?_) (fun c_7 => absurd (nI_le (Nat.le_refl _) (by decide)) c_7)
      refine r_iload_n 65 d_41_64 rfl rfl ?_
      refine r_ireturn d_41_65 rfl ?_
      exact ⟨rfl, rfl⟩
    | succ n ih =>
      intro q v w hq
      have hq12 : q < 12 := by omega
      have hl8 := b.it hq12
      refine TT.forget 4 (ls' := [rv 0 (some 0), rv 2 (some r), iv (nI (smf (inR S r) q)), iv (nI q), un, w]) rfl ?_
      refine TT.forget 5 (ls' := [rv 0 (some 0), rv 2 (some r), iv (nI (smf (inR S r) q)), iv (nI q), un, un]) rfl ?_
      have inner : q ≠ r → ∀ m i, i + m = (itm S q).length → TT 41 21 [rv 0 (some 0), rv 2 (some r), iv (nI (smf (inR S r) q + fsum S r ((itm S q).take i))), iv (nI q), rv 2 (some q), iv (nI i)] [] h 0 0 (fun x h' => h' = h ∧ x = some (iv (nI (inc S r)))) := by
        intro hne m
        induction m with
        | zero =>
          intro i hi
          obtain rfl : i = (itm S q).length := by omega
          have z := ih (q + 1) (rv 2 (some q)) (iv (nI (itm S q).length)) (by omega)
          rw [show smf (inR S r) (q + 1) = smf (inR S r) q + inR S r q from rfl, show inR S r q = fsum S r (itm S q) from if_neg hne] at z
          rw [List.take_length]
          refine r_aload 23 d_41_21 rfl rfl ?_
          refine r_aload_n 24 d_41_23 rfl rfl ?_
          refine r_acmp_eq 58 27 d_41_24 (by decide) rfl (by decide) (fun c_24 => ?_) (fun c_24 => ?_)
          · skip
            exact absurd (Option.some.inj c_24) hne
            skip
          · skip
            refine r_iload 29 d_41_27 rfl rfl ?_
            refine r_aload 31 d_41_29 rfl rfl ?_
            refine r_getI 34 2 2 (nI (itm S q).length) d_41_31 rfl fk_0_153 rfl (c.ic hq12) ?_
            refine r_icmp_ge 58 37 d_41_34 (by decide) rfl (fun c_34 => ?_) (fun c_34 => absurd (nI_le (Nat.le_refl _) (by omega)) c_34)
            refine r_iinc 61 (nI (q + 1)) [rv 0 (some 0), rv 2 (some r), iv (nI (smf (inR S r) q + fsum S r (itm S q))), iv (nI (q + 1)), rv 2 (some q), iv (nI (itm S q).length)] d_41_58 rfl rfl (nI_1 q) rfl rfl ?_
            refine r_goto 4 d_41_61 (by decide) ?_
            exact z
        | succ m ihm =>
          intro i hi
          obtain ⟨o, ho⟩ := at_lt (l := itm S q) (i := i) (by omega)
          have hoa := mem_it hq12 ho
          have hi8 : i < 8 := by omega
          have z := ihm (i + 1) (by omega)
          rw [fsum_take ho, ← Nat.add_assoc] at z
          refine r_aload 23 d_41_21 rfl rfl ?_
          refine r_aload_n 24 d_41_23 rfl rfl ?_
          refine r_acmp_eq 58 27 d_41_24 (by decide) rfl (by decide) (fun c_24 => ?_) (fun c_24 => ?_)
          · skip
            exact absurd (Option.some.inj c_24) hne
            skip
          · skip
            refine r_iload 29 d_41_27 rfl rfl ?_
            refine r_aload 31 d_41_29 rfl rfl ?_
            refine r_getI 34 2 2 (nI (itm S q).length) d_41_31 rfl fk_0_153 rfl (c.ic hq12) ?_
            refine r_icmp_ge 58 37 d_41_34 (by decide) rfl (fun c_34 => absurd c_34 (nI_ge (by omega) (by omega))) (fun c_34 => ?_)
            refine r_iload_n 38 d_41_37 rfl rfl ?_
            refine r_aload 40 d_41_38 rfl rfl ?_
            refine r_getR 43 2 1 4 (some q) d_41_40 rfl fk_0_156 rfl (by decide) (ST.itm c.st hq12) ?_
            refine r_iload 45 d_41_43 rfl rfl ?_
            refine r_aald 46 4 1 i (some o) d_41_45 rfl (Or.inl ⟨rfl, rfl⟩) rfl (ST.lit c.st hq12 hi8) (c.it hq12 ho) ?_
            refine r_aload_n 47 d_41_46 rfl rfl ?_
            refine r_callS (k1 := 0) (n1 := 0) (k := 0) (n := 0) 50 42 [rv 1 (some o), rv 2 (some r)] d_41_47 rfl mk_42 lk_0_212 mv_42 rfl rfl rfl rfl _ (c_fieldsInto c b cl hoa) ?_
            intro r_47 h_47 q_47
            obtain ⟨q1, q2⟩ := q_47
            subst q2
            rw [q1]
            show TT 41 50 [rv 0 (some 0), rv 2 (some r), iv (nI (smf (inR S r) q + fsum S r ((itm S q).take i))), iv (nI q), rv 2 (some q), iv (nI i)] [iv (nI (ffI S o r)), iv (nI (smf (inR S r) q + fsum S r ((itm S q).take i)))] h _ _ _
            refine r_iadd 51 (nI ((smf (inR S r) q + fsum S r ((itm S q).take i)) + (ffI S o r))) d_41_50 rfl (nI_add (smf (inR S r) q + fsum S r ((itm S q).take i)) (ffI S o r)) ?_
            refine r_istore_n 52 [rv 0 (some 0), rv 2 (some r), iv (nI ((smf (inR S r) q + fsum S r ((itm S q).take i)) + (ffI S o r))), iv (nI q), rv 2 (some q), iv (nI i)] d_41_51 rfl rfl rfl ?_
            refine r_iinc 55 (nI (i + 1)) [rv 0 (some 0), rv 2 (some r), iv (nI ((smf (inR S r) q + fsum S r ((itm S q).take i)) + (ffI S o r))), iv (nI q), rv 2 (some q), iv (nI (i + 1))] d_41_52 rfl rfl (nI_1 i) rfl rfl ?_
            refine r_goto 21 d_41_55 (by decide) ?_
            exact z
      by_cases hne : q = r
      · subst hne
        have z := ih (q + 1) (rv 2 (some q)) (iv (nI 0)) (by omega)
        rw [show smf (inR S q) (q + 1) = smf (inR S q) q + inR S q q from rfl, show inR S q q = 0 from if_pos rfl, Nat.add_zero] at z
        refine r_iload_n 5 d_41_4 rfl rfl ?_
        refine r_bipush 7 (nI 12) d_41_5 rfl (by decide) ?_
        refine r_icmp_ge 64 10 d_41_7 (by decide) rfl (fun c_7 => absurd c_7 (nI_ge hq12 (by decide))) (fun c_7 => ?_)
        refine r_aload_n 11 d_41_10 rfl rfl ?_
        refine r_getR 14 0 0 5 (some 0) d_41_11 rfl fk_0_11 rfl (by decide) (ST.reg c.st) ?_
        refine r_iload_n 15 d_41_14 rfl rfl ?_
        refine r_aald 16 5 2 q (some q) d_41_15 rfl (Or.inr ⟨rfl, rfl⟩) rfl (ST.l50 c.st hq12) (ST.rat c.st hq12) ?_
        refine r_astore 18 [rv 0 (some 0), rv 2 (some q), iv (nI (smf (inR S q) q)), iv (nI q), rv 2 (some q), un] d_41_16 rfl rfl rfl ?_
        refine r_iconst 19 (nI 0) d_41_18 rfl (by decide) ?_
        refine r_istore 21 [rv 0 (some 0), rv 2 (some q), iv (nI (smf (inR S q) q)), iv (nI q), rv 2 (some q), iv (nI 0)] d_41_19 rfl rfl rfl ?_
        refine r_aload 23 d_41_21 rfl rfl ?_
        refine r_aload_n 24 d_41_23 rfl rfl ?_
        refine r_acmp_eq 58 27 d_41_24 (by decide) rfl (by decide) (fun c_24 => ?_) (fun c_24 => ?_)
        · skip
          refine r_iinc 61 (nI (q + 1)) [rv 0 (some 0), rv 2 (some q), iv (nI (smf (inR S q) q)), iv (nI (q + 1)), rv 2 (some q), iv (nI 0)] d_41_58 rfl rfl (nI_1 q) rfl rfl ?_
          refine r_goto 4 d_41_61 (by decide) ?_
          exact z
        · skip
          exact absurd rfl c_24
          skip
      · have z := inner hne (itm S q).length 0 (by omega)
        rw [show fsum S r ((itm S q).take 0) = 0 from rfl, Nat.add_zero] at z
        refine r_iload_n 5 d_41_4 rfl rfl ?_
        refine r_bipush 7 (nI 12) d_41_5 rfl (by decide) ?_
        refine r_icmp_ge 64 10 d_41_7 (by decide) rfl (fun c_7 => absurd c_7 (nI_ge hq12 (by decide))) (fun c_7 => ?_)
        refine r_aload_n 11 d_41_10 rfl rfl ?_
        refine r_getR 14 0 0 5 (some 0) d_41_11 rfl fk_0_11 rfl (by decide) (ST.reg c.st) ?_
        refine r_iload_n 15 d_41_14 rfl rfl ?_
        refine r_aald 16 5 2 q (some q) d_41_15 rfl (Or.inr ⟨rfl, rfl⟩) rfl (ST.l50 c.st hq12) (ST.rat c.st hq12) ?_
        refine r_astore 18 [rv 0 (some 0), rv 2 (some r), iv (nI (smf (inR S r) q)), iv (nI q), rv 2 (some q), un] d_41_16 rfl rfl rfl ?_
        refine r_iconst 19 (nI 0) d_41_18 rfl (by decide) ?_
        refine r_istore 21 [rv 0 (some 0), rv 2 (some r), iv (nI (smf (inR S r) q)), iv (nI q), rv 2 (some q), iv (nI 0)] d_41_19 rfl rfl rfl ?_
        exact z
  refine r_iconst 1 (nI 0) d_41_0 rfl (by decide) ?_
  refine r_istore_n 2 [rv 0 (some 0), rv 2 (some r), iv (nI 0), un, un, un] d_41_1 rfl rfl rfl ?_
  refine r_iconst 3 (nI 0) d_41_2 rfl (by decide) ?_
  refine r_istore_n 4 [rv 0 (some 0), rv 2 (some r), iv (nI 0), iv (nI 0), un, un] d_41_3 rfl rfl rfl ?_
  exact loop 12 0 un un rfl
