/-! contracts of the class: findReached -/
/-- reached: in every set that holds what roots hold and what fields of its objects hold -/
def Rch (S : SS) (o : Nat) : Prop := ∀ P : Nat → Prop, (∀ i o, i < 6 → ro S i = some o → P o) → (∀ o o', P o → some o' ∈ fd S o → P o') → P o
theorem Rch.root {S : SS} {i o : Nat} (hi : i < 6) (h : ro S i = some o) : Rch S o := fun _ h1 _ => h1 i o hi h
theorem Rch.step {S : SS} {o o' : Nat} (h : Rch S o) (hf : some o' ∈ fd S o) : Rch S o' := fun P h1 h2 => h2 o o' (h P h1 h2) hf
def sw (S : SS) (l : List Nat) : Nat := (l.map (wd S)).sum
theorem sw_app (S : SS) (l m : List Nat) : sw S (l ++ m) = sw S l + sw S m := by simp [sw]
theorem add_take {fl : List Nat} {o : Option Nat} {i : Nat} (h : i ≤ fl.length) : (add fl o).take i = fl.take i := by
  cases o with
  | none => rfl
  | some y =>
    unfold add
    simp only
    split
    · rfl
    · exact List.take_append_of_le_length h
theorem sw_take {S : SS} {fl : List Nat} {i o : Nat} (h : fl[i]? = some o) : sw S (fl.take (i + 1)) = sw S (fl.take i) + wd S o := by
  rw [List.take_succ, h, sw_app]
  simp [sw]
def GR (S : SS) (fl : List Nat) : Prop := ∀ o ∈ fl, Rch S o
theorem GR.add {S : SS} {fl : List Nat} {o : Option Nat} (g : GR S fl) (ho : ∀ x, o = some x → Rch S x) : GR S (add fl o) := fun x hx => by
  rcases add_mem.mp hx with q | q
  · exact g x q
  · exact ho x q
/-- the search is through: its list is what is reached -/
theorem Rch_iff {S : SS} {fl : List Nat} (h1 : ∀ k o, k < 6 → ro S k = some o → o ∈ fl) (h2 : GR S fl) (h3 : ∀ j o o', j < fl.length → fl[j]? = some o → some o' ∈ fd S o → o' ∈ fl) (o : Nat) : o ∈ fl ↔ Rch S o := by
  refine ⟨h2 o, fun h => h (fun x => x ∈ fl) (fun i x hi hx => h1 i x hi hx) (fun x x' hx hf => ?_)⟩
  obtain ⟨j, hj⟩ := List.getElem?_of_mem hx
  exact h3 j x x' (List.getElem?_eq_some_iff.mp hj).1 hj hf
theorem c_findReached {h : AH} {S : SS} (c : RC h S) (b : BD S) (cl : CL S) : TT 44 0 [rv 0 (some 0), un, un, un] [] h 0 0 (fun x h' => ∃ fl, x = some (iv (nI (sw S fl))) ∧ RC h' S ∧ FR h' S fl ∧ (∀ o, o ∈ fl ↔ Rch S o) ∧ CF h h') := by
  have bfs : ∀ n i h1 fl, i + n = 97 → RC h1 S → FR h1 S fl → GR S fl → (∀ k o, k < 6 → ro S k = some o → o ∈ fl) → (∀ j o o', j < i → fl[j]? = some o → some o' ∈ fd S o → o' ∈ fl) → i ≤ fl.length → CF h h1 → ∀ v, TT 44 32 [rv 0 (some 0), iv (nI (sw S (fl.take i))), iv (nI i), v] [] h1 0 0 (fun x h' => ∃ fl, x = some (iv (nI (sw S fl))) ∧ RC h' S ∧ FR h' S fl ∧ (∀ o, o ∈ fl ↔ Rch S o) ∧ CF h h') := by
    intro n
    induction n with
    | zero =>
      intro i h1 fl hn c1 fr _ _ _ hi
      have := fr.len b
      omega
    | succ n ih =>
      intro i h1 fl hn c1 fr g hro hcl hi cf v
      have hl := fr.len b
      refine TT.forget 3 (ls' := [rv 0 (some 0), iv (nI (sw S (fl.take i))), iv (nI i), un]) rfl ?_
      rcases Nat.lt_or_ge i fl.length with hlt | hge
      · obtain ⟨o, ho⟩ := at_lt hlt
        have hoa := fr.2.2.2 o (List.mem_of_getElem? ho)
        have holt := c1.mlt hoa
        have hf3 := b.fd holt
        have hgo := g o (List.mem_of_getElem? ho)
        have inner : ∀ m f h2 fl2, f + m = (fd S o).length → RC h2 S → FR h2 S fl2 → GR S fl2 → (∀ k o, k < 6 → ro S k = some o → o ∈ fl2) → (∀ j o o', j < i → fl2[j]? = some o → some o' ∈ fd S o → o' ∈ fl2) → fl2[i]? = some o → (∀ f' o', f' < f → (fd S o)[f']? = some (some o') → o' ∈ fl2) → fl2.take (i + 1) = fl.take (i + 1) → CF h h2 → TT 44 60 [rv 0 (some 0), iv (nI (sw S (fl.take (i + 1)))), iv (nI i), iv (nI f)] [] h2 0 0 (fun x h' => ∃ fl, x = some (iv (nI (sw S fl))) ∧ RC h' S ∧ FR h' S fl ∧ (∀ o, o ∈ fl ↔ Rch S o) ∧ CF h h') := by
          intro m
          induction m with
          | zero =>
            intro f h2 fl2 hf c2 fr2 g2 hro2 hcl2 hi2 hff htk cf2
            have hlen2 := (List.getElem?_eq_some_iff.mp hi2).1
            have hl2 := fr2.len b
            refine r_iload_n 61 d_44_60 rfl rfl ?_
            refine r_aload_n 62 d_44_61 rfl rfl ?_
            refine r_getR 65 0 2 4 (some 13) d_44_62 rfl fk_0_24 rfl (by decide) (ST.fnd c2.st) ?_
            refine r_iload_n 66 d_44_65 rfl rfl ?_
            refine r_aald 67 4 1 i (some o) d_44_66 rfl (Or.inl ⟨rfl, rfl⟩) rfl (ST.lfn c2.st (by omega)) (fr2.1.2 i o hi2) ?_
            refine r_getR 70 1 2 4 (some (14 + o)) d_44_67 rfl fk_0_118 rfl (by decide) (ST.fld c2.st (by rw [c2.c1]; exact holt)) ?_
            refine r_alen 71 4 (nI (fd S o).length) d_44_70 rfl (by decide) (by rw [c2.fl holt]) ?_
            refine r_icmp_ge 95 74 d_44_71 (by decide) rfl (fun c_71 => ?_) (fun c_71 => absurd (nI_le (by omega) (by omega)) c_71)
            refine r_iinc 98 (nI (i + 1)) [rv 0 (some 0), iv (nI (sw S (fl.take (i + 1)))), iv (nI (i + 1)), iv (nI f)] d_44_95 rfl rfl (nI_1 i) rfl rfl ?_
            refine r_goto 32 d_44_98 (by decide) ?_
            have z := ih (i + 1) h2 fl2 (by omega) c2 fr2 g2 hro2 (fun j x x' hj hx hm => ?_) (by omega) cf2 (iv (nI f))
            · rw [htk] at z
              exact z
            · rcases Nat.lt_or_ge j i with q | q
              · exact hcl2 j x x' q hx hm
              · obtain rfl : j = i := by omega
                cases hi2.symm.trans hx
                obtain ⟨f', hf'⟩ := List.getElem?_of_mem hm
                exact hff f' x' (by have := (List.getElem?_eq_some_iff.mp hf').1; omega) hf'
          | succ m ihm =>
            intro f h2 fl2 hf c2 fr2 g2 hro2 hcl2 hi2 hff htk cf2
            have hlen2 := (List.getElem?_eq_some_iff.mp hi2).1
            have hl2 := fr2.len b
            obtain ⟨w, hw⟩ : ∃ w, (fd S o)[f]? = some w := ⟨_, List.getElem?_eq_getElem (by omega)⟩
            have hwm : ∀ x, w = some x → x ∈ all S := fun x hx => cl.2.1 o x hoa (hx ▸ List.mem_of_getElem? hw)
            have hwr : ∀ x, w = some x → Rch S x := fun x hx => hgo.step (hx ▸ List.mem_of_getElem? hw)
            refine r_iload_n 61 d_44_60 rfl rfl ?_
            refine r_aload_n 62 d_44_61 rfl rfl ?_
            refine r_getR 65 0 2 4 (some 13) d_44_62 rfl fk_0_24 rfl (by decide) (ST.fnd c2.st) ?_
            refine r_iload_n 66 d_44_65 rfl rfl ?_
            refine r_aald 67 4 1 i (some o) d_44_66 rfl (Or.inl ⟨rfl, rfl⟩) rfl (ST.lfn c2.st (by omega)) (fr2.1.2 i o hi2) ?_
            refine r_getR 70 1 2 4 (some (14 + o)) d_44_67 rfl fk_0_118 rfl (by decide) (ST.fld c2.st (by rw [c2.c1]; exact holt)) ?_
            refine r_alen 71 4 (nI (fd S o).length) d_44_70 rfl (by decide) (by rw [c2.fl holt]) ?_
            refine r_icmp_ge 95 74 d_44_71 (by decide) rfl (fun c_71 => absurd c_71 (nI_ge (by omega) (by omega))) (fun c_71 => ?_)
            refine r_aload_n 75 d_44_74 rfl rfl ?_
            refine r_aload_n 76 d_44_75 rfl rfl ?_
            refine r_getR 79 0 2 4 (some 13) d_44_76 rfl fk_0_24 rfl (by decide) (ST.fnd c2.st) ?_
            refine r_iload_n 80 d_44_79 rfl rfl ?_
            refine r_aald 81 4 1 i (some o) d_44_80 rfl (Or.inl ⟨rfl, rfl⟩) rfl (ST.lfn c2.st (by omega)) (fr2.1.2 i o hi2) ?_
            refine r_getR 84 1 2 4 (some (14 + o)) d_44_81 rfl fk_0_118 rfl (by decide) (ST.fld c2.st (by rw [c2.c1]; exact holt)) ?_
            refine r_iload_n 85 d_44_84 rfl rfl ?_
            refine r_aald 86 4 1 f w d_44_85 rfl (Or.inl ⟨rfl, rfl⟩) rfl (by rw [c2.fl holt]; omega) (c2.fd holt hw) ?_
            refine r_callV (k1 := 0) (n1 := 0) (k := 0) (n := 0) 89 46 0 [rv 1 w] d_44_86 rfl mk_46 lk_0_228 mv_46 rfl rfl rfl rfl rfl _ (c_reach c2 b fr2 w hwm) ?_
            intro r_86 h_86 q_86
            obtain ⟨q1, q2, q3, q4⟩ := q_86
            subst q1
            show TT 44 89 [rv 0 (some 0), iv (nI (sw S (fl.take (i + 1)))), iv (nI i), iv (nI f)] [] h_86 _ _ _
            refine r_iinc 92 (nI (f + 1)) [rv 0 (some 0), iv (nI (sw S (fl.take (i + 1)))), iv (nI i), iv (nI (f + 1))] d_44_89 rfl rfl (nI_1 f) rfl rfl ?_
            refine r_goto 60 d_44_92 (by decide) ?_
            refine ihm (f + 1) h_86 (add fl2 w) (by omega) q2 q3 (g2.add hwr) (fun k x hk hx => add_mem.mpr (Or.inl (hro2 k x hk hx))) (fun j x x' hj hx hm => ?_) (add_at hi2) (fun f' x' hf' hx' => ?_) ((add_take (by omega)).trans htk) (cf2.tr q4)
            · obtain ⟨y, hy⟩ := at_lt (l := fl2) (i := j) (by omega)
              cases (add_at (o := w) hy).symm.trans hx
              exact add_mem.mpr (Or.inl (hcl2 j _ x' hj hy hm))
            · rcases Nat.lt_or_ge f' f with q | q
              · exact add_mem.mpr (Or.inl (hff f' x' q hx'))
              · obtain rfl : f' = f := by omega
                exact add_mem.mpr (Or.inr (Option.some.inj (hw.symm.trans hx')))
        refine r_iload_n 33 d_44_32 rfl rfl ?_
        refine r_aload_n 34 d_44_33 rfl rfl ?_
        refine r_getI 37 0 3 (nI fl.length) d_44_34 rfl fk_0_140 rfl fr.1.1 ?_
        refine r_icmp_ge 101 40 d_44_37 (by decide) rfl (fun c_37 => absurd c_37 (nI_ge hlt (by omega))) (fun c_37 => ?_)
        refine r_iload_n 41 d_44_40 rfl rfl ?_
        refine r_bipush 43 (nI 96) d_44_41 rfl (by decide) ?_
        refine r_icmp_ge 101 46 d_44_43 (by decide) rfl (fun c_43 => absurd c_43 (nI_ge (by omega) (by decide))) (fun c_43 => ?_)
        refine r_iload_n 47 d_44_46 rfl rfl ?_
        refine r_aload_n 48 d_44_47 rfl rfl ?_
        refine r_getR 51 0 2 4 (some 13) d_44_48 rfl fk_0_24 rfl (by decide) (ST.fnd c1.st) ?_
        refine r_iload_n 52 d_44_51 rfl rfl ?_
        refine r_aald 53 4 1 i (some o) d_44_52 rfl (Or.inl ⟨rfl, rfl⟩) rfl (ST.lfn c1.st (by omega)) (fr.1.2 i o ho) ?_
        refine r_getI 56 1 1 (nI (wd S o)) d_44_53 rfl fk_0_96 rfl (c1.wd holt) ?_
        refine r_iadd 57 (nI (sw S (fl.take (i + 1)))) d_44_56 rfl ((nI_add _ _).trans (by rw [sw_take ho])) ?_
        refine r_istore_n 58 [rv 0 (some 0), iv (nI (sw S (fl.take (i + 1)))), iv (nI i), un] d_44_57 rfl rfl rfl ?_
        refine r_iconst 59 (nI 0) d_44_58 rfl (by decide) ?_
        refine r_istore_n 60 [rv 0 (some 0), iv (nI (sw S (fl.take (i + 1)))), iv (nI i), iv (nI 0)] d_44_59 rfl rfl rfl ?_
        exact inner (fd S o).length 0 h1 fl (by omega) c1 fr g hro hcl ho (fun f' o' hf' => absurd hf' (Nat.not_lt_zero f')) rfl cf
      · obtain rfl : i = fl.length := by omega
        refine r_iload_n 33 d_44_32 rfl rfl ?_
        refine r_aload_n 34 d_44_33 rfl rfl ?_
        refine r_getI 37 0 3 (nI fl.length) d_44_34 rfl fk_0_140 rfl fr.1.1 ?_
        refine r_icmp_ge 101 40 d_44_37 (by decide) rfl (fun c_37 => ?_) (fun c_37 => absurd (nI_le (Nat.le_refl _) (by omega)) c_37)
        refine r_iload_n 102 d_44_101 rfl rfl ?_
        refine r_ireturn d_44_102 rfl ?_
        exact ⟨fl, by rw [List.take_length], c1, fr, Rch_iff hro g hcl, cf⟩
  have roots : ∀ n i h1 fl, i + n = 6 → RC h1 S → FR h1 S fl → GR S fl → (∀ k o, k < i → ro S k = some o → o ∈ fl) → CF h h1 → TT 44 6 [rv 0 (some 0), iv (nI i), un, un] [] h1 0 0 (fun x h' => ∃ fl, x = some (iv (nI (sw S fl))) ∧ RC h' S ∧ FR h' S fl ∧ (∀ o, o ∈ fl ↔ Rch S o) ∧ CF h h') := by
    intro n
    induction n with
    | zero =>
      intro i h1 fl hn c1 fr g hro cf
      obtain rfl : i = 6 := by omega
      refine r_iload_n 7 d_44_6 rfl rfl ?_
      refine r_bipush 9 (nI 6) d_44_7 rfl (by decide) ?_
      refine r_icmp_ge 28 12 d_44_9 (by decide) rfl (fun c_9 => ?_) (fun c_9 => absurd (nI_le (Nat.le_refl _) (by decide)) c_9)
      refine r_iconst 29 (nI 0) d_44_28 rfl (by decide) ?_
      refine r_istore_n 30 [rv 0 (some 0), iv (nI 0), un, un] d_44_29 rfl rfl rfl ?_
      refine r_iconst 31 (nI 0) d_44_30 rfl (by decide) ?_
      refine r_istore_n 32 [rv 0 (some 0), iv (nI 0), iv (nI 0), un] d_44_31 rfl rfl rfl ?_
      exact bfs 97 0 h1 fl rfl c1 fr g hro (fun j o o' hj => absurd hj (Nat.not_lt_zero j)) (Nat.zero_le _) cf un
    | succ n ih =>
      intro i h1 fl hn c1 fr g hro cf
      have hi6 : i < 6 := by omega
      refine r_iload_n 7 d_44_6 rfl rfl ?_
      refine r_bipush 9 (nI 6) d_44_7 rfl (by decide) ?_
      refine r_icmp_ge 28 12 d_44_9 (by decide) rfl (fun c_9 => absurd c_9 (nI_ge hi6 (by decide))) (fun c_9 => ?_)
      refine r_aload_n 13 d_44_12 rfl rfl ?_
      refine r_aload_n 14 d_44_13 rfl rfl ?_
      refine r_getR 17 0 1 4 (some 12) d_44_14 rfl fk_0_20 rfl (by decide) (ST.roo c1.st) ?_
      refine r_iload_n 18 d_44_17 rfl rfl ?_
      refine r_aald 19 4 1 i (ro S i) d_44_18 rfl (Or.inl ⟨rfl, rfl⟩) rfl (ST.lro c1.st hi6) (c1.ro hi6) ?_
      refine r_callV (k1 := 0) (n1 := 0) (k := 0) (n := 0) 22 46 0 [rv 1 (ro S i)] d_44_19 rfl mk_46 lk_0_228 mv_46 rfl rfl rfl rfl rfl _ (c_reach c1 b fr (ro S i) (fun x hx => cl.1 i x hi6 hx)) ?_
      intro r_19 h_19 q_19
      obtain ⟨q1, q2, q3, q4⟩ := q_19
      subst q1
      show TT 44 22 [rv 0 (some 0), iv (nI i), un, un] [] h_19 _ _ _
      refine r_iinc 25 (nI (i + 1)) [rv 0 (some 0), iv (nI (i + 1)), un, un] d_44_22 rfl rfl (nI_1 i) rfl rfl ?_
      refine r_goto 6 d_44_25 (by decide) ?_
      refine ih (i + 1) h_19 _ (by omega) q2 q3 (g.add (fun x hx => Rch.root hi6 hx)) (fun k x hk hx => ?_) (cf.tr q4)
      rcases Nat.lt_or_ge k i with q | q
      · exact add_mem.mpr (Or.inl (hro k x q hx))
      · obtain rfl : k = i := by omega
        exact add_mem.mpr (Or.inr hx)
  refine r_aload_n 1 d_44_0 rfl rfl ?_
  refine r_callV (k1 := 0) (n1 := 0) (k := 0) (n := 0) 4 45 0 [] d_44_1 rfl mk_45 lk_0_225 mv_45 rfl rfl rfl rfl rfl _ (c_forgetReached c b) ?_
  intro r_1 h_1 q_1
  obtain ⟨q1, q2, q3, q4⟩ := q_1
  subst q1
  show TT 44 4 [rv 0 (some 0), un, un, un] [] h_1 _ _ _
  refine r_iconst 5 (nI 0) d_44_4 rfl (by decide) ?_
  refine r_istore_n 6 [rv 0 (some 0), iv (nI 0), un, un] d_44_5 rfl rfl rfl ?_
  exact roots 6 0 h_1 [] rfl q2 q3 (fun o ho => by cases ho) (fun k o hk => absurd hk (Nat.not_lt_zero k)) q4
