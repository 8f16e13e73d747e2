/-! the reference: frames -/
/-- objects, places and roots stay -/
def XG (h h' : AH) : Prop := MF h h' ∧ (∀ s i, hL h' s i = hL h s i) ∧ (∀ s i k, hR h' s i k = hR h s i k) ∧ ∀ a k, a < 8 → hI h' 6 a k = hI h 6 a k
theorem XG.rf (h : AH) : XG h h := ⟨MF.rf h, fun _ _ => rfl, fun _ _ _ => rfl, fun _ _ _ => rfl⟩
theorem XG.tr {h h1 h2 : AH} (a : XG h h1) (b : XG h1 h2) : XG h h2 := ⟨a.1.tr b.1, fun s i => (b.2.1 s i).trans (a.2.1 s i), fun s i k => (b.2.2.1 s i k).trans (a.2.2.1 s i k), fun q k hq => (b.2.2.2 q k hq).trans (a.2.2.2 q k hq)⟩
theorem XG_sI {h h1 : AH} (x : XG h h1) {s i k : Nat} {v : Int32} (hs : (s == 3 || s == 7 || (s == 6 && !decide (i < 8))) = true) : XG h (sI h1 s i k v) := by
  refine ⟨MF_sI x.1 ?_, x.2.1, x.2.2.1, fun a k' ha => ?_⟩
  · simp at hs
    rcases hs with (rfl | rfl) | ⟨rfl, -⟩ <;> rfl
  · rw [hI_sI, if_neg]
    · exact x.2.2.2 a k' ha
    · rintro ⟨rfl, -, rfl⟩
      simp at hs
      omega
theorem MT_XG {h h' : AH} (m : MT h) (x : XG h h') : MT h' := ⟨fun k hk => (x.2.2.1 3 0 k).trans (m.1 k hk), fun a ha => (x.2.1 6 a).trans (m.2.1 a ha), fun a ha => (x.2.1 7 a).trans (m.2.2 a ha)⟩
/-- regions and counts change, objects, places and roots don't -/
theorem RX_reg {h h' : AH} {D T D' T' : SS} {G : List Nat} {sg : Nat → Nat} (m : RXG h D T G sg) (x : XG h h') (hr : ∀ r, r < 12 → hI h' 6 8 r = nI (kd T' r) ∧ hI h' 6 9 r = nI (us T' r) ∧ hI h' 6 10 r = ol (lw T' r)) (hc : hI h' 3 0 11 = ol (cu T')) (hk : ∀ k, k < 4 → hI h' 6 11 k = nI (ct T' k)) (eD : all D' = all D ∧ wd D' = wd D ∧ fd D' = fd D) (eT : all T' = all T ∧ hm T' = hm T ∧ so T' = so T ∧ ro T' = ro T) : RXG h' D' T' G sg := by
  obtain ⟨d1, d2, d3⟩ := eD
  obtain ⟨t1, t2, t3, t4⟩ := eT
  have hps : ∀ o, ps T' o = ps T o := fun o => by unfold ps; rw [t2, t3]
  refine ⟨MT_XG m.mt x, hr, fun o ho => ?_, fun o ho => ?_, fun o o' ho ho' => ?_, fun j hj hn hg => ?_, fun w hw hn => ?_, fun i hi => ?_, hc, hk⟩
  · rw [d1] at ho
    rw [d2, d3]
    refine ⟨m.lt ho, ?_, ?_, ?_, fun f v hf => ?_⟩
    · rw [x.2.2.2 0 _ (by decide)]; exact m.no ho
    · rw [x.2.2.2 1 _ (by decide)]; exact m.wd ho
    · rw [x.2.2.2 2 _ (by decide)]; exact m.fl ho
    · rw [x.2.2.2 3 _ (by decide)]; exact m.fd ho hf
  · rw [t1] at ho
    rw [d1, t2, t3, hps]
    refine ⟨m.sub ho, ?_, ?_, ?_⟩
    · rw [x.2.2.2 4 _ (by decide)]; exact m.hm ho
    · rw [x.2.2.2 5 _ (by decide)]; exact m.so ho
    · rw [x.2.2.2 6 _ (by decide)]; exact m.at ho
  · rw [d1] at ho ho'
    exact m.inj ho ho'
  · rw [x.2.2.2 4 _ (by decide)]; exact m.frG hj (by rw [← t1]; exact hn) hg
  · rw [x.2.2.2 6 _ (by decide)]
    refine m.an hw (fun o ho => ?_)
    rw [← hps]
    exact hn o (by rw [t1]; exact ho)
  · rw [x.2.2.2 7 _ (by decide), t4]; exact m.ro hi
/-- all that the state stands for stays -/
def XF (h h' : AH) : Prop := XG h h' ∧ (∀ a k, a < 12 → hI h' 6 a k = hI h 6 a k) ∧ hI h' 3 0 11 = hI h 3 0 11
theorem XF.rf (h : AH) : XF h h := ⟨XG.rf h, fun _ _ _ => rfl, rfl⟩
theorem XF.tr {h h1 h2 : AH} (a : XF h h1) (b : XF h1 h2) : XF h h2 := ⟨a.1.tr b.1, fun q k hq => (b.2.1 q k hq).trans (a.2.1 q k hq), b.2.2.trans a.2.2⟩
theorem XF_sI {h h1 : AH} (x : XF h h1) {s i k : Nat} {v : Int32} (hs : ((s == 3 && !(k == 11)) || s == 7 || (s == 6 && !decide (i < 12))) = true) : XF h (sI h1 s i k v) := by
  refine ⟨XG_sI x.1 ?_, fun a k' ha => ?_, ?_⟩
  · simp at hs ⊢
    omega
  · rw [hI_sI, if_neg]
    · exact x.2.1 a k' ha
    · rintro ⟨rfl, -, rfl⟩
      simp at hs
      omega
  · rw [hI_sI, if_neg]
    · exact x.2.2
    · rintro ⟨rfl, rfl, -⟩
      simp at hs
theorem RX_XF {h h' : AH} {D T : SS} {G : List Nat} {sg : Nat → Nat} (m : RXG h D T G sg) (x : XF h h') : RXG h' D T G sg := by
  refine RX_reg m x.1 (fun r hr => ⟨?_, ?_, ?_⟩) ?_ (fun k hk => ?_) ⟨rfl, rfl, rfl⟩ ⟨rfl, rfl, rfl, rfl⟩
  · rw [x.2.1 8 _ (by decide)]; exact m.kd hr
  · rw [x.2.1 9 _ (by decide)]; exact m.us hr
  · rw [x.2.1 10 _ (by decide)]; exact m.lw hr
  · rw [x.2.2]; exact m.cu
  · rw [x.2.1 11 _ (by decide)]; exact m.ct hk
theorem dec1 (n : Nat) : nI n + Int32.ofInt (-1) = nI n - 1 := by
  rw [show Int32.ofInt (-1) = -(1 : Int32) by decide, Int32.sub_eq_add_neg]
/-- an int array's cell behind a write -/
theorem w6 {h : AH} {i k i' k' : Nat} {v : Int32} : hI (sI h 6 i k v) 6 i' k' = if i' = i ∧ k' = k then v else hI h 6 i' k' := by
  rw [hI_sI]
  by_cases e : i' = i ∧ k' = k
  · rw [if_pos e, if_pos ⟨rfl, e.2, e.1⟩]
  · rw [if_neg e, if_neg (fun z => e ⟨z.2.2, z.2.1⟩)]
theorem w6n {h : AH} {i k i' k' : Nat} {v : Int32} (e : i' ≠ i) : hI (sI h 6 i k v) 6 i' k' = hI h 6 i' k' := hI_ne e k'
theorem w6k {h : AH} {i k k' : Nat} {v : Int32} (e : k' ≠ k) : hI (sI h 6 i k v) 6 i k' = hI h 6 i k' := by
  rw [w6, if_neg (fun z => e z.2)]
/-! contracts of the reference: release, put, nextPlain -/
def relH (h : AH) (r : Nat) : AH := sI (sI (sI h 6 8 r (nI 0)) 6 9 r (nI 0)) 6 10 r (-1)
theorem m_release {h : AH} (mt : MT h) {r : Nat} (hr : r < 12) : TT 66 0 [rv 3 (some 0), iv (nI r)] [] h 0 0 (fun x h' => h' = relH h r ∧ x = none) := by
  refine r_aload_n 1 d_66_0 rfl rfl ?_
  refine r_getR 4 3 8 6 (some 8) d_66_1 rfl fk_3_34 rfl (by decide) (MT.f8 mt) ?_
  refine r_iload_n 5 d_66_4 rfl rfl ?_
  refine r_iconst 6 (nI 0) d_66_5 rfl (by decide) ?_
  refine r_iast 7 r d_66_6 rfl rfl (MT.l6_8 mt hr) ?_
  refine r_aload_n 8 d_66_7 rfl rfl ?_
  refine r_getR 11 3 9 6 (some 9) d_66_8 rfl fk_3_37 rfl (by decide) (MT.f9 (MT_sI mt rfl)) ?_
  refine r_iload_n 12 d_66_11 rfl rfl ?_
  refine r_iconst 13 (nI 0) d_66_12 rfl (by decide) ?_
  refine r_iast 14 r d_66_13 rfl rfl (MT.l6_9 (MT_sI mt rfl) hr) ?_
  refine r_aload_n 15 d_66_14 rfl rfl ?_
  refine r_getR 18 3 10 6 (some 10) d_66_15 rfl fk_3_40 rfl (by decide) (MT.f10 (MT_sI (MT_sI mt rfl) rfl)) ?_
  refine r_iload_n 19 d_66_18 rfl rfl ?_
  refine r_iconst 20 (-1) d_66_19 rfl (by decide) ?_
  refine r_iast 21 r d_66_20 rfl rfl (MT.l6_10 (MT_sI (MT_sI mt rfl) rfl) hr) ?_
  refine r_return d_66_21 rfl ?_
  exact ⟨rfl, rfl⟩
def putH (h : AH) (j r w : Nat) : AH := sI (sI (sI h 6 4 j (nI r)) 6 5 j (nI w)) 6 6 (16 * r + w) (nI j)
theorem m_put {h : AH} (mt : MT h) {j r w : Nat} (hj : j < 97) (hr : r < 12) (hw : w < 16) : TT 67 0 [rv 3 (some 0), iv (nI j), iv (nI r), iv (nI w)] [] h 0 0 (fun x h' => h' = putH h j r w ∧ x = none) := by
  have hb : 16 * r + w < 192 := by omega
  refine r_aload_n 1 d_67_0 rfl rfl ?_
  refine r_getR 4 3 4 6 (some 4) d_67_1 rfl fk_3_22 rfl (by decide) (MT.f4 mt) ?_
  refine r_iload_n 5 d_67_4 rfl rfl ?_
  refine r_iload_n 6 d_67_5 rfl rfl ?_
  refine r_iast 7 j d_67_6 rfl rfl (MT.l6_4 mt hj) ?_
  refine r_aload_n 8 d_67_7 rfl rfl ?_
  refine r_getR 11 3 5 6 (some 5) d_67_8 rfl fk_3_25 rfl (by decide) (MT.f5 (MT_sI mt rfl)) ?_
  refine r_iload_n 12 d_67_11 rfl rfl ?_
  refine r_iload_n 13 d_67_12 rfl rfl ?_
  refine r_iast 14 j d_67_13 rfl rfl (MT.l6_5 (MT_sI mt rfl) hj) ?_
  refine r_aload_n 15 d_67_14 rfl rfl ?_
  refine r_getR 18 3 6 6 (some 6) d_67_15 rfl fk_3_28 rfl (by decide) (MT.f6 (MT_sI (MT_sI mt rfl) rfl)) ?_
  refine r_bipush 20 (nI 16) d_67_18 rfl (by decide) ?_
  refine r_iload_n 21 d_67_20 rfl rfl ?_
  refine r_imul 22 (nI (16 * r)) d_67_21 rfl (pk_mul _ _) ?_
  refine r_iload_n 23 d_67_22 rfl rfl ?_
  refine r_iadd 24 (nI (16 * r + w)) d_67_23 rfl (nI_add _ _) ?_
  refine r_iload_n 25 d_67_24 rfl rfl ?_
  refine r_iast 26 (16 * r + w) d_67_25 rfl rfl (MT.l6_6 (MT_sI (MT_sI mt rfl) rfl) hb) ?_
  refine r_return d_67_26 rfl ?_
  exact ⟨rfl, rfl⟩
def npF (K : Nat → Nat) : Nat → Nat → Nat
  | 0, x => x
  | n + 1, x => if 4 ≤ K x then npF K n (x + 1) else x
theorem m_nextPlain {h : AH} (mt : MT h) {K : Nat → Nat} (hK : ∀ r, r < 12 → hI h 6 8 r = nI (K r) ∧ K r ≤ 5) {a : Int32} {x : Nat} (ha : a + nI 1 = nI x) (hx : x ≤ 12) : TT 77 0 [rv 3 (some 0), iv a, un] [] h 0 0 (fun y h' => h' = h ∧ y = some (iv (nI (npF K (11 - x) x)))) := by
  have loop : ∀ n x, x ≤ 12 → 11 - x = n → TT 77 4 [rv 3 (some 0), iv a, iv (nI x)] [] h 0 0 (fun y h' => h' = h ∧ y = some (iv (nI (npF K n x)))) := by
    intro n
    induction n with
    | zero =>
      intro x hx hn
      refine r_iload_n 5 d_77_4 rfl rfl ?_
      refine r_bipush 7 (nI 11) d_77_5 rfl (by decide) ?_
      refine r_icmp_ge 26 10 d_77_7 (by decide) rfl (fun c_7 => ?_) (fun c_7 => absurd (nI_le (by omega) (by omega)) c_7)
      refine r_iload_n 27 d_77_26 rfl rfl ?_
      refine r_ireturn d_77_27 rfl ?_
      exact ⟨rfl, rfl⟩
    | succ n ih =>
      intro x hx hn
      have hx12 : x < 12 := by omega
      obtain ⟨k1, k2⟩ := hK x hx12
      refine r_iload_n 5 d_77_4 rfl rfl ?_
      refine r_bipush 7 (nI 11) d_77_5 rfl (by decide) ?_
      refine r_icmp_ge 26 10 d_77_7 (by decide) rfl (fun c_7 => absurd c_7 (nI_ge (by omega) (by decide))) (fun c_7 => ?_)
      refine r_aload_n 11 d_77_10 rfl rfl ?_
      refine r_getR 14 3 8 6 (some 8) d_77_11 rfl fk_3_34 rfl (by decide) (MT.f8 mt) ?_
      refine r_iload_n 15 d_77_14 rfl rfl ?_
      refine r_iald 16 x (nI (K x)) d_77_15 rfl rfl (MT.l6_8 mt hx12) k1 ?_
      refine r_iconst 17 (nI 4) d_77_16 rfl (by decide) ?_
      refine r_icmp_lt 26 20 d_77_17 (by decide) rfl (fun c_17 => ?_) (fun c_17 => ?_)
      · skip
        refine r_iload_n 27 d_77_26 rfl rfl ?_
        refine r_ireturn d_77_27 rfl ?_
        exact ⟨rfl, by rw [npF, if_neg (Nat.not_le.mpr ((nI_ltI (by omega) (by decide)).mp c_17))]⟩
      · skip
        refine r_iinc 23 (nI (x + 1)) [rv 3 (some 0), iv a, iv (nI (x + 1))] d_77_20 rfl rfl (nI_1 x) rfl rfl ?_
        refine r_goto 4 d_77_23 (by decide) ?_
        rw [npF, if_pos (Nat.not_lt.mp (fun z => c_17 ((nI_ltI (by omega) (by decide)).mpr z)))]
        exact ih (x + 1) (by omega) (by omega)
  refine r_iload_n 1 d_77_0 rfl rfl ?_
  refine r_iconst 2 (nI 1) d_77_1 rfl (by decide) ?_
  refine r_iadd 3 (nI x) d_77_2 rfl ha ?_
  refine r_istore_n 4 [rv 3 (some 0), iv a, iv (nI x)] d_77_3 rfl rfl rfl ?_
  exact loop (11 - x) x hx rfl
