/-! the reference's heap: what never changes -/
def mfl (k : Nat) : Option Nat := match k with
  | 0 => some 0
  | 1 => some 1
  | 2 => some 2
  | 3 => some 3
  | 4 => some 4
  | 5 => some 5
  | 6 => some 6
  | 7 => some 7
  | 8 => some 8
  | 9 => some 9
  | 10 => some 10
  | 12 => some 11
  | 13 => some 0
  | 14 => some 12
  | 16 => some 13
  | 17 => some 1
  | 18 => some 14
  | 19 => some 15
  | 20 => some 16
  | 21 => some 17
  | 23 => some 2
  | 24 => some 3
  | _ => none
def ml6 (a : Nat) : Nat := match a with
  | 0 => 97
  | 1 => 97
  | 2 => 97
  | 3 => 291
  | 4 => 97
  | 5 => 97
  | 6 => 192
  | 7 => 6
  | 8 => 12
  | 9 => 12
  | 10 => 12
  | 11 => 4
  | 12 => 12
  | 13 => 97
  | 14 => 97
  | 15 => 97
  | 16 => 4
  | _ => 4
def ml7 (a : Nat) : Nat := match a with
  | 0 => 12
  | 1 => 97
  | 2 => 97
  | _ => 12
def MT (h : AH) : Prop := (∀ k, k < 25 → hR h 3 0 k = mfl k) ∧ (∀ a, a < 18 → hL h 6 a = ml6 a) ∧ ∀ a, a < 4 → hL h 7 a = ml7 a
theorem MT_sI {h : AH} (m : MT h) {a i k : Nat} {v : Int32} (_ : 0 = 0) : MT (sI h a i k v) := m
theorem MT.f0 {h : AH} (m : MT h) : hR h 3 0 0 = some 0 := m.1 0 (by decide)
theorem MT.f1 {h : AH} (m : MT h) : hR h 3 0 1 = some 1 := m.1 1 (by decide)
theorem MT.f2 {h : AH} (m : MT h) : hR h 3 0 2 = some 2 := m.1 2 (by decide)
theorem MT.f3 {h : AH} (m : MT h) : hR h 3 0 3 = some 3 := m.1 3 (by decide)
theorem MT.f4 {h : AH} (m : MT h) : hR h 3 0 4 = some 4 := m.1 4 (by decide)
theorem MT.f5 {h : AH} (m : MT h) : hR h 3 0 5 = some 5 := m.1 5 (by decide)
theorem MT.f6 {h : AH} (m : MT h) : hR h 3 0 6 = some 6 := m.1 6 (by decide)
theorem MT.f7 {h : AH} (m : MT h) : hR h 3 0 7 = some 7 := m.1 7 (by decide)
theorem MT.f8 {h : AH} (m : MT h) : hR h 3 0 8 = some 8 := m.1 8 (by decide)
theorem MT.f9 {h : AH} (m : MT h) : hR h 3 0 9 = some 9 := m.1 9 (by decide)
theorem MT.f10 {h : AH} (m : MT h) : hR h 3 0 10 = some 10 := m.1 10 (by decide)
theorem MT.f12 {h : AH} (m : MT h) : hR h 3 0 12 = some 11 := m.1 12 (by decide)
theorem MT.f13 {h : AH} (m : MT h) : hR h 3 0 13 = some 0 := m.1 13 (by decide)
theorem MT.f14 {h : AH} (m : MT h) : hR h 3 0 14 = some 12 := m.1 14 (by decide)
theorem MT.f16 {h : AH} (m : MT h) : hR h 3 0 16 = some 13 := m.1 16 (by decide)
theorem MT.f17 {h : AH} (m : MT h) : hR h 3 0 17 = some 1 := m.1 17 (by decide)
theorem MT.f18 {h : AH} (m : MT h) : hR h 3 0 18 = some 14 := m.1 18 (by decide)
theorem MT.f19 {h : AH} (m : MT h) : hR h 3 0 19 = some 15 := m.1 19 (by decide)
theorem MT.f20 {h : AH} (m : MT h) : hR h 3 0 20 = some 16 := m.1 20 (by decide)
theorem MT.f21 {h : AH} (m : MT h) : hR h 3 0 21 = some 17 := m.1 21 (by decide)
theorem MT.f23 {h : AH} (m : MT h) : hR h 3 0 23 = some 2 := m.1 23 (by decide)
theorem MT.f24 {h : AH} (m : MT h) : hR h 3 0 24 = some 3 := m.1 24 (by decide)
theorem MT.l6_0 {h : AH} (m : MT h) {j : Nat} (hj : j < 97) : j < hL h 6 0 := by rw [m.2.1 0 (by decide)]; exact hj
theorem MT.l6_1 {h : AH} (m : MT h) {j : Nat} (hj : j < 97) : j < hL h 6 1 := by rw [m.2.1 1 (by decide)]; exact hj
theorem MT.l6_2 {h : AH} (m : MT h) {j : Nat} (hj : j < 97) : j < hL h 6 2 := by rw [m.2.1 2 (by decide)]; exact hj
theorem MT.l6_3 {h : AH} (m : MT h) {j : Nat} (hj : j < 291) : j < hL h 6 3 := by rw [m.2.1 3 (by decide)]; exact hj
theorem MT.l6_4 {h : AH} (m : MT h) {j : Nat} (hj : j < 97) : j < hL h 6 4 := by rw [m.2.1 4 (by decide)]; exact hj
theorem MT.l6_5 {h : AH} (m : MT h) {j : Nat} (hj : j < 97) : j < hL h 6 5 := by rw [m.2.1 5 (by decide)]; exact hj
theorem MT.l6_6 {h : AH} (m : MT h) {j : Nat} (hj : j < 192) : j < hL h 6 6 := by rw [m.2.1 6 (by decide)]; exact hj
theorem MT.l6_7 {h : AH} (m : MT h) {j : Nat} (hj : j < 6) : j < hL h 6 7 := by rw [m.2.1 7 (by decide)]; exact hj
theorem MT.l6_8 {h : AH} (m : MT h) {j : Nat} (hj : j < 12) : j < hL h 6 8 := by rw [m.2.1 8 (by decide)]; exact hj
theorem MT.l6_9 {h : AH} (m : MT h) {j : Nat} (hj : j < 12) : j < hL h 6 9 := by rw [m.2.1 9 (by decide)]; exact hj
theorem MT.l6_10 {h : AH} (m : MT h) {j : Nat} (hj : j < 12) : j < hL h 6 10 := by rw [m.2.1 10 (by decide)]; exact hj
theorem MT.l6_11 {h : AH} (m : MT h) {j : Nat} (hj : j < 4) : j < hL h 6 11 := by rw [m.2.1 11 (by decide)]; exact hj
theorem MT.l6_12 {h : AH} (m : MT h) {j : Nat} (hj : j < 12) : j < hL h 6 12 := by rw [m.2.1 12 (by decide)]; exact hj
theorem MT.l6_13 {h : AH} (m : MT h) {j : Nat} (hj : j < 97) : j < hL h 6 13 := by rw [m.2.1 13 (by decide)]; exact hj
theorem MT.l6_14 {h : AH} (m : MT h) {j : Nat} (hj : j < 97) : j < hL h 6 14 := by rw [m.2.1 14 (by decide)]; exact hj
theorem MT.l6_15 {h : AH} (m : MT h) {j : Nat} (hj : j < 97) : j < hL h 6 15 := by rw [m.2.1 15 (by decide)]; exact hj
theorem MT.l6_16 {h : AH} (m : MT h) {j : Nat} (hj : j < 4) : j < hL h 6 16 := by rw [m.2.1 16 (by decide)]; exact hj
theorem MT.l6_17 {h : AH} (m : MT h) {j : Nat} (hj : j < 4) : j < hL h 6 17 := by rw [m.2.1 17 (by decide)]; exact hj
theorem MT.l7_0 {h : AH} (m : MT h) {j : Nat} (hj : j < 12) : j < hL h 7 0 := by rw [m.2.2 0 (by decide)]; exact hj
theorem MT.l7_1 {h : AH} (m : MT h) {j : Nat} (hj : j < 97) : j < hL h 7 1 := by rw [m.2.2 1 (by decide)]; exact hj
theorem MT.l7_2 {h : AH} (m : MT h) {j : Nat} (hj : j < 97) : j < hL h 7 2 := by rw [m.2.2 2 (by decide)]; exact hj
theorem MT.l7_3 {h : AH} (m : MT h) {j : Nat} (hj : j < 12) : j < hL h 7 3 := by rw [m.2.2 3 (by decide)]; exact hj
/-- the class's cells stay as they are -/
def cS (s : Nat) : Bool := s == 0 || s == 1 || s == 2 || s == 4 || s == 5 || s == 8
def MF (h h' : AH) : Prop := ∀ s, cS s = true → hC h' s = hC h s ∧ (∀ i, hL h' s i = hL h s i) ∧ (∀ i k, hI h' s i k = hI h s i k) ∧ ∀ i k, hR h' s i k = hR h s i k
theorem MF.rf (h : AH) : MF h h := fun _ _ => ⟨rfl, fun _ => rfl, fun _ _ => rfl, fun _ _ => rfl⟩
theorem MF.tr {h h1 h2 : AH} (a : MF h h1) (b : MF h1 h2) : MF h h2 := fun s hs =>
  ⟨(b s hs).1.trans (a s hs).1, fun i => ((b s hs).2.1 i).trans ((a s hs).2.1 i), fun i k => ((b s hs).2.2.1 i k).trans ((a s hs).2.2.1 i k), fun i k => ((b s hs).2.2.2 i k).trans ((a s hs).2.2.2 i k)⟩
theorem MF_sI {h h1 : AH} (a : MF h h1) {s i k : Nat} {v : Int32} (hs : cS s = false) : MF h (sI h1 s i k v) := fun s' hs' => by
  obtain ⟨a1, a2, a3, a4⟩ := a s' hs'
  refine ⟨a1, a2, fun i' k' => ?_, a4⟩
  rw [hI_sI, if_neg]
  · exact a3 i' k'
  · rintro ⟨rfl, -, -⟩
    rw [hs] at hs'
    cases hs'
theorem RC_MF {h h' : AH} {S : SS} (c : RC h S) (m : MF h h') : RC h' S := by
  obtain ⟨c0, l0, i0, r0⟩ := m 0 rfl
  obtain ⟨c1, l1, i1, r1⟩ := m 1 rfl
  obtain ⟨c2, l2, i2, r2⟩ := m 2 rfl
  obtain ⟨c4, l4, i4, r4⟩ := m 4 rfl
  obtain ⟨c5, l5, i5, r5⟩ := m 5 rfl
  refine ⟨⟨⟨?_, ?_, ?_, ?_⟩, ⟨?_, ?_, ?_, ?_⟩, fun r hr => ⟨?_, ?_, ?_, ?_⟩, fun o ho => ?_⟩, fun r hr => ⟨?_, ?_, ?_, ?_, fun i o ho => ⟨?_, c.ilt hr ho⟩⟩, ⟨?_, ?_⟩, fun o ho => ⟨?_, ?_, ?_, fun f v hf => ?_⟩, fun o ho => ⟨?_, ?_⟩, fun i hi => ?_, ?_, ?_, ?_, ?_, ?_⟩
  · rw [r0]; exact c.st.reg
  · rw [r0]; exact c.st.roo
  · rw [r0]; exact c.st.fnd
  · rw [r0]; exact c.st.ltg
  · rw [l5]; exact c.st.2.1.1
  · rw [l5]; exact c.st.2.1.2.1
  · rw [l4]; exact c.st.2.1.2.2.1
  · rw [l4]; exact c.st.2.1.2.2.2
  · rw [r5]; exact c.st.rat hr
  · rw [i2]; exact c.st.idx hr
  · rw [r2]; exact c.st.itm hr
  · rw [l4]; exact (c.st.2.2.1 r hr).2.2.2
  · rw [r1]; rw [c1] at ho; exact c.st.fld ho
  · rw [i2]; exact c.kd hr
  · rw [i2]; exact c.us hr
  · rw [i2]; exact c.lw hr
  · rw [i2]; exact c.ic hr
  · rw [r4]; exact c.it hr ho
  · rw [c1]; exact c.c1
  · rw [c4]; exact c.c4
  · rw [i1]; exact c.no ho
  · rw [i1]; exact c.wd ho
  · rw [l4]; exact c.fl ho
  · rw [r4]; exact c.fd ho hf
  · rw [r1]; exact c.hm ho
  · rw [i1]; exact c.so ho
  · rw [r4]; exact c.ro hi
  · rw [r0]; exact c.cu
  · rw [i0]; exact c.ct0
  · rw [i0]; exact c.ct1
  · rw [i0]; exact c.ct2
  · rw [i0]; exact c.ct3
/-- the word at which an object begins -/
def ps (S : SS) (o : Nat) : Nat := 16 * hm S o + so S o
/-- the reference's arrays hold the state: sg gives each object its slot. D: the objects that have slots; T: where they lie; G: those that are about to lie somewhere -/
def RXG (h : AH) (D T : SS) (G : List Nat) (sg : Nat → Nat) : Prop :=
  MT h ∧
  (∀ r, r < 12 → hI h 6 8 r = nI (kd T r) ∧ hI h 6 9 r = nI (us T r) ∧ hI h 6 10 r = ol (lw T r)) ∧
  (∀ o, o ∈ all D → sg o < 97 ∧ hI h 6 0 (sg o) = nI (o + 1) ∧ hI h 6 1 (sg o) = nI (wd D o) ∧ hI h 6 2 (sg o) = nI (fd D o).length ∧ ∀ f v, (fd D o)[f]? = some v → hI h 6 3 (3 * sg o + f) = ol (v.map sg)) ∧
  (∀ o, o ∈ all T → o ∈ all D ∧ hI h 6 4 (sg o) = nI (hm T o) ∧ hI h 6 5 (sg o) = nI (so T o) ∧ hI h 6 6 (ps T o) = nI (sg o)) ∧
  (∀ o o', o ∈ all D → o' ∈ all D → sg o = sg o' → o = o') ∧
  (∀ j, j < 97 → (∀ o, o ∈ all T → sg o ≠ j) → (∀ o ∈ G, sg o ≠ j) → hI h 6 4 j = -1) ∧
  (∀ w, w < 192 → (∀ o, o ∈ all T → ps T o ≠ w) → hI h 6 6 w = -1) ∧
  (∀ i, i < 6 → hI h 6 7 i = ol ((ro T i).map sg)) ∧ hI h 3 0 11 = ol (cu T) ∧ ∀ k, k < 4 → hI h 6 11 k = nI (ct T k)
abbrev RX (h : AH) (D T : SS) (sg : Nat → Nat) : Prop := RXG h D T [] sg
abbrev RM (h : AH) (S : SS) (sg : Nat → Nat) : Prop := RX h S S sg
section RMP
variable {h : AH} {D T : SS} {G : List Nat} {sg : Nat → Nat}
theorem RXG.mt (m : RXG h D T G sg) : MT h := m.1
theorem RXG.kd (m : RXG h D T G sg) {r : Nat} (hr : r < 12) : hI h 6 8 r = nI (kd T r) := (m.2.1 r hr).1
theorem RXG.us (m : RXG h D T G sg) {r : Nat} (hr : r < 12) : hI h 6 9 r = nI (us T r) := (m.2.1 r hr).2.1
theorem RXG.lw (m : RXG h D T G sg) {r : Nat} (hr : r < 12) : hI h 6 10 r = ol (lw T r) := (m.2.1 r hr).2.2
theorem RXG.lt (m : RXG h D T G sg) {o : Nat} (ho : o ∈ all D) : sg o < 97 := (m.2.2.1 o ho).1
theorem RXG.no (m : RXG h D T G sg) {o : Nat} (ho : o ∈ all D) : hI h 6 0 (sg o) = nI (o + 1) := (m.2.2.1 o ho).2.1
theorem RXG.wd (m : RXG h D T G sg) {o : Nat} (ho : o ∈ all D) : hI h 6 1 (sg o) = nI (wd D o) := (m.2.2.1 o ho).2.2.1
theorem RXG.fl (m : RXG h D T G sg) {o : Nat} (ho : o ∈ all D) : hI h 6 2 (sg o) = nI (fd D o).length := (m.2.2.1 o ho).2.2.2.1
theorem RXG.fd (m : RXG h D T G sg) {o f : Nat} {v : Option Nat} (ho : o ∈ all D) (hf : (fd D o)[f]? = some v) : hI h 6 3 (3 * sg o + f) = ol (v.map sg) := (m.2.2.1 o ho).2.2.2.2 f v hf
theorem RXG.sub (m : RXG h D T G sg) {o : Nat} (ho : o ∈ all T) : o ∈ all D := (m.2.2.2.1 o ho).1
theorem RXG.hm (m : RXG h D T G sg) {o : Nat} (ho : o ∈ all T) : hI h 6 4 (sg o) = nI (hm T o) := (m.2.2.2.1 o ho).2.1
theorem RXG.so (m : RXG h D T G sg) {o : Nat} (ho : o ∈ all T) : hI h 6 5 (sg o) = nI (so T o) := (m.2.2.2.1 o ho).2.2.1
theorem RXG.at (m : RXG h D T G sg) {o : Nat} (ho : o ∈ all T) : hI h 6 6 (ps T o) = nI (sg o) := (m.2.2.2.1 o ho).2.2.2
theorem RXG.inj (m : RXG h D T G sg) {o o' : Nat} (ho : o ∈ all D) (ho' : o' ∈ all D) (e : sg o = sg o') : o = o' := m.2.2.2.2.1 o o' ho ho' e
theorem RXG.fr (m : RXG h D T [] sg) {j : Nat} (hj : j < 97) (hn : ∀ o, o ∈ all T → sg o ≠ j) : hI h 6 4 j = -1 := m.2.2.2.2.2.1 j hj hn (fun _ z => by cases z)
theorem RXG.frG (m : RXG h D T G sg) {j : Nat} (hj : j < 97) (hn : ∀ o, o ∈ all T → sg o ≠ j) (hg : ∀ o ∈ G, sg o ≠ j) : hI h 6 4 j = -1 := m.2.2.2.2.2.1 j hj hn hg
theorem RXG.an (m : RXG h D T G sg) {w : Nat} (hw : w < 192) (hn : ∀ o, o ∈ all T → ps T o ≠ w) : hI h 6 6 w = -1 := m.2.2.2.2.2.2.1 w hw hn
theorem RXG.ro (m : RXG h D T G sg) {i : Nat} (hi : i < 6) : hI h 6 7 i = ol ((ro T i).map sg) := m.2.2.2.2.2.2.2.1 i hi
theorem RXG.cu (m : RXG h D T G sg) : hI h 3 0 11 = ol (cu T) := m.2.2.2.2.2.2.2.2.1
theorem RXG.ct (m : RXG h D T G sg) {k : Nat} (hk : k < 4) : hI h 6 11 k = nI (ct T k) := m.2.2.2.2.2.2.2.2.2 k hk
end RMP
theorem RX_CF {h h' : AH} {D T : SS} {G : List Nat} {sg : Nat → Nat} (m : RXG h D T G sg) (c : CF h h') : RXG h' D T G sg := by
  obtain ⟨c3, l3, i3, r3⟩ := c 3 rfl
  obtain ⟨c6, l6, i6, r6⟩ := c 6 rfl
  obtain ⟨c7, l7, i7, r7⟩ := c 7 rfl
  refine ⟨⟨fun k hk => ?_, fun a ha => ?_, fun a ha => ?_⟩, fun r hr => ⟨?_, ?_, ?_⟩, fun o ho => ⟨m.lt ho, ?_, ?_, ?_, fun f v hf => ?_⟩, fun o ho => ⟨m.sub ho, ?_, ?_, ?_⟩, m.2.2.2.2.1, fun j hj hn hg => ?_, fun w hw hn => ?_, fun i hi => ?_, ?_, fun k hk => ?_⟩
  · rw [r3]; exact m.mt.1 k hk
  · rw [l6]; exact m.mt.2.1 a ha
  · rw [l7]; exact m.mt.2.2 a ha
  · rw [i6]; exact m.kd hr
  · rw [i6]; exact m.us hr
  · rw [i6]; exact m.lw hr
  · rw [i6]; exact m.no ho
  · rw [i6]; exact m.wd ho
  · rw [i6]; exact m.fl ho
  · rw [i6]; exact m.fd ho hf
  · rw [i6]; exact m.hm ho
  · rw [i6]; exact m.so ho
  · rw [i6]; exact m.at ho
  · rw [i6]; exact m.frG hj hn hg
  · rw [i6]; exact m.an hw hn
  · rw [i6]; exact m.ro hi
  · rw [i3]; exact m.cu
  · rw [i6]; exact m.ct hk
theorem le_of_n5 {x : Int32} (h : ¬ x ≤ nI 5) : nI 6 ≤ x := by
  rw [Int32.le_iff_toInt_le] at h ⊢
  have e3 : (nI 5).toInt = 5 := by decide
  have e4 : (nI 6).toInt = 6 := by decide
  omega
theorem n5_of_le {x : Int32} (h : nI 6 ≤ x) (h2 : x ≤ nI 5) : False := by
  rw [Int32.le_iff_toInt_le] at h h2
  have e3 : (nI 5).toInt = 5 := by decide
  have e4 : (nI 6).toInt = 6 := by decide
  omega
theorem le_of_n11 {x : Int32} (h : ¬ x ≤ nI 11) : nI 12 ≤ x := by
  rw [Int32.le_iff_toInt_le] at h ⊢
  have e3 : (nI 11).toInt = 11 := by decide
  have e4 : (nI 12).toInt = 12 := by decide
  omega
theorem n11_of_le {x : Int32} (h : nI 12 ≤ x) (h2 : x ≤ nI 11) : False := by
  rw [Int32.le_iff_toInt_le] at h h2
  have e3 : (nI 11).toInt = 11 := by decide
  have e4 : (nI 12).toInt = 12 := by decide
  omega
theorem m_noRoot (h : AH) (a : Int32) : TT 62 0 [rv 3 (some 0), iv a] [] h 0 0 (fun x h' => h' = h ∧ x = some (iv (bI (ix 6 a).isNone))) := by
  refine r_iload_n 1 d_62_0 rfl rfl ?_
  refine r_if_lt 9 4 d_62_1 (by decide) rfl (fun c_1 => ?_) (fun c_1 => ?_)
  · skip
    refine r_iconst 10 (nI 1) d_62_9 rfl (by decide) ?_
    refine r_goto 14 d_62_10 (by decide) ?_
    refine r_zreturn d_62_14 rfl rfl ?_
    refine ⟨rfl, ?_⟩
    first | (rw [ix_lt c_1]; rfl) | (rw [ix_ge (le_of_n5 c_6)]; rfl) | (obtain ⟨j, -, -, e⟩ := ix_in (n := 6) (by decide) c_1 (fun z => n5_of_le z c_6); rw [e]; rfl)
  · skip
    refine r_iload_n 5 d_62_4 rfl rfl ?_
    refine r_iconst 6 (nI 5) d_62_5 rfl (by decide) ?_
    refine r_icmp_le 13 9 d_62_6 (by decide) rfl (fun c_6 => ?_) (fun c_6 => ?_)
    · skip
      refine r_iconst 14 (nI 0) d_62_13 rfl (by decide) ?_
      refine r_zreturn d_62_14 rfl rfl ?_
      refine ⟨rfl, ?_⟩
      first | (rw [ix_lt c_1]; rfl) | (rw [ix_ge (le_of_n5 c_6)]; rfl) | (obtain ⟨j, -, -, e⟩ := ix_in (n := 6) (by decide) c_1 (fun z => n5_of_le z c_6); rw [e]; rfl)
    · skip
      refine r_iconst 10 (nI 1) d_62_9 rfl (by decide) ?_
      refine r_goto 14 d_62_10 (by decide) ?_
      refine r_zreturn d_62_14 rfl rfl ?_
      refine ⟨rfl, ?_⟩
      first | (rw [ix_lt c_1]; rfl) | (rw [ix_ge (le_of_n5 c_6)]; rfl) | (obtain ⟨j, -, -, e⟩ := ix_in (n := 6) (by decide) c_1 (fun z => n5_of_le z c_6); rw [e]; rfl)
theorem m_noRegion (h : AH) (a : Int32) : TT 63 0 [rv 3 (some 0), iv a] [] h 0 0 (fun x h' => h' = h ∧ x = some (iv (bI (ix 12 a).isNone))) := by
  refine r_iload_n 1 d_63_0 rfl rfl ?_
  refine r_if_lt 10 4 d_63_1 (by decide) rfl (fun c_1 => ?_) (fun c_1 => ?_)
  · skip
    refine r_iconst 11 (nI 1) d_63_10 rfl (by decide) ?_
    refine r_goto 15 d_63_11 (by decide) ?_
    refine r_zreturn d_63_15 rfl rfl ?_
    refine ⟨rfl, ?_⟩
    first | (rw [ix_lt c_1]; rfl) | (rw [ix_ge (le_of_n11 c_7)]; rfl) | (obtain ⟨j, -, -, e⟩ := ix_in (n := 12) (by decide) c_1 (fun z => n11_of_le z c_7); rw [e]; rfl)
  · skip
    refine r_iload_n 5 d_63_4 rfl rfl ?_
    refine r_bipush 7 (nI 11) d_63_5 rfl (by decide) ?_
    refine r_icmp_le 14 10 d_63_7 (by decide) rfl (fun c_7 => ?_) (fun c_7 => ?_)
    · skip
      refine r_iconst 15 (nI 0) d_63_14 rfl (by decide) ?_
      refine r_zreturn d_63_15 rfl rfl ?_
      refine ⟨rfl, ?_⟩
      first | (rw [ix_lt c_1]; rfl) | (rw [ix_ge (le_of_n11 c_7)]; rfl) | (obtain ⟨j, -, -, e⟩ := ix_in (n := 12) (by decide) c_1 (fun z => n11_of_le z c_7); rw [e]; rfl)
    · skip
      refine r_iconst 11 (nI 1) d_63_10 rfl (by decide) ?_
      refine r_goto 15 d_63_11 (by decide) ?_
      refine r_zreturn d_63_15 rfl rfl ?_
      refine ⟨rfl, ?_⟩
      first | (rw [ix_lt c_1]; rfl) | (rw [ix_ge (le_of_n11 c_7)]; rfl) | (obtain ⟨j, -, -, e⟩ := ix_in (n := 12) (by decide) c_1 (fun z => n11_of_le z c_7); rw [e]; rfl)
