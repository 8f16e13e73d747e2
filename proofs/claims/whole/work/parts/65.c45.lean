/-! the reference: objects change places -/
def XH (h h' : AH) : Prop := MF h h' ∧ (∀ s i, hL h' s i = hL h s i) ∧ (∀ s i k, hR h' s i k = hR h s i k) ∧ (∀ a k, a < 12 → a ≠ 4 → a ≠ 5 → a ≠ 6 → hI h' 6 a k = hI h 6 a k) ∧ hI h' 3 0 11 = hI h 3 0 11
theorem XH.rf (h : AH) : XH h h := ⟨MF.rf h, fun _ _ => rfl, fun _ _ _ => rfl, fun _ _ _ _ _ _ => rfl, rfl⟩
theorem XH_sI {h h1 : AH} (x : XH h h1) {a k : Nat} {v : Int32} (ha : a = 4 ∨ a = 5 ∨ a = 6) : XH h (sI h1 6 a k v) := by
  refine ⟨MF_sI x.1 rfl, x.2.1, x.2.2.1, fun b k' h1 h4 h5 h6 => ?_, (wS (by decide)).trans x.2.2.2.2⟩
  rw [w6n (by omega)]
  exact x.2.2.2.1 b k' h1 h4 h5 h6
theorem RX_place {h h' : AH} {D T T' : SS} {G G' : List Nat} {sg : Nat → Nat} (m : RXG h D T G sg) (x : XH h h') (e1 : ∀ r, r < 12 → kd T' r = kd T r ∧ us T' r = us T r ∧ lw T' r = lw T r) (e2 : ro T' = ro T ∧ cu T' = cu T ∧ ct T' = ct T) (s : ∀ o, o ∈ all T' → o ∈ all D) (p : ∀ o, o ∈ all T' → hI h' 6 4 (sg o) = nI (hm T' o) ∧ hI h' 6 5 (sg o) = nI (so T' o) ∧ hI h' 6 6 (ps T' o) = nI (sg o)) (n4 : ∀ j, j < 97 → (∀ o, o ∈ all T' → sg o ≠ j) → (∀ o ∈ G', sg o ≠ j) → hI h' 6 4 j = -1) (n6 : ∀ w, w < 192 → (∀ o, o ∈ all T' → ps T' o ≠ w) → hI h' 6 6 w = -1) : RXG h' D T' G' sg := by
  obtain ⟨x1, x2, x3, x4, x5⟩ := x
  refine ⟨⟨fun k hk => (x3 3 0 k).trans (m.mt.1 k hk), fun a ha => (x2 6 a).trans (m.mt.2.1 a ha), fun a ha => (x2 7 a).trans (m.mt.2.2 a ha)⟩, fun r hr => ?_, fun o ho => ⟨m.lt ho, ?_, ?_, ?_, fun f v hf => ?_⟩, fun o ho => ⟨s o ho, p o ho⟩, m.2.2.2.2.1, n4, n6, fun i hi => ?_, ?_, fun k hk => ?_⟩
  · obtain ⟨a, b, c⟩ := e1 r hr
    rw [a, b, c, x4 8 _ (by decide) (by decide) (by decide) (by decide), x4 9 _ (by decide) (by decide) (by decide) (by decide), x4 10 _ (by decide) (by decide) (by decide) (by decide)]
    exact ⟨m.kd hr, m.us hr, m.lw hr⟩
  · rw [x4 0 _ (by decide) (by decide) (by decide) (by decide)]; exact m.no ho
  · rw [x4 1 _ (by decide) (by decide) (by decide) (by decide)]; exact m.wd ho
  · rw [x4 2 _ (by decide) (by decide) (by decide) (by decide)]; exact m.fl ho
  · rw [x4 3 _ (by decide) (by decide) (by decide) (by decide)]; exact m.fd ho hf
  · rw [x4 7 _ (by decide) (by decide) (by decide) (by decide), e2.1]; exact m.ro hi
  · rw [x5, e2.2.1]; exact m.cu
  · rw [x4 11 _ (by decide) (by decide) (by decide) (by decide), e2.2.2]; exact m.ct hk
/-- another name for the same places -/
theorem RX_mem {h : AH} {D T T' : SS} {G : List Nat} {sg : Nat → Nat} (m : RXG h D T G sg) (e : ∀ o, o ∈ all T' ↔ o ∈ all T) (e1 : ∀ r, r < 12 → kd T' r = kd T r ∧ us T' r = us T r ∧ lw T' r = lw T r) (e2 : ro T' = ro T ∧ cu T' = cu T ∧ ct T' = ct T) (e3 : hm T' = hm T ∧ so T' = so T) : RXG h D T' G sg := by
  have hps : ∀ o, ps T' o = ps T o := fun o => by unfold ps; rw [e3.1, e3.2]
  refine RX_place m (XH.rf h) e1 e2 (fun o ho => m.sub ((e o).mp ho)) (fun o ho => ?_) (fun j hj hn hg => m.frG hj (fun o ho => hn o ((e o).mpr ho)) hg) (fun w hw hn => m.an hw (fun o ho => by rw [← hps]; exact hn o ((e o).mpr ho)))
  rw [hps, e3.1, e3.2]
  exact ⟨m.hm ((e o).mp ho), m.so ((e o).mp ho), m.at ((e o).mp ho)⟩
/-- an object goes -/
theorem RX_del {h h' : AH} {D T T' : SS} {G : List Nat} {sg : Nat → Nat} (m : RXG h D T G sg) (x : XH h h') {o : Nat} (ho : o ∈ all T) (r4 : ∀ j, hI h' 6 4 j = if j = sg o then -1 else hI h 6 4 j) (r5 : ∀ j, hI h' 6 5 j = hI h 6 5 j) (r6 : ∀ w, hI h' 6 6 w = if w = ps T o then -1 else hI h 6 6 w) (inj : ∀ y, y ∈ all T → ps T y = ps T o → y = o) (e : ∀ y, y ∈ all T' ↔ y ∈ all T ∧ y ≠ o) (e1 : ∀ r, r < 12 → kd T' r = kd T r ∧ us T' r = us T r ∧ lw T' r = lw T r) (e2 : ro T' = ro T ∧ cu T' = cu T ∧ ct T' = ct T) (e3 : hm T' = hm T ∧ so T' = so T) : RXG h' D T' G sg := by
  have hps : ∀ o, ps T' o = ps T o := fun o => by unfold ps; rw [e3.1, e3.2]
  refine RX_place m x e1 e2 (fun y hy => m.sub ((e y).mp hy).1) (fun y hy => ?_) (fun j hj hn hg => ?_) (fun w hw hn => ?_)
  · obtain ⟨a, b⟩ := (e y).mp hy
    rw [hps, e3.1, e3.2, r4, r5, r6, if_neg (fun z => b (m.inj (m.sub a) (m.sub ho) z)), if_neg (fun z => b (inj y a z))]
    exact ⟨m.hm a, m.so a, m.at a⟩
  · rw [r4]
    split
    · rfl
    · rename_i hne
      refine m.frG hj (fun y hy z => ?_) hg
      by_cases ey : y = o
      · subst ey; exact hne z.symm
      · exact hn y ((e y).mpr ⟨hy, ey⟩) z
  · rw [r6]
    split
    · rfl
    · rename_i hne
      refine m.an hw (fun y hy z => ?_)
      by_cases ey : y = o
      · subst ey; exact hne z.symm
      · exact hn y ((e y).mpr ⟨hy, ey⟩) (by rw [hps]; exact z)
/-- an object is taken up: its word is empty, its slot isn't -/
theorem RX_pend {h h' : AH} {D T T' : SS} {G G' : List Nat} {sg : Nat → Nat} (m : RXG h D T G sg) (x : XH h h') {o : Nat} (_ho : o ∈ all T) (r4 : ∀ j, hI h' 6 4 j = hI h 6 4 j) (r5 : ∀ j, hI h' 6 5 j = hI h 6 5 j) (r6 : ∀ w, hI h' 6 6 w = if w = ps T o then -1 else hI h 6 6 w) (inj : ∀ y, y ∈ all T → ps T y = ps T o → y = o) (e : ∀ y, y ∈ all T' ↔ y ∈ all T ∧ y ≠ o) (e1 : ∀ r, r < 12 → kd T' r = kd T r ∧ us T' r = us T r ∧ lw T' r = lw T r) (e2 : ro T' = ro T ∧ cu T' = cu T ∧ ct T' = ct T) (e3 : hm T' = hm T ∧ so T' = so T) (hG : ∀ y, y ∈ G ∨ y = o → y ∈ G') : RXG h' D T' G' sg := by
  have hps : ∀ o, ps T' o = ps T o := fun o => by unfold ps; rw [e3.1, e3.2]
  refine RX_place m x e1 e2 (fun y hy => m.sub ((e y).mp hy).1) (fun y hy => ?_) (fun j hj hn hg => ?_) (fun w hw hn => ?_)
  · obtain ⟨a, b⟩ := (e y).mp hy
    rw [hps, e3.1, e3.2, r4, r5, r6, if_neg (fun z => b (inj y a z))]
    exact ⟨m.hm a, m.so a, m.at a⟩
  · rw [r4]
    refine m.frG hj (fun y hy z => ?_) (fun y hy => hg y (hG y (Or.inl hy)))
    by_cases ey : y = o
    · subst ey; exact hg y (hG y (Or.inr rfl)) z
    · exact hn y ((e y).mpr ⟨hy, ey⟩) z
  · rw [r6]
    split
    · rfl
    · rename_i hne
      refine m.an hw (fun y hy z => ?_)
      by_cases ey : y = o
      · subst ey; exact hne z.symm
      · exact hn y ((e y).mpr ⟨hy, ey⟩) (by rw [hps]; exact z)
/-- an object is put behind what a region holds -/
def ptS (T : SS) (r o : Nat) : SS := mkS (kd T) (us T) (lw T) (va_up (itm T) r (itm T r ++ [o])) (ro T) (wd T) (fd T) (va_up (hm T) o r) (va_up (so T) o (us T r)) (cu T) (ct T)
theorem RX_put {h : AH} {D T : SS} {G G' : List Nat} {sg : Nat → Nat} (m : RXG h D T G sg) {o r : Nat} (ho : o ∈ all D) (hn : o ∉ all T) (hr : r < 12) (hfree : ∀ y, y ∈ all T → ps T y ≠ 16 * r + us T r) (hG : ∀ y ∈ G, y = o ∨ y ∈ G') : RXG (putH h (sg o) r (us T r)) D (ptS T r o) G' sg := by
  have hal : ∀ y, y ∈ all (ptS T r o) ↔ y = o ∨ y ∈ all T := fun y => all_ap_iff hr
  have r4 : ∀ j, hI (putH h (sg o) r (us T r)) 6 4 j = if j = sg o then nI r else hI h 6 4 j := fun j => by
    unfold putH
    rw [w6n (by decide), w6n (by decide), wA]
  have r5 : ∀ j, hI (putH h (sg o) r (us T r)) 6 5 j = if j = sg o then nI (us T r) else hI h 6 5 j := fun j => by
    unfold putH
    rw [w6n (by decide), wA, w6n (by decide)]
  have r6 : ∀ j, hI (putH h (sg o) r (us T r)) 6 6 j = if j = 16 * r + us T r then nI (sg o) else hI h 6 6 j := fun j => by
    unfold putH
    rw [wA, w6n (by decide), w6n (by decide)]
  have po : ps (ptS T r o) o = 16 * r + us T r := by
    show 16 * va_up (hm T) o r o + va_up (so T) o (us T r) o = _
    rw [va_up_self, va_up_self]
  have pn : ∀ y, y ≠ o → ps (ptS T r o) y = ps T y := fun y hy => by
    show 16 * va_up (hm T) o r y + va_up (so T) o (us T r) y = _
    rw [va_up_ne _ _ hy, va_up_ne _ _ hy]
    rfl
  refine RX_place m (XH_sI (XH_sI (XH_sI (XH.rf h) (by decide)) (by decide)) (by decide)) (fun r _ => ⟨rfl, rfl, rfl⟩) ⟨rfl, rfl, rfl⟩ (fun y hy => ?_) (fun y hy => ?_) (fun j hj hnj hg => ?_) (fun w hw hnw => ?_)
  · rcases (hal y).mp hy with z | z
    · rw [z]; exact ho
    · exact m.sub z
  · rw [r4, r5, r6]
    by_cases e : y = o
    · subst e
      rw [if_pos rfl, if_pos rfl, if_pos po]
      refine ⟨?_, ?_, rfl⟩
      · show _ = nI (va_up (hm T) y r y)
        rw [va_up_self]
      · show _ = nI (va_up (so T) y (us T r) y)
        rw [va_up_self]
    · have ya : y ∈ all T := ((hal y).mp hy).resolve_left e
      have hne : sg y ≠ sg o := fun z => e (m.inj (m.sub ya) ho z)
      rw [if_neg hne, if_neg hne, pn y e, if_neg (hfree y ya)]
      refine ⟨?_, ?_, m.at ya⟩
      · show _ = nI (va_up (hm T) o r y)
        rw [va_up_ne _ _ e]; exact m.hm ya
      · show _ = nI (va_up (so T) o (us T r) y)
        rw [va_up_ne _ _ e]; exact m.so ya
  · rw [r4, if_neg (fun z => hnj o ((hal o).mpr (Or.inl rfl)) z.symm)]
    refine m.frG hj (fun y hy => hnj y ((hal y).mpr (Or.inr hy))) (fun y hy => ?_)
    rcases hG y hy with z | z
    · rw [z]; exact hnj o ((hal o).mpr (Or.inl rfl))
    · exact hg y z
  · rw [r6, if_neg (fun z => hnw o ((hal o).mpr (Or.inl rfl)) (po.trans z.symm))]
    refine m.an hw (fun y hy => ?_)
    have hyo : y ≠ o := fun z => hn (z ▸ hy)
    rw [← pn y hyo]
    exact hnw y ((hal y).mpr (Or.inr hy))
/-- the objects that have slots may be just those that lie somewhere -/
theorem RX_D {h : AH} {D T : SS} {sg : Nat → Nat} (m : RX h D T sg) (e1 : wd T = wd D) (e2 : fd T = fd D) : RM h T sg := by
  refine ⟨m.1, m.2.1, fun o ho => ?_, fun o ho => ⟨ho, (m.2.2.2.1 o ho).2⟩, fun o o' ho ho' => m.inj (m.sub ho) (m.sub ho'), m.2.2.2.2.2⟩
  rw [e1, e2]
  exact m.2.2.1 o (m.sub ho)
def flS (S : SS) (p : Nat → Bool) : SS := mkS (kd S) (us S) (lw S) (fun r => (itm S r).filter p) (ro S) (wd S) (fd S) (hm S) (so S) (cu S) (ct S)
theorem fl_mem {S : SS} {p : Nat → Bool} {o : Nat} : o ∈ all (flS S p) ↔ o ∈ all S ∧ p o = true := by
  rw [mem_all, mem_all]
  constructor
  · rintro ⟨r, hr, h⟩
    have h : o ∈ (itm S r).filter p := h
    rw [List.mem_filter] at h
    exact ⟨⟨r, hr, h.1⟩, h.2⟩
  · rintro ⟨⟨r, hr, h⟩, hp⟩
    refine ⟨r, hr, ?_⟩
    show o ∈ (itm S r).filter p
    rw [List.mem_filter]
    exact ⟨h, hp⟩
/-- objects lie below 16, and apart from the end of a region -/
theorem so_ltR {T : SS} (p : PL T) (ri : ∀ r, r < 12 → RI T r) (w2 : ∀ o, o ∈ all T → 2 ≤ wd T o) {o : Nat} (ho : o ∈ all T) : so T o < 16 := by
  obtain ⟨r, hr, hit⟩ := mem_all.mp ho
  obtain ⟨i, hi⟩ := List.getElem?_of_mem hit
  obtain ⟨e, hs⟩ := p r i o hr hi
  have hlt := (List.getElem?_eq_some_iff.mp hi).1
  have hw := w2 o ho
  have hm1 := sw_mono (S := T) (j := (itm T r).length) hi hlt (by omega)
  rw [List.take_length] at hm1
  obtain ⟨k0, k13, k4, k5, kle⟩ := ri r hr
  have hne : itm T r ≠ [] := fun z => by rw [z] at hi; cases hi
  have h0 : kd T r ≠ 0 := fun z => hne (k0 z).1
  have h5 : kd T r ≠ 5 := fun z => hne (k5 z).1
  by_cases h4 : kd T r = 4
  · obtain ⟨⟨o', ho', -⟩, -, -⟩ := k4 h4
    rw [ho'] at hlt
    have : i = 0 := by simpa using hlt
    rw [hs, this]
    exact Nat.zero_lt_succ _
  · obtain ⟨e1, e2, -, -⟩ := k13 (by omega) (by omega)
    omega
theorem free_pos {T : SS} (p : PL T) (ri : ∀ r, r < 12 → RI T r) (w2 : ∀ o, o ∈ all T → 2 ≤ wd T o) {r : Nat} (hr : r < 12) (hu : us T r = sw T (itm T r)) (hlt : us T r < 16) : ∀ y, y ∈ all T → ps T y ≠ 16 * r + us T r := by
  intro y hy z
  have hs := so_ltR p ri w2 hy
  unfold ps at z
  have e : hm T y = r := by omega
  have e2 : so T y = us T r := by omega
  obtain ⟨r', hr', hit⟩ := mem_all.mp hy
  obtain ⟨i, hi⟩ := List.getElem?_of_mem hit
  obtain ⟨a, b⟩ := p r' i y hr' hi
  have er : r' = r := by omega
  subst er
  have := sw_mono (S := T) (j := (itm T r').length) hi (List.getElem?_eq_some_iff.mp hi).1 (by have := w2 y hy; omega)
  rw [List.take_length] at this
  omega
