/-! ints -/
def bI (b : Bool) : Int32 := if b = true then nI 1 else nI 0
theorem bI_t : bI true = nI 1 := rfl
theorem bI_f : bI false = nI 0 := rfl
theorem bI_0 {b : Bool} (h : bI b = 0) : b = false := by
  cases b with
  | false => rfl
  | true => exact absurd h (by decide)
theorem bI_1 {b : Bool} (h : ¬ bI b = 0) : b = true := by
  cases b with
  | true => rfl
  | false => exact absurd rfl h
theorem bI_nar (b : Bool) : narrow .boolean (.int (bI b)) = .int (bI b) := by cases b <;> rfl
/-- an int as an index below n -/
def ix (n : Nat) (a : Int32) : Option Nat := if a < 0 then none else if nI n ≤ a then none else some a.toNatClampNeg
theorem ix_lt {n : Nat} {a : Int32} (h : a < 0) : ix n a = none := if_pos h
theorem ix_ge {n : Nat} {a : Int32} (h : nI n ≤ a) : ix n a = none := by
  by_cases h0 : a < 0
  · exact if_pos h0
  · rw [ix, if_neg h0, if_pos h]
theorem ix_in {n : Nat} {a : Int32} (hn : n < 2 ^ 31) (h1 : ¬ a < 0) (h2 : ¬ nI n ≤ a) : ∃ j, j < n ∧ a = nI j ∧ ix n a = some j := by
  rcases pk_ix a hn with q | q | ⟨j, hj, rfl⟩
  · exact absurd q h1
  · exact absurd q h2
  · exact ⟨j, hj, rfl, by rw [ix, if_neg h1, if_neg h2, nI_clamp (by omega)]⟩
theorem ix_nI {n j : Nat} (hn : n < 2 ^ 31) (hj : j < n) : ix n (nI j) = some j := by
  obtain ⟨i, h1, h2, h3⟩ := ix_in (n := n) (a := nI j) hn (nI_pos (by omega)) (nI_ge hj hn)
  rw [h3, (nI_eq (by omega) (by omega)).mp h2]
theorem ix_some {n j : Nat} {a : Int32} (hn : n < 2 ^ 31) (h : ix n a = some j) : j < n ∧ a = nI j := by
  by_cases h1 : a < 0
  · rw [ix_lt h1] at h; cases h
  · by_cases h2 : nI n ≤ a
    · rw [ix_ge h2] at h; cases h
    · obtain ⟨i, a1, a2, a3⟩ := ix_in hn h1 h2
      rw [a3] at h
      cases h
      exact ⟨a1, a2⟩
/-! the class's heap: what never changes, and what the rest stands for -/
def ol (x : Option Nat) : Int32 := match x with
  | none => -1
  | some n => nI n
def ST (h : AH) : Prop := (hR h 0 0 0 = some 0 ∧ hR h 0 0 1 = some 12 ∧ hR h 0 0 2 = some 13 ∧ hR h 0 0 4 = some 1) ∧ (hL h 5 0 = 12 ∧ hL h 5 1 = 4 ∧ hL h 4 12 = 6 ∧ hL h 4 13 = 96) ∧ (∀ r, r < 12 → hR h 5 0 r = some r ∧ hI h 2 r 0 = nI r ∧ hR h 2 r 1 = some r ∧ hL h 4 r = 8) ∧ (∀ o, o < hC h 1 → hR h 1 o 2 = some (14 + o))
theorem ST.reg {h : AH} (s : ST h) : hR h 0 0 0 = some 0 := s.1.1
theorem ST.roo {h : AH} (s : ST h) : hR h 0 0 1 = some 12 := s.1.2.1
theorem ST.fnd {h : AH} (s : ST h) : hR h 0 0 2 = some 13 := s.1.2.2.1
theorem ST.ltg {h : AH} (s : ST h) : hR h 0 0 4 = some 1 := s.1.2.2.2
theorem ST.l50 {h : AH} (s : ST h) {j : Nat} (hj : j < 12) : j < hL h 5 0 := by rw [s.2.1.1]; exact hj
theorem ST.l51 {h : AH} (s : ST h) {j : Nat} (hj : j < 4) : j < hL h 5 1 := by rw [s.2.1.2.1]; exact hj
theorem ST.lro {h : AH} (s : ST h) {j : Nat} (hj : j < 6) : j < hL h 4 12 := by rw [s.2.1.2.2.1]; exact hj
theorem ST.lfn {h : AH} (s : ST h) {j : Nat} (hj : j < 96) : j < hL h 4 13 := by rw [s.2.1.2.2.2]; exact hj
theorem ST.rat {h : AH} (s : ST h) {r : Nat} (hr : r < 12) : hR h 5 0 r = some r := (s.2.2.1 r hr).1
theorem ST.idx {h : AH} (s : ST h) {r : Nat} (hr : r < 12) : hI h 2 r 0 = nI r := (s.2.2.1 r hr).2.1
theorem ST.itm {h : AH} (s : ST h) {r : Nat} (hr : r < 12) : hR h 2 r 1 = some r := (s.2.2.1 r hr).2.2.1
theorem ST.lit {h : AH} (s : ST h) {r j : Nat} (hr : r < 12) (hj : j < 8) : j < hL h 4 r := by rw [(s.2.2.1 r hr).2.2.2]; exact hj
theorem ST.fld {h : AH} (s : ST h) {o : Nat} (ho : o < hC h 1) : hR h 1 o 2 = some (14 + o) := s.2.2.2 o ho
theorem ST_sI {h : AH} (s : ST h) {a i k : Nat} {v : Int32} (hk : (a == 2 && k == 0) = false) : ST (sI h a i k v) := by
  refine ⟨s.1, s.2.1, fun r hr => ⟨(s.2.2.1 r hr).1, ?_, (s.2.2.1 r hr).2.2⟩, s.2.2.2⟩
  rw [hI_sI, if_neg]
  · exact s.idx hr
  · rintro ⟨rfl, rfl, rfl⟩
    simp at hk
def stR (s i k : Nat) : Bool := (s == 0 && (k == 0 || k == 1 || k == 2 || k == 4)) || (s == 5 && i == 0) || (s == 2 && k == 1) || (s == 1 && k == 2)
theorem ST_sR {h : AH} (s : ST h) {a i k : Nat} {v : Option Nat} (hk : stR a i k = false) : ST (sR h a i k v) := by
  have key : ∀ a' i' k', stR a' i' k' = true → hR (sR h a i k v) a' i' k' = hR h a' i' k' := by
    intro a' i' k' hx
    rw [hR_sR, if_neg]
    rintro ⟨rfl, rfl, rfl⟩
    rw [hk] at hx
    cases hx
  refine ⟨⟨?_, ?_, ?_, ?_⟩, s.2.1, fun r hr => ⟨?_, s.idx hr, ?_, (s.2.2.1 r hr).2.2.2⟩, fun o ho => ?_⟩
  · rw [key 0 0 0 rfl]; exact s.reg
  · rw [key 0 0 1 rfl]; exact s.roo
  · rw [key 0 0 2 rfl]; exact s.fnd
  · rw [key 0 0 4 rfl]; exact s.ltg
  · rw [key 5 0 r rfl]; exact s.rat hr
  · rw [key 2 r 1 rfl]; exact s.itm hr
  · rw [key 1 o 2 rfl]; exact s.fld ho
/-! the state that both sides stand for -/
abbrev SS : Type := (Nat → Nat) × (Nat → Nat) × (Nat → Option Nat) × (Nat → List Nat) × (Nat → Option Nat) × (Nat → Nat) × (Nat → List (Option Nat)) × (Nat → Nat) × (Nat → Nat) × Option Nat × (Nat → Nat)
/-- kind, used words, live words, objects of a region -/
def kd (S : SS) : Nat → Nat := S.1
def us (S : SS) : Nat → Nat := S.2.1
def lw (S : SS) : Nat → Option Nat := S.2.2.1
def itm (S : SS) : Nat → List Nat := S.2.2.2.1
/-- what a root holds -/
def ro (S : SS) : Nat → Option Nat := S.2.2.2.2.1
/-- size, fields, region, offset of an object -/
def wd (S : SS) : Nat → Nat := S.2.2.2.2.2.1
def fd (S : SS) : Nat → List (Option Nat) := S.2.2.2.2.2.2.1
def hm (S : SS) : Nat → Nat := S.2.2.2.2.2.2.2.1
def so (S : SS) : Nat → Nat := S.2.2.2.2.2.2.2.2.1
/-- the young region in use; the counts -/
def cu (S : SS) : Option Nat := S.2.2.2.2.2.2.2.2.2.1
def ct (S : SS) : Nat → Nat := S.2.2.2.2.2.2.2.2.2.2
def all (S : SS) : List Nat := (List.range 12).flatMap (itm S)
def mkS (a : Nat → Nat) (b : Nat → Nat) (c : Nat → Option Nat) (d : Nat → List Nat) (e : Nat → Option Nat) (f : Nat → Nat) (g : Nat → List (Option Nat)) (i : Nat → Nat) (j : Nat → Nat) (k : Option Nat) (l : Nat → Nat) : SS := (a, b, c, d, e, f, g, i, j, k, l)
theorem mem_all {S : SS} {o : Nat} : o ∈ all S ↔ ∃ r, r < 12 ∧ o ∈ itm S r := by
  simp [all, List.mem_flatMap]
def RC (h : AH) (S : SS) : Prop :=
  ST h ∧
  (∀ r, r < 12 → hI h 2 r 3 = nI (kd S r) ∧ hI h 2 r 4 = nI (us S r) ∧ hI h 2 r 5 = ol (lw S r) ∧ hI h 2 r 2 = nI (itm S r).length ∧ ∀ i o, (itm S r)[i]? = some o → hR h 4 r i = some o ∧ o < ct S 3) ∧
  (hC h 1 = ct S 3 ∧ hC h 4 = 14 + ct S 3) ∧
  (∀ o, o < ct S 3 → hI h 1 o 0 = nI (o + 1) ∧ hI h 1 o 1 = nI (wd S o) ∧ hL h 4 (14 + o) = (fd S o).length ∧ ∀ f v, (fd S o)[f]? = some v → hR h 4 (14 + o) f = v) ∧
  (∀ o, o ∈ all S → hR h 1 o 3 = some (hm S o) ∧ hI h 1 o 4 = nI (so S o)) ∧
  (∀ i, i < 6 → hR h 4 12 i = ro S i) ∧ hR h 0 0 5 = cu S ∧ (hI h 0 0 6 = nI (ct S 0) ∧ hI h 0 0 7 = nI (ct S 1) ∧ hI h 0 0 8 = nI (ct S 2) ∧ hI h 0 0 9 = nI (ct S 3))
section RCP
variable {h : AH} {S : SS}
theorem RC.st (c : RC h S) : ST h := c.1
theorem RC.kd (c : RC h S) {r : Nat} (hr : r < 12) : hI h 2 r 3 = nI (kd S r) := (c.2.1 r hr).1
theorem RC.us (c : RC h S) {r : Nat} (hr : r < 12) : hI h 2 r 4 = nI (us S r) := (c.2.1 r hr).2.1
theorem RC.lw (c : RC h S) {r : Nat} (hr : r < 12) : hI h 2 r 5 = ol (lw S r) := (c.2.1 r hr).2.2.1
theorem RC.ic (c : RC h S) {r : Nat} (hr : r < 12) : hI h 2 r 2 = nI (itm S r).length := (c.2.1 r hr).2.2.2.1
theorem RC.it (c : RC h S) {r i o : Nat} (hr : r < 12) (ho : (itm S r)[i]? = some o) : hR h 4 r i = some o := ((c.2.1 r hr).2.2.2.2 i o ho).1
theorem RC.ilt (c : RC h S) {r i o : Nat} (hr : r < 12) (ho : (itm S r)[i]? = some o) : o < ct S 3 := ((c.2.1 r hr).2.2.2.2 i o ho).2
theorem RC.c1 (c : RC h S) : hC h 1 = ct S 3 := c.2.2.1.1
theorem RC.c4 (c : RC h S) : hC h 4 = 14 + ct S 3 := c.2.2.1.2
theorem RC.no (c : RC h S) {o : Nat} (ho : o < ct S 3) : hI h 1 o 0 = nI (o + 1) := (c.2.2.2.1 o ho).1
theorem RC.wd (c : RC h S) {o : Nat} (ho : o < ct S 3) : hI h 1 o 1 = nI (wd S o) := (c.2.2.2.1 o ho).2.1
theorem RC.fl (c : RC h S) {o : Nat} (ho : o < ct S 3) : hL h 4 (14 + o) = (fd S o).length := (c.2.2.2.1 o ho).2.2.1
theorem RC.fd (c : RC h S) {o f : Nat} {v : Option Nat} (ho : o < ct S 3) (hf : (fd S o)[f]? = some v) : hR h 4 (14 + o) f = v := (c.2.2.2.1 o ho).2.2.2 f v hf
theorem RC.hm (c : RC h S) {o : Nat} (ho : o ∈ all S) : hR h 1 o 3 = some (hm S o) := (c.2.2.2.2.1 o ho).1
theorem RC.so (c : RC h S) {o : Nat} (ho : o ∈ all S) : hI h 1 o 4 = nI (so S o) := (c.2.2.2.2.1 o ho).2
theorem RC.ro (c : RC h S) {i : Nat} (hi : i < 6) : hR h 4 12 i = ro S i := c.2.2.2.2.2.1 i hi
theorem RC.cu (c : RC h S) : hR h 0 0 5 = cu S := c.2.2.2.2.2.2.1
theorem RC.ct0 (c : RC h S) : hI h 0 0 6 = nI (ct S 0) := c.2.2.2.2.2.2.2.1
theorem RC.ct1 (c : RC h S) : hI h 0 0 7 = nI (ct S 1) := c.2.2.2.2.2.2.2.2.1
theorem RC.ct2 (c : RC h S) : hI h 0 0 8 = nI (ct S 2) := c.2.2.2.2.2.2.2.2.2.1
theorem RC.ct3 (c : RC h S) : hI h 0 0 9 = nI (ct S 3) := c.2.2.2.2.2.2.2.2.2.2
theorem RC.mlt (c : RC h S) {o : Nat} (ho : o ∈ all S) : o < ct S 3 := by
  obtain ⟨r, hr, h2⟩ := mem_all.mp ho
  obtain ⟨i, hi⟩ := List.getElem?_of_mem h2
  exact c.ilt hr hi
end RCP
