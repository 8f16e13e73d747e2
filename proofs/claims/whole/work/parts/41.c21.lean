/-! a full collection keeps the invariant -/
theorem all_ap_iff {S : SS} {r o x : Nat} (hr : r < 12) : x ∈ all (apS S r o) ↔ x = o ∨ x ∈ all S := by
  refine ⟨all_ap, fun h => ?_⟩
  rcases h with rfl | h
  · refine mem_all.mpr ⟨r, hr, ?_⟩
    show x ∈ va_up (itm S) r (itm S r ++ [x]) r
    rw [va_up_self]
    simp
  · obtain ⟨r', h1, h2⟩ := mem_all.mp h
    refine mem_all.mpr ⟨r', h1, ?_⟩
    show x ∈ va_up (itm S) r (itm S r ++ [o]) r'
    by_cases e : r' = r
    · subst e
      rw [va_up_self]
      exact List.mem_append_left _ h2
    · rw [va_up_ne _ _ e]; exact h2
theorem PL_ap {S : SS} (p : PL S) {r o : Nat} (hr : r < 12) (ho : o ∉ all S) (hu : us S r = sw S (itm S r)) : PL (apS S r o) := by
  intro r' i x hr' hx
  have hx' : (va_up (itm S) r (itm S r ++ [o]) r')[i]? = some x := hx
  show va_up (hm S) o r x = r' ∧ va_up (so S) o (us S r) x = sw S ((va_up (itm S) r (itm S r ++ [o]) r').take i)
  have old : ∀ q, (itm S r')[i]? = some x → q = itm S r' → va_up (hm S) o r x = r' ∧ va_up (so S) o (us S r) x = sw S (q.take i) := by
    intro q hq eq
    have hne : x ≠ o := fun z => ho (z ▸ mem_it hr' hq)
    rw [va_up_ne _ _ hne, va_up_ne _ _ hne, eq]
    exact p r' i x hr' hq
  by_cases e : r' = r
  · subst e
    rw [va_up_self] at hx' ⊢
    by_cases hl : i < (itm S r').length
    · rw [List.getElem?_append_left hl] at hx'
      rw [List.take_append_of_le_length (Nat.le_of_lt hl)]
      exact old _ hx' rfl
    · rw [List.getElem?_append_right (by omega)] at hx'
      have hz : i - (itm S r').length = 0 := by have := (List.getElem?_eq_some_iff.mp hx').1; simp at this; omega
      rw [hz] at hx'
      cases hx'
      obtain rfl : i = (itm S r').length := by omega
      rw [va_up_self, va_up_self, List.take_left]
      exact ⟨rfl, hu⟩
  · rw [va_up_ne _ _ e] at hx' ⊢
    exact old _ hx' rfl
/-- what is to be placed: new, apart, small -/
def NW (T : SS) (gl : List Nat) : Prop := gl.Nodup ∧ ∀ o ∈ gl, o ∉ all T ∧ 2 ≤ wd T o ∧ wd T o ≤ 8
/-- the region that is being filled -/
def OP (T : SS) (r : Nat) : Prop := us T r = sw T (itm T r) ∧ us T r ≤ 16 ∧ ∀ o ∈ itm T r, 2 ≤ wd T o ∧ wd T o ≤ 8
/-- all but the contents of regions is the same -/
def SM (T T' : SS) : Prop := ro T' = ro T ∧ wd T' = wd T ∧ fd T' = fd T ∧ cu T' = cu T ∧ ct T' = ct T
theorem SM.rf (T : SS) : SM T T := ⟨rfl, rfl, rfl, rfl, rfl⟩
theorem SM.tr {a b c : SS} (h : SM a b) (k : SM b c) : SM a c := ⟨k.1.trans h.1, k.2.1.trans h.2.1, k.2.2.1.trans h.2.2.1, k.2.2.2.1.trans h.2.2.2.1, k.2.2.2.2.trans h.2.2.2.2⟩
theorem NW_ap {T : SS} {r o : Nat} {gl : List Nat} (hr : r < 12) (n : NW T (o :: gl)) : NW (apS T r o) gl := by
  obtain ⟨h1, h2⟩ := List.nodup_cons.mp n.1
  refine ⟨h2, fun x hx => ⟨fun z => ?_, (n.2 x (List.mem_cons_of_mem _ hx)).2⟩⟩
  rcases all_ap z with q | q
  · exact h1 (q ▸ hx)
  · exact (n.2 x (List.mem_cons_of_mem _ hx)).1 q
theorem OP_ap {T : SS} {r o : Nat} (p : OP T r) (hw : 2 ≤ wd T o ∧ wd T o ≤ 8) (hf : us T r + wd T o ≤ 16) : OP (apS T r o) r := by
  show va_up (us T) r (us T r + wd T o) r = sw T (va_up (itm T) r (itm T r ++ [o]) r) ∧ va_up (us T) r (us T r + wd T o) r ≤ 16 ∧ ∀ x ∈ va_up (itm T) r (itm T r ++ [o]) r, 2 ≤ wd T x ∧ wd T x ≤ 8
  rw [va_up_self, va_up_self, sw_app]
  refine ⟨?_, hf, fun x hx => ?_⟩
  · rw [p.1]; simp [sw]
  · rcases List.mem_append.mp hx with q | q
    · exact p.2.2 x q
    · simp at q; subst q; exact hw
theorem fill_inv {r : Nat} (hr : r < 12) : ∀ (gl : List Nat) (T : SS), PL T → NW T gl → OP T r → PL (fill r T gl).1 ∧ NW (fill r T gl).1 (fill r T gl).2 ∧ OP (fill r T gl).1 r ∧ SM T (fill r T gl).1 ∧ kd (fill r T gl).1 = kd T ∧ lw (fill r T gl).1 = lw T ∧ (∀ r', r' ≠ r → itm (fill r T gl).1 r' = itm T r' ∧ us (fill r T gl).1 r' = us T r') ∧ ∀ x, (x ∈ all (fill r T gl).1 ∨ x ∈ (fill r T gl).2) ↔ (x ∈ all T ∨ x ∈ gl)
  | [], T, p, n, o => ⟨p, n, o, SM.rf T, rfl, rfl, fun _ _ => ⟨rfl, rfl⟩, fun _ => Iff.rfl⟩
  | y :: gl, T, p, n, o => by
    by_cases hf : us T r + wd T y ≤ 16
    · have e : fill r T (y :: gl) = fill r (apS T r y) gl := if_pos hf
      rw [e]
      have hy := n.2 y List.mem_cons_self
      obtain ⟨a1, a2, a3, a4, a5, a6, a7, a8⟩ := fill_inv hr gl (apS T r y) (PL_ap p hr hy.1 o.1) (NW_ap hr n) (OP_ap o hy.2 hf)
      refine ⟨a1, a2, a3, SM.tr ⟨rfl, rfl, rfl, rfl, rfl⟩ a4, a5, a6, fun r' hr' => ?_, fun x => ?_⟩
      · have := a7 r' hr'
        exact ⟨this.1.trans (va_up_ne _ _ hr'), this.2.trans (va_up_ne _ _ hr')⟩
      · rw [a8 x, all_ap_iff hr, List.mem_cons]
        constructor
        · rintro ((q | q) | q)
          · exact Or.inr (Or.inl q)
          · exact Or.inl q
          · exact Or.inr (Or.inr q)
        · rintro (q | q | q)
          · exact Or.inl (Or.inr q)
          · exact Or.inl (Or.inl q)
          · exact Or.inr q
    · have e : fill r T (y :: gl) = (T, y :: gl) := if_neg hf
      rw [e]
      exact ⟨p, n, o, SM.rf T, rfl, rfl, fun _ _ => ⟨rfl, rfl⟩, fun _ => Iff.rfl⟩
theorem all_eq {S T : SS} (h : itm S = itm T) : all S = all T := by unfold all; rw [h]
/-- a region's invariant speaks of its own parts, and of the kind before it -/
theorem RI_of {S T : SS} {r : Nat} (h : RI S r) (e1 : kd T r = kd S r) (e2 : us T r = us S r) (e3 : lw T r = lw S r) (e4 : itm T r = itm S r) (e5 : wd T = wd S) (e6 : kd S r = 5 → kd S (r - 1) = 4 ∨ kd S (r - 1) = 5 → kd T (r - 1) = kd S (r - 1)) : RI T r := by
  have esw : ∀ l, sw T l = sw S l := fun l => by unfold sw; rw [e5]
  obtain ⟨h0, h1, h4, h5, hk⟩ := h
  refine ⟨fun z => ?_, fun z1 z2 => ?_, fun z => ?_, fun z => ?_, by rw [e1]; exact hk⟩
  · rw [e4, e2, e3]; exact h0 (e1 ▸ z)
  · rw [e4, e2, e3, esw, e5]; exact h1 (e1 ▸ z1) (e1 ▸ z2)
  · rw [e4, e2, e3, e5]; exact h4 (e1 ▸ z)
  · rw [e4, e2, e3]
    obtain ⟨a, b, c, d, f⟩ := h5 (e1 ▸ z)
    exact ⟨a, b, c, d, by rw [e6 (e1 ▸ z) f]; exact f⟩
theorem fin1_inv {T : SS} {r : Nat} (p : PL T) (o : OP T r) (hk : kd T r = 0) (hl : lw T r = none) (ri : ∀ r', r' < 12 → r' ≠ r → RI T r') : PL (fin1 T r) ∧ (∀ r', r' < 12 → RI (fin1 T r) r') ∧ SM T (fin1 T r) ∧ itm (fin1 T r) = itm T ∧ ∀ r', r' ≠ r → kd (fin1 T r) r' = kd T r' := by
  unfold fin1
  by_cases e : (itm T r).length = 0
  · rw [if_pos e]
    have en : itm T r = [] := List.eq_nil_of_length_eq_zero e
    refine ⟨p, fun r' hr' => ?_, SM.rf T, rfl, fun _ _ => rfl⟩
    by_cases e2 : r' = r
    · subst e2
      refine ⟨fun _ => ⟨en, by rw [o.1, en]; rfl, hl⟩, fun z => by omega, fun z => by omega, fun z => by omega, by omega⟩
    · exact ri r' hr' e2
  · rw [if_neg e]
    refine ⟨p, fun r' hr' => ?_, ⟨rfl, rfl, rfl, rfl, rfl⟩, rfl, fun r' h => va_up_ne _ _ h⟩
    by_cases e2 : r' = r
    · subst e2
      have ek : kd (olS T r') r' = 3 := va_up_self _ _ _
      have el : lw (olS T r') r' = some (us T r') := va_up_self _ _ _
      refine ⟨fun z => by omega, fun _ _ => ⟨o.1, o.2.1, o.2.2, fun x hx => ?_⟩, fun z => by omega, fun z => by omega, by omega⟩
      rw [el] at hx
      cases hx
      exact o.2.1
    · refine RI_of (ri r' hr' e2) (va_up_ne _ _ e2) rfl (va_up_ne _ _ e2) rfl rfl (fun _ z => ?_)
      exact va_up_ne _ _ (fun q => by rw [q, hk] at z; omega)
theorem lay_inv : ∀ n r (T : SS) (gl : List Nat), r + n = 12 → PL T → NW T gl → (∀ r', r' < 12 → RI T r') → (∀ r', r ≤ r' → r' < 12 → big (kd T r') = false → kd T r' = 0) → PL (lay n r T gl).1 ∧ (∀ r', r' < 12 → RI (lay n r T gl).1 r') ∧ SM T (lay n r T gl).1 ∧ ∀ x, (x ∈ all (lay n r T gl).1 ∨ x ∈ (lay n r T gl).2) ↔ (x ∈ all T ∨ x ∈ gl)
  | 0, _, T, gl, _, p, _, ri, _ => ⟨p, ri, SM.rf T, fun _ => Iff.rfl⟩
  | n + 1, r, T, gl, hr, p, nw, ri, hz => by
    have hr12 : r < 12 := by omega
    by_cases hb : big (kd T r) = true
    · have e : lay (n + 1) r T gl = lay n (r + 1) T gl := if_pos hb
      rw [e]
      exact lay_inv n (r + 1) T gl (by omega) p nw ri (fun r' h1 h2 => hz r' (by omega) h2)
    · have e : lay (n + 1) r T gl = lay n (r + 1) (fin1 (fill r T gl).1 r) (fill r T gl).2 := if_neg hb
      rw [e]
      have hk := hz r (Nat.le_refl _) hr12 (by simpa using hb)
      obtain ⟨z1, z2, z3⟩ := (ri r hr12).1 hk
      have op : OP T r := ⟨by rw [z1, z2]; rfl, by omega, fun o ho => by rw [z1] at ho; cases ho⟩
      obtain ⟨a1, a2, a3, a4, a5, a6, a7, a8⟩ := fill_inv hr12 gl T p nw op
      obtain ⟨b1, b2, b3, b4, b5⟩ := fin1_inv a1 a3 (by rw [a5]; exact hk) (by rw [a6]; exact z3) (fun r' hr' hne => RI_of (ri r' hr') (by rw [a5]) (a7 r' hne).2 (by rw [a6]) (a7 r' hne).1 a4.2.1 (fun _ _ => by rw [a5]))
      have nw2 : NW (fin1 (fill r T gl).1 r) (fill r T gl).2 := ⟨a2.1, fun o ho => by rw [all_eq b4, b3.2.1]; exact a2.2 o ho⟩
      obtain ⟨c1, c2, c3, c4⟩ := lay_inv n (r + 1) _ _ (by omega) b1 nw2 b2 (fun r' h1 h2 h3 => by
        rw [b5 r' (by omega), a5] at h3 ⊢
        exact hz r' (by omega) h2 h3)
      refine ⟨c1, c2, (a4.tr b3).tr c3, fun x => ?_⟩
      rw [c4 x, all_eq b4, a8 x]
theorem fill_suf (r : Nat) : ∀ (gl : List Nat) (T : SS), ∃ pre, gl = pre ++ (fill r T gl).2
  | [], _ => ⟨[], rfl⟩
  | y :: gl, T => by
    by_cases hf : us T r + wd T y ≤ 16
    · have e : fill r T (y :: gl) = fill r (apS T r y) gl := if_pos hf
      rw [e]
      obtain ⟨pre, h⟩ := fill_suf r gl (apS T r y)
      exact ⟨y :: pre, by rw [List.cons_append, ← h]⟩
    · have e : fill r T (y :: gl) = (T, y :: gl) := if_neg hf
      rw [e]
      exact ⟨[], rfl⟩
theorem fill_room (r : Nat) : ∀ (a c : List Nat) (T : SS), us T r + sw T a ≤ 16 → ∃ pre, c = pre ++ (fill r T (a ++ c)).2
  | [], c, T, _ => fill_suf r c T
  | y :: a, c, T, h => by
    have e0 : sw T (y :: a) = wd T y + sw T a := by simp [sw]
    rw [e0] at h
    have e : fill r T (y :: (a ++ c)) = fill r (apS T r y) (a ++ c) := if_pos (by omega)
    rw [List.cons_append, e]
    refine fill_room r a c (apS T r y) ?_
    show va_up (us T) r (us T r + wd T y) r + sw T a ≤ 16
    rw [va_up_self]
    omega
def cat (ck : Nat → List Nat) : Nat → Nat → List Nat
  | 0, _ => []
  | n + 1, r => ck r ++ cat ck n (r + 1)
theorem fill_keep (r : Nat) : ∀ (gl : List Nat) (T : SS), kd (fill r T gl).1 = kd T ∧ wd (fill r T gl).1 = wd T ∧ ∀ r', r' ≠ r → us (fill r T gl).1 r' = us T r'
  | [], _ => ⟨rfl, rfl, fun _ _ => rfl⟩
  | y :: gl, T => by
    by_cases hf : us T r + wd T y ≤ 16
    · have e : fill r T (y :: gl) = fill r (apS T r y) gl := if_pos hf
      rw [e]
      obtain ⟨a1, a2, a3⟩ := fill_keep r gl (apS T r y)
      exact ⟨a1, a2, fun r' h => (a3 r' h).trans (va_up_ne _ _ h)⟩
    · have e : fill r T (y :: gl) = (T, y :: gl) := if_neg hf
      rw [e]
      exact ⟨rfl, rfl, fun _ _ => rfl⟩
/-- there is always room: no object comes behind the place that it had -/
theorem lay_room (ck : Nat → List Nat) : ∀ n r (T : SS) (rem : List Nat), (∀ r', r ≤ r' → r' < r + n → (big (kd T r') = true → ck r' = []) ∧ (big (kd T r') = false → us T r' = 0 ∧ sw T (ck r') ≤ 16)) → (∃ pre, cat ck n r = pre ++ rem) → (lay n r T rem).2 = []
  | 0, _, T, rem, _, ⟨pre, h⟩ => by
    have h' : [] = pre ++ rem := h
    exact (List.append_eq_nil_iff.mp h'.symm).2
  | n + 1, r, T, rem, hc, ⟨pre, h⟩ => by
    have h' : ck r ++ cat ck n (r + 1) = pre ++ rem := h
    by_cases hb : big (kd T r) = true
    · have e : lay (n + 1) r T rem = lay n (r + 1) T rem := if_pos hb
      rw [e]
      rw [(hc r (Nat.le_refl _) (by omega)).1 hb, List.nil_append] at h'
      exact lay_room ck n (r + 1) T rem (fun r' h1 h2 => hc r' (by omega) (by omega)) ⟨pre, h'⟩
    · have e : lay (n + 1) r T rem = lay n (r + 1) (fin1 (fill r T rem).1 r) (fill r T rem).2 := if_neg hb
      rw [e]
      obtain ⟨z1, z2⟩ := (hc r (Nat.le_refl _) (by omega)).2 (by simpa using hb)
      have suf : ∃ q, cat ck n (r + 1) = q ++ (fill r T rem).2 := by
        rcases List.append_eq_append_iff.mp h' with ⟨a, -, h2⟩ | ⟨c, h1, h2⟩
        · obtain ⟨q, hq⟩ := fill_suf r rem T
          exact ⟨a ++ q, by rw [h2, List.append_assoc, ← hq]⟩
        · rw [h2]
          refine fill_room r c _ T ?_
          have : sw T (ck r) = sw T pre + sw T c := by rw [h1, sw_app]
          omega
      obtain ⟨k1, k2, k3⟩ := fill_keep r rem T
      refine lay_room ck n (r + 1) _ _ (fun r' h1 h2 => ?_) suf
      have f1 : kd (fin1 (fill r T rem).1 r) r' = kd T r' := by
        unfold fin1
        split
        · rw [k1]
        · exact (va_up_ne _ _ (by omega)).trans (by rw [k1])
      have f2 : us (fin1 (fill r T rem).1 r) r' = us T r' := by
        unfold fin1
        split
        · exact k3 r' (by omega)
        · exact k3 r' (by omega)
      have f3 : wd (fin1 (fill r T rem).1 r) = wd T := by
        unfold fin1
        split
        · exact k2
        · exact k2
      have f4 : ∀ l, sw (fin1 (fill r T rem).1 r) l = sw T l := fun l => by unfold sw; rw [f3]
      rw [f1, f2, f4]
      exact hc r' (by omega) (by omega)
