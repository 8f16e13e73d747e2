/-! THE ABSTRACT HEAP: objects by sort and number; the judgement TT over the kit's W -/
abbrev AV : Type := Int32 ⊕ Int64 ⊕ Option (Nat × Nat) ⊕ Unit
def iv (x : Int32) : AV := .inl x
def jv (x : Int64) : AV := .inr (.inl x)
def rv (s : Nat) (o : Option Nat) : AV := .inr (.inr (.inl (o.map (fun i => (s, i)))))
def un : AV := .inr (.inr (.inr ()))
def isun (v : AV) : Bool := match v with
  | .inr (.inr (.inr _)) => true
  | _ => false
abbrev AD : Type := Nat → Nat → Nat
def cv (ad : AD) (v : AV) : Value := match v with
  | .inl x => .int x
  | .inr (.inl x) => .long x
  | .inr (.inr (.inl none)) => .null
  | .inr (.inr (.inl (some (s, i)))) => .ref (ad s i)
  | .inr (.inr (.inr _)) => .null
theorem cv_r (ad : AD) (s : Nat) (o : Option Nat) : cv ad (rv s o) = va_rf (o.map (ad s)) := by cases o <;> rfl
/-- how many of each sort, lengths, ints, references -/
abbrev AH : Type := (Nat → Nat) × (Nat → Nat → Nat) × (Nat → Nat → Nat → Int32) × (Nat → Nat → Nat → Option Nat)
def hC (h : AH) (s : Nat) : Nat := h.1 s
def hL (h : AH) (s i : Nat) : Nat := h.2.1 s i
def hI (h : AH) (s i k : Nat) : Int32 := h.2.2.1 s i k
def hR (h : AH) (s i k : Nat) : Option Nat := h.2.2.2 s i k
def sI (h : AH) (s i k : Nat) (v : Int32) : AH := (h.1, h.2.1, (fun s' i' k' => if s' = s ∧ k' = k ∧ i' = i then v else h.2.2.1 s' i' k'), h.2.2.2)
def sR (h : AH) (s i k : Nat) (v : Option Nat) : AH := (h.1, h.2.1, h.2.2.1, (fun s' i' k' => if s' = s ∧ k' = k ∧ i' = i then v else h.2.2.2 s' i' k'))
def nw (h : AH) (s n : Nat) : AH := ((fun s' => if s' = s then h.1 s + 1 else h.1 s'), (fun s' i' => if s' = s ∧ i' = h.1 s then n else h.2.1 s' i'), (fun s' i' k' => if s' = s ∧ i' = h.1 s then 0 else h.2.2.1 s' i' k'), (fun s' i' k' => if s' = s ∧ i' = h.1 s then none else h.2.2.2 s' i' k'))
theorem hC_sI (h : AH) (s i k : Nat) (v : Int32) (s' : Nat) : hC (sI h s i k v) s' = hC h s' := rfl
theorem hL_sI (h : AH) (s i k : Nat) (v : Int32) (s' i' : Nat) : hL (sI h s i k v) s' i' = hL h s' i' := rfl
theorem hR_sI (h : AH) (s i k : Nat) (v : Int32) (s' i' k' : Nat) : hR (sI h s i k v) s' i' k' = hR h s' i' k' := rfl
theorem hI_sI (h : AH) (s i k : Nat) (v : Int32) (s' i' k' : Nat) : hI (sI h s i k v) s' i' k' = if s' = s ∧ k' = k ∧ i' = i then v else hI h s' i' k' := rfl
theorem hC_sR (h : AH) (s i k : Nat) (v : Option Nat) (s' : Nat) : hC (sR h s i k v) s' = hC h s' := rfl
theorem hL_sR (h : AH) (s i k : Nat) (v : Option Nat) (s' i' : Nat) : hL (sR h s i k v) s' i' = hL h s' i' := rfl
theorem hI_sR (h : AH) (s i k : Nat) (v : Option Nat) (s' i' k' : Nat) : hI (sR h s i k v) s' i' k' = hI h s' i' k' := rfl
theorem hR_sR (h : AH) (s i k : Nat) (v : Option Nat) (s' i' k' : Nat) : hR (sR h s i k v) s' i' k' = if s' = s ∧ k' = k ∧ i' = i then v else hR h s' i' k' := rfl
theorem hC_nw (h : AH) (s n s' : Nat) : hC (nw h s n) s' = if s' = s then hC h s + 1 else hC h s' := rfl
theorem hL_nw (h : AH) (s n s' i' : Nat) : hL (nw h s n) s' i' = if s' = s ∧ i' = hC h s then n else hL h s' i' := rfl
theorem hI_nw (h : AH) (s n s' i' k' : Nat) : hI (nw h s n) s' i' k' = if s' = s ∧ i' = hC h s then 0 else hI h s' i' k' := rfl
theorem hR_nw (h : AH) (s n s' i' k' : Nat) : hR (nw h s n) s' i' k' = if s' = s ∧ i' = hC h s then none else hR h s' i' k' := rfl
def vok (h : AH) (v : AV) : Prop := match v with
  | .inr (.inr (.inl (some (s, i)))) => i < hC h s
  | .inr (.inr (.inr _)) => False
  | _ => True
theorem vok_i (h : AH) (x : Int32) : vok h (iv x) := trivial
theorem vok_j (h : AH) (x : Int64) : vok h (jv x) := trivial
theorem vok_r (h : AH) (s : Nat) (o : Option Nat) : vok h (rv s o) ↔ ∀ i, o = some i → i < hC h s := by
  cases o with
  | none => exact ⟨fun _ i hi => (by cases hi), fun _ => trivial⟩
  | some j => exact ⟨fun hv i hi => (by cases hi; exact hv), fun hv => hv j rfl⟩
theorem vok_null (h : AH) (s : Nat) : vok h (rv s none) := trivial
theorem vok_some {h : AH} {s i : Nat} (hv : vok h (rv s (some i))) : i < hC h s := hv
/-- every reference points at something that is there; lengths are ints -/
def WF (h : AH) : Prop := (∀ s i k j, i < hC h s → hR h s i k = some j → j < hC h (cs s k)) ∧ ∀ s i, hL h s i < 2 ^ 31
def fv (ad : AD) (h : AH) (s i k : Nat) : Value := if cs s k = 99 then .int (hI h s i k) else va_rf ((hR h s i k).map (ad (cs s k)))
def mkE (aC : Nat → ClassId) (ad : AD) (h : AH) (s i : Nat) : va_E :=
  if s < 4 then .inr (s, (List.range (cT s).2.2).map (fv ad h s i))
  else if s < 6 then .inl (aC s, hL h s i, .inr (.inr (.inr (.inr (fun j => (hR h s i j).map (ad (cs s j)))))))
  else .inl (aC s, hL h s i, .inl (hI h s i))
def Cn (aC : Nat → ClassId) (ad : AD) (h : AH) (ws : va_W) : Prop := (∀ s i, s < 8 → i < hC h s → ∃ q : Nat, ws[q]? = some (ad s i, mkE aC ad h s i)) ∧ ∀ s i s' i', s < 8 → s' < 8 → i < hC h s → i' < hC h s' → ad s i = ad s' i' → s = s' ∧ i = i'
/-- the script: sort 8 -/
def SX (h : AH) (ad : AD) (A : Nat → Prop) (s : State) (H : Heap) : Prop := ∀ i, i < hC h 8 → va_X (ad 8 i) (hL h 8 i) (hI h 8 i) s H ∧ ad 8 i < H.size ∧ ¬ A (ad 8 i)
def Wd (D : va_G) (aC : Nat → ClassId) (A : Nat → Prop) (s : State) (H : Heap) (locs : List Loc) (h : AH) (ad : AD) (ws : va_W) : Prop := WF h ∧ Cn aC ad h ws ∧ va_P D classes ws H ∧ va_D A ws ∧ va_S A s.heap H locs ∧ SX h ad A s s.heap
def Lv (lsC : Array Slot) (nL : Nat) (h : AH) (ad : AD) (ls : List AV) : Prop := ls.length = nL ∧ lsC.size = nL ∧ lv_wf lsC ∧ ∀ (i : Nat) (v : AV), ls[i]? = some v → v = un ∨ (vok h v ∧ lsC[i]? = some (.val (cv ad v)))
def ext (h h' : AH) (ad ad' : AD) : Prop := (∀ s i, i < hC h s → i < hC h' s ∧ ad' s i = ad s i) ∧ hC h' 8 = hC h 8 ∧ h'.2.1 8 = h.2.1 8 ∧ h'.2.2.1 8 = h.2.2.1 8
def Cx (y : Nat) (D : va_G) (aC : Nat → ClassId) (A : Nat → Prop) (p : Program) (R : Room) (s : State) (m : MethodId) (args : Array Value) (meth : Method) (c : Code) : Prop :=
  p.tables.exec = Jvm.exec ∧ c.code = bC y ∧ meth.sig.returnType = rt y ∧ c.maxLocals = mL y ∧ s.vm.findClass (nm y).cls = some m.cls ∧ (∀ w ∈ gd, w.before args s = true) ∧ meth.locks = false ∧ ((nm y).name = "<init>" → meth.name = "<init>") ∧ (∀ w ∈ nst, va_Nw w s) ∧ va_K D classes (tys aC) s ∧ fr y ≤ R.frames ∧ lo y ≤ R.locals ∧ (∀ q, s.heap.size ≤ q → A q) ∧ va_AO C_Item s ∧ va_AO C_Region s
abbrev PQ : Type := Option AV → AH → Prop
def dret (y pc : Nat) (r : Option AV) : Prop :=
  (∃ x, r = some (iv x) ∧ rt y = some .int ∧ decode (bC y) pc = .ok (.ireturn, 1)) ∨ (∃ x, r = some (iv x) ∧ rt y = some .boolean ∧ narrow .boolean (.int x) = .int x ∧ decode (bC y) pc = .ok (.ireturn, 1)) ∨ (∃ s o C, r = some (rv s o) ∧ rt y = some (.object C) ∧ decode (bC y) pc = .ok (.areturn, 1)) ∨ (r = none ∧ rt y = none ∧ decode (bC y) pc = .ok (.return_, 1))
def KK (y : Nat) (h : AH) (k n : Nat) (Q : PQ) (p : Program) (l : Launch) (e : Env) (R : Room) (s : State) (m : MethodId) (args : Array Value) (below : List Frame) (meth : Method) (c : Code) (D : va_G) (aC : Nat → ClassId) (A : Nat → Prop) (cells slots : Nat) (ad : AD) (Qf : State → Prop) : Prop :=
  ∀ (r : Option AV) (h' : AH) (pc : Nat) (ls : Array Slot) (H : Heap) (locs : List Loc) (ad' : AD) (ws : va_W), Q r h' → dret y pc r → Wd D aC A s H locs h' ad' ws → (∀ v, r = some v → vok h' v) → ext h h' ad ad' → W p l e R s m args below meth c H locs (cells + k) (slots + n) Qf (F0 m pc ls (r.toList.map (cv ad')))
/-- at pc of method y, with locals ls, stack st and heap h, making at most k cells of n slots: it returns, with Q of the answer and the heap -/
def TT (y pc : Nat) (ls st : List AV) (h : AH) (k n : Nat) (Q : PQ) : Prop :=
  ∀ (p : Program) (l : Launch) (e : Env) (R : Room) (s : State) (m : MethodId) (args : Array Value) (below : List Frame) (meth : Method) (c : Code) (D : va_G) (aC : Nat → ClassId) (A : Nat → Prop), Cx y D aC A p R s m args meth c →
  ∀ (H : Heap) (locs : List Loc) (cells slots : Nat) (ad : AD) (ws : va_W) (lsC : Array Slot) (Qf : State → Prop), Wd D aC A s H locs h ad ws → Lv lsC (mL y) h ad ls → (∀ v ∈ st, vok h v) → cells + k ≤ R.cells → slots + n ≤ R.slots →
  KK y h k n Q p l e R s m args below meth c D aC A cells slots ad Qf → W p l e R s m args below meth c H locs cells slots Qf (F0 m pc lsC (st.map (cv ad)))
theorem ext.rf (h : AH) (ad : AD) : ext h h ad ad := ⟨fun _ _ q => ⟨q, rfl⟩, rfl, rfl, rfl⟩
theorem ext.tr {h h1 h2 : AH} {ad ad1 ad2 : AD} (a : ext h h1 ad ad1) (b : ext h1 h2 ad1 ad2) : ext h h2 ad ad2 :=
  ⟨fun s i q => ⟨(b.1 s i (a.1 s i q).1).1, ((b.1 s i (a.1 s i q).1).2).trans (a.1 s i q).2⟩, b.2.1.trans a.2.1, b.2.2.1.trans a.2.2.1, b.2.2.2.trans a.2.2.2⟩
theorem vok.ext {h h' : AH} {ad ad' : AD} {v : AV} (hv : vok h v) (he : ext h h' ad ad') : vok h' v ∧ cv ad' v = cv ad v := by
  match v, hv with
  | .inl x, _ => exact ⟨trivial, rfl⟩
  | .inr (.inl x), _ => exact ⟨trivial, rfl⟩
  | .inr (.inr (.inl none)), _ => exact ⟨trivial, rfl⟩
  | .inr (.inr (.inl (some (s, i)))), hv =>
    have hq : i < hC h s := hv
    refine ⟨(he.1 s i hq).1, ?_⟩
    show Value.ref (ad' s i) = Value.ref (ad s i)
    rw [(he.1 s i hq).2]
theorem Lv.ext {lsC : Array Slot} {nL : Nat} {h h' : AH} {ad ad' : AD} {ls : List AV} (hl : Lv lsC nL h ad ls) (he : ext h h' ad ad') : Lv lsC nL h' ad' ls := by
  refine ⟨hl.1, hl.2.1, hl.2.2.1, fun i v hi => ?_⟩
  rcases hl.2.2.2 i v hi with q | ⟨q1, q2⟩
  · exact Or.inl q
  · obtain ⟨a, b⟩ := q1.ext he
    exact Or.inr ⟨a, by rw [b]; exact q2⟩
theorem st_ext {h h' : AH} {ad ad' : AD} {st : List AV} (hv : ∀ v ∈ st, vok h v) (he : ext h h' ad ad') : (∀ v ∈ st, vok h' v) ∧ st.map (cv ad') = st.map (cv ad) :=
  ⟨fun v q => ((hv v q).ext he).1, List.map_congr_left (fun v q => ((hv v q).ext he).2)⟩
theorem SX.ext {h h' : AH} {ad ad' : AD} {A : Nat → Prop} {s : State} {H : Heap} (hx : SX h ad A s H) (he : ext h h' ad ad') : SX h' ad' A s H := by
  intro i hi
  rw [he.2.1] at hi
  have e1 : hL h' 8 i = hL h 8 i := congrFun he.2.2.1 i
  have e2 : hI h' 8 i = hI h 8 i := congrFun he.2.2.2 i
  rw [e1, e2, (he.1 8 i hi).2]
  exact hx i hi
section RULES
variable {y pc : Nat} {ls st : List AV} {h : AH} {k n : Nat} {Q : PQ}
theorem TT.mono {Q' : PQ} (hq : ∀ r h', Q r h' → Q' r h') (t : TT y pc ls st h k n Q) : TT y pc ls st h k n Q' := by
  intro p l e R s m args below meth c D aC A C H locs cells slots ad ws lsC Qf hw hl hs h1 h2 hk
  exact t p l e R s m args below meth c D aC A C H locs cells slots ad ws lsC Qf hw hl hs h1 h2 (fun r h' pc ls H locs ad' ws q => hk r h' pc ls H locs ad' ws (hq r h' q))
theorem TT.widen {k' n' : Nat} (h1 : k ≤ k') (h2 : n ≤ n') (t : TT y pc ls st h k n Q) : TT y pc ls st h k' n' Q := by
  intro p l e R s m args below meth c D aC A C H locs cells slots ad ws lsC Qf hw hl hs g1 g2 hk
  exact t p l e R s m args below meth c D aC A C H locs cells slots ad ws lsC Qf hw hl hs (by omega) (by omega) (fun r h' pc ls H locs ad' ws q a b c d => W.widen (by omega) (by omega) (hk r h' pc ls H locs ad' ws q a b c d))
theorem TT.forget (i : Nat) {ls' : List AV} (hl : ls.set i un = ls') (t : TT y pc ls' st h k n Q) : TT y pc ls st h k n Q := by
  intro p l e R s m args below meth c D aC A C H locs cells slots ad ws lsC Qf hw hL hs g1 g2 hk
  refine t p l e R s m args below meth c D aC A C H locs cells slots ad ws lsC Qf hw ⟨?_, hL.2.1, hL.2.2.1, fun j v hj => ?_⟩ hs g1 g2 hk
  · rw [← hl, List.length_set]; exact hL.1
  · rw [← hl, List.getElem?_set] at hj
    split at hj
    · split at hj
      · cases hj; exact Or.inl rfl
      · cases hj
    · exact hL.2.2.2 j v hj
theorem TT.step {pc' : Nat} {st' : List AV} (hv : (∀ v ∈ st, vok h v) → ∀ v ∈ st', vok h v)
    (hs : ∀ (p : Program) (l : Launch) (e : Env) (R : Room) (s : State) (m : MethodId) (args : Array Value) (below : List Frame) (meth : Method) (c : Code) (H : Heap) (locs : List Loc) (cells slots : Nat) (ad : AD) (lsC : Array Slot) (Qf : State → Prop), p.tables.exec = Jvm.exec → c.code = bC y → Lv lsC (mL y) h ad ls → W p l e R s m args below meth c H locs cells slots Qf (F0 m pc' lsC (st'.map (cv ad))) → W p l e R s m args below meth c H locs cells slots Qf (F0 m pc lsC (st.map (cv ad))))
    (t : TT y pc' ls st' h k n Q) : TT y pc ls st h k n Q := by
  intro p l e R s m args below meth c D aC A C H locs cells slots ad ws lsC Qf hw hL hst g1 g2 hk
  exact hs p l e R s m args below meth c H locs cells slots ad lsC Qf C.1 C.2.1 hL (t p l e R s m args below meth c D aC A C H locs cells slots ad ws lsC Qf hw hL (hv hst) g1 g2 hk)
end RULES
