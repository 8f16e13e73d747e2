theorem vk_c {h : AH} {v : AV} {st : List AV} (hv : vok h v) (hs : ∀ w ∈ st, vok h w) : ∀ w ∈ v :: st, vok h w := fun w hw => by
  rcases List.mem_cons.mp hw with q | q
  · rw [q]; exact hv
  · exact hs w q
theorem vk_t {h : AH} {v : AV} {st : List AV} (hs : ∀ w ∈ v :: st, vok h w) : ∀ w ∈ st, vok h w := fun w hw => hs w (List.mem_cons_of_mem _ hw)
theorem vk_h {h : AH} {v : AV} {st : List AV} (hs : ∀ w ∈ v :: st, vok h w) : vok h v := hs v List.mem_cons_self
theorem Lv.at {lsC : Array Slot} {nL : Nat} {h : AH} {ad : AD} {ls : List AV} {i : Nat} {v : AV} (hl : Lv lsC nL h ad ls) (hi : ls[i]? = some v) (hu : isun v = false) : vok h v ∧ lsC[i]? = some (.val (cv ad v)) := by
  rcases hl.2.2.2 i v hi with q | q
  · rw [q] at hu; cases hu
  · exact q
theorem isun_r (s : Nat) (o : Option Nat) : isun (rv s o) = false := rfl
/-- the locals as the kit lists them -/
def lvl (ad : AD) (ls : List AV) : List (Nat × Value) := ls.zipIdx.filterMap (fun q => if isun q.1 = true then none else some (q.2, cv ad q.1))
theorem Lv.has {lsC : Array Slot} {nL : Nat} {h : AH} {ad : AD} {ls : List AV} (hl : Lv lsC nL h ad ls) : lv_has lsC nL (lvl ad ls) := by
  refine ⟨hl.2.1, hl.2.2.1, fun q hq => ?_⟩
  obtain ⟨⟨v, i⟩, h1, h2⟩ := List.mem_filterMap.mp hq
  have h3 : ls[i]? = some v := List.mem_zipIdx_iff_getElem?.mp h1
  by_cases hu : isun v = true
  · simp [hu] at h2
  · simp [hu] at h2
    rw [← h2]
    exact (hl.at h3 (by simpa using hu)).2
theorem lvl_mem {ad : AD} {ls : List AV} {i : Nat} {v : AV} (hi : ls[i]? = some v) (hu : isun v = false) : (i, cv ad v) ∈ lvl ad ls :=
  List.mem_filterMap.mpr ⟨(v, i), List.mem_zipIdx_iff_getElem?.mpr hi, by simp [hu]⟩
theorem isun_iff {v : AV} (hu : isun v = true) : v = un := by
  match v, hu with
  | .inr (.inr (.inr _)), _ => rfl
def islg (v : AV) : Bool := match v with
  | .inr (.inl _) => true
  | _ => false
theorem cat_lg {ad : AD} {v : AV} (hv : islg v = false) : ¬ (cv ad v).category = 2 := by
  match v, hv with
  | .inl _, _ => simp [cv, Value.category]
  | .inr (.inr (.inl none)), _ => simp [cv, Value.category]
  | .inr (.inr (.inl (some (s, i)))), _ => simp [cv, Value.category]
  | .inr (.inr (.inr _)), _ => simp [cv, Value.category]
/-- the place can be written: it is there, and no long stands just before it -/
def sok (ls : List AV) (i : Nat) : Bool := Nat.blt i ls.length && (match i with
  | 0 => true
  | j + 1 => !islg (ls.getD j un))
theorem sok_lt {ls : List AV} {i : Nat} (hs : sok ls i = true) : i < ls.length := by
  simp only [sok, Bool.and_eq_true] at hs
  simpa using hs.1
theorem sok_lg {ls : List AV} {i j : Nat} {v : AV} (hs : sok ls i = true) (hj : j + 1 = i) (hv : ls[j]? = some v) : islg v = false := by
  subst hj
  simp only [sok, Bool.and_eq_true] at hs
  have h2 := hs.2
  rw [List.getD_eq_getElem?_getD, hv] at h2
  simpa using h2
theorem Lv.set {lsC lsC' : Array Slot} {nL i : Nat} {h : AH} {ad : AD} {ls : List AV} {v : AV} (hl : Lv lsC nL h ad ls) (hs : sok ls i = true) (hv : vok h v)
    (hh : lv_has lsC' nL ((i, cv ad v) :: (lvl ad ls).filter (fun q => !(q.1 == i) && !(q.1 + 1 == i && q.2.category == 2)))) : Lv lsC' nL h ad (ls.set i v) := by
  refine ⟨by rw [List.length_set]; exact hl.1, hh.1, hh.2.1, fun j w hj => ?_⟩
  by_cases hij : i = j
  · subst hij
    rw [List.getElem?_set_self (sok_lt hs)] at hj
    cases hj
    exact Or.inr ⟨hv, hh.2.2 _ List.mem_cons_self⟩
  · rw [List.getElem?_set_ne hij] at hj
    by_cases hu : isun w = true
    · exact Or.inl (isun_iff hu)
    · have hu' : isun w = false := by simpa using hu
      refine Or.inr ⟨(hl.at hj hu').1, hh.2.2 (j, cv ad w) (List.mem_cons_of_mem _ (List.mem_filter.mpr ⟨lvl_mem hj hu', ?_⟩))⟩
      have a1 : (j == i) = false := by simpa using fun z : j = i => hij z.symm
      by_cases hji : j + 1 = i
      · have a2 := cat_lg (ad := ad) (sok_lg hs hji hj)
        simp [a1, a2]
      · simp [a1, hji]
theorem Lv.set2 {lsC lsC' : Array Slot} {nL i : Nat} {h : AH} {ad : AD} {ls : List AV} {v : AV} (hl : Lv lsC nL h ad ls) (hs : sok ls i = true) (hv : vok h v)
    (hh : lv_has lsC' nL ((i, cv ad v) :: (lvl ad ls).filter (fun q => !(q.1 == i) && (!(q.1 == i + 1) && !(q.1 + 1 == i && q.2.category == 2))))) : Lv lsC' nL h ad ((ls.set (i + 1) un).set i v) := by
  refine ⟨by rw [List.length_set, List.length_set]; exact hl.1, hh.1, hh.2.1, fun j w hj => ?_⟩
  by_cases hij : i = j
  · subst hij
    rw [List.getElem?_set_self (by rw [List.length_set]; exact sok_lt hs)] at hj
    cases hj
    exact Or.inr ⟨hv, hh.2.2 _ List.mem_cons_self⟩
  · rw [List.getElem?_set_ne hij] at hj
    by_cases hij2 : i + 1 = j
    · subst hij2
      rw [List.getElem?_set] at hj
      simp only [if_true] at hj
      split at hj
      · cases hj; exact Or.inl rfl
      · cases hj
    · rw [List.getElem?_set_ne hij2] at hj
      by_cases hu : isun w = true
      · exact Or.inl (isun_iff hu)
      · have hu' : isun w = false := by simpa using hu
        refine Or.inr ⟨(hl.at hj hu').1, hh.2.2 (j, cv ad w) (List.mem_cons_of_mem _ (List.mem_filter.mpr ⟨lvl_mem hj hu', ?_⟩))⟩
        have a1 : (j == i) = false := by simpa using fun z : j = i => hij z.symm
        have a3 : (j == i + 1) = false := by simpa using fun z : j = i + 1 => hij2 z.symm
        by_cases hji : j + 1 = i
        · have a2 := cat_lg (ad := ad) (sok_lg hs hji hj)
          simp [a1, a2, a3]
        · simp [a1, a3, hji]
section RULES1
variable {y pc : Nat} {ls st : List AV} {h : AH} {k n : Nat} {Q : PQ}
theorem r_iconst (pc' : Nat) (x : Int32) {i : Int} (hd : decode (bC y) pc = .ok (.iconst i, 1)) (hp : pc + 1 = pc') (hi : Int32.ofInt i = x) (t : TT y pc' ls (iv x :: st) h k n Q) : TT y pc ls st h k n Q := by
  subst hp
  exact TT.step (vk_c (vok_i h x)) (fun p l e R s m args below meth c H locs cells slots ad lsC Qf hx hb hL w => lv_iconst hx hb hd hi w) t
theorem r_bipush (pc' : Nat) (x : Int32) {i : Int} (hd : decode (bC y) pc = .ok (.bipush i, 2)) (hp : pc + 2 = pc') (hi : (Int8.ofInt i).toInt32 = x) (t : TT y pc' ls (iv x :: st) h k n Q) : TT y pc ls st h k n Q := by
  subst hp
  exact TT.step (vk_c (vok_i h x)) (fun p l e R s m args below meth c H locs cells slots ad lsC Qf hx hb hL w => lv_bipush hx hb hd hi w) t
theorem r_sipush (pc' : Nat) (x : Int32) {i : Int} (hd : decode (bC y) pc = .ok (.sipush i, 3)) (hp : pc + 3 = pc') (hi : (Int16.ofInt i).toInt32 = x) (t : TT y pc' ls (iv x :: st) h k n Q) : TT y pc ls st h k n Q := by
  subst hp
  exact TT.step (vk_c (vok_i h x)) (fun p l e R s m args below meth c H locs cells slots ad lsC Qf hx hb hL w => lv_sipush hx hb hd hi w) t
theorem r_lconst (pc' : Nat) (x : Int64) {i : Fin 2} (hd : decode (bC y) pc = .ok (.lconst i, 1)) (hp : pc + 1 = pc') (hi : Int64.ofNat (i : Nat) = x) (t : TT y pc' ls (jv x :: st) h k n Q) : TT y pc ls st h k n Q := by
  subst hp
  exact TT.step (vk_c (vok_j h x)) (fun p l e R s m args below meth c H locs cells slots ad lsC Qf hx hb hL w => lv_lconst hx hb hd hi w) t
theorem r_null (pc' s0 : Nat) (hd : decode (bC y) pc = .ok (.aconst_null, 1)) (hp : pc + 1 = pc') (t : TT y pc' ls (rv s0 none :: st) h k n Q) : TT y pc ls st h k n Q := by
  subst hp
  exact TT.step (vk_c (vok_null h s0)) (fun p l e R s m args below meth c H locs cells slots ad lsC Qf hx hb hL w => lv_null hx hb hd w) t
theorem r_iload_n (pc' : Nat) {x : Int32} {j : Fin 4} (hd : decode (bC y) pc = .ok (.iload_n j, 1)) (hp : pc + 1 = pc') (hl : ls[j.val]? = some (iv x)) (t : TT y pc' ls (iv x :: st) h k n Q) : TT y pc ls st h k n Q := by
  subst hp
  exact TT.step (vk_c (vok_i h x)) (fun p l e R s m args below meth c H locs cells slots ad lsC Qf hx hb hL w => lv_iload_n hx hb hd rfl (hL.at hl rfl).2 w) t
theorem r_iload (pc' : Nat) {x : Int32} {j : Nat} (hd : decode (bC y) pc = .ok (.iload j, 2)) (hp : pc + 2 = pc') (hl : ls[j]? = some (iv x)) (t : TT y pc' ls (iv x :: st) h k n Q) : TT y pc ls st h k n Q := by
  subst hp
  exact TT.step (vk_c (vok_i h x)) (fun p l e R s m args below meth c H locs cells slots ad lsC Qf hx hb hL w => lv_iload hx hb hd (hL.at hl rfl).2 w) t
theorem r_lload_n (pc' : Nat) {x : Int64} {j : Fin 4} (hd : decode (bC y) pc = .ok (.lload_n j, 1)) (hp : pc + 1 = pc') (hl : ls[j.val]? = some (jv x)) (t : TT y pc' ls (jv x :: st) h k n Q) : TT y pc ls st h k n Q := by
  subst hp
  exact TT.step (vk_c (vok_j h x)) (fun p l e R s m args below meth c H locs cells slots ad lsC Qf hx hb hL w => lv_lload_n hx hb hd rfl (hL.at hl rfl).2 w) t
theorem r_lload (pc' : Nat) {x : Int64} {j : Nat} (hd : decode (bC y) pc = .ok (.lload j, 2)) (hp : pc + 2 = pc') (hl : ls[j]? = some (jv x)) (t : TT y pc' ls (jv x :: st) h k n Q) : TT y pc ls st h k n Q := by
  subst hp
  exact TT.step (vk_c (vok_j h x)) (fun p l e R s m args below meth c H locs cells slots ad lsC Qf hx hb hL w => lv_lload hx hb hd (hL.at hl rfl).2 w) t
theorem r_aload_n (pc' : Nat) {s0 : Nat} {o : Option Nat} {j : Fin 4} (hd : decode (bC y) pc = .ok (.aload_n j, 1)) (hp : pc + 1 = pc') (hl : ls[j.val]? = some (rv s0 o)) (t : TT y pc' ls (rv s0 o :: st) h k n Q) : TT y pc ls st h k n Q := by
  subst hp
  intro p l e R s m args below meth c D aC A C H locs cells slots ad ws lsC Qf hw hL hst g1 g2 hk
  have hv := hL.at hl (isun_r s0 o)
  have w := t p l e R s m args below meth c D aC A C H locs cells slots ad ws lsC Qf hw hL (vk_c hv.1 hst) g1 g2 hk
  cases o with
  | none => exact lv_aload_nN C.1 C.2.1 hd rfl hv.2 w
  | some i => exact lv_aload_n C.1 C.2.1 hd rfl hv.2 w
theorem r_astore_n (pc' : Nat) {s0 : Nat} {o : Option Nat} {j : Fin 4} (ls' : List AV) (hd : decode (bC y) pc = .ok (.astore_n j, 1)) (hp : pc + 1 = pc') (hs : sok ls j.val = true) (hl : ls.set j.val (rv s0 o) = ls') (t : TT y pc' ls' st h k n Q) : TT y pc ls (rv s0 o :: st) h k n Q := by
  subst hp; subst hl
  intro p l e R s m args below meth c D aC A C H locs cells slots ad ws lsC Qf hw hL hst g1 g2 hk
  have hi : j.val < mL y := by rw [← hL.1]; exact sok_lt hs
  cases o with
  | none => exact lv_astore_nN C.1 C.2.1 hd rfl hL.has hi rfl (fun lsC' hh => t p l e R s m args below meth c D aC A C H locs cells slots ad ws lsC' Qf hw (hL.set hs (vk_h hst) hh) (vk_t hst) g1 g2 hk)
  | some i => exact lv_astore_n C.1 C.2.1 hd rfl hL.has hi rfl (fun lsC' hh => t p l e R s m args below meth c D aC A C H locs cells slots ad ws lsC' Qf hw (hL.set hs (vk_h hst) hh) (vk_t hst) g1 g2 hk)
theorem r_istore_n (pc' : Nat) {x : Int32} {j : Fin 4} (ls' : List AV) (hd : decode (bC y) pc = .ok (.istore_n j, 1)) (hp : pc + 1 = pc') (hs : sok ls j.val = true) (hl : ls.set j.val (iv x) = ls') (t : TT y pc' ls' st h k n Q) : TT y pc ls (iv x :: st) h k n Q := by
  subst hp; subst hl
  intro p l e R s m args below meth c D aC A C H locs cells slots ad ws lsC Qf hw hL hst g1 g2 hk
  have hi : j.val < mL y := by rw [← hL.1]; exact sok_lt hs
  exact lv_istore_n C.1 C.2.1 hd rfl hL.has hi rfl (fun lsC' hh => t p l e R s m args below meth c D aC A C H locs cells slots ad ws lsC' Qf hw (hL.set hs (vk_h hst) hh) (vk_t hst) g1 g2 hk)
theorem r_lstore_n (pc' : Nat) {x : Int64} {j : Fin 4} (ls' : List AV) (hd : decode (bC y) pc = .ok (.lstore_n j, 1)) (hp : pc + 1 = pc') (hs : sok ls j.val = true) (hs2 : Nat.blt (j.val + 1) ls.length = true) (hl : (ls.set (j.val + 1) un).set j.val (jv x) = ls') (t : TT y pc' ls' st h k n Q) : TT y pc ls (jv x :: st) h k n Q := by
  subst hp; subst hl
  intro p l e R s m args below meth c D aC A C H locs cells slots ad ws lsC Qf hw hL hst g1 g2 hk
  have hi : j.val + 1 < mL y := by rw [← hL.1]; simpa using hs2
  exact lv_lstore_n C.1 C.2.1 hd rfl hL.has hi rfl (fun lsC' hh => t p l e R s m args below meth c D aC A C H locs cells slots ad ws lsC' Qf hw (hL.set2 hs (vk_h hst) hh) (vk_t hst) g1 g2 hk)
theorem r_aload (pc' : Nat) {s0 : Nat} {o : Option Nat} {j : Nat} (hd : decode (bC y) pc = .ok (.aload j, 2)) (hp : pc + 2 = pc') (hl : ls[j]? = some (rv s0 o)) (t : TT y pc' ls (rv s0 o :: st) h k n Q) : TT y pc ls st h k n Q := by
  subst hp
  intro p l e R s m args below meth c D aC A C H locs cells slots ad ws lsC Qf hw hL hst g1 g2 hk
  have hv := hL.at hl (isun_r s0 o)
  have w := t p l e R s m args below meth c D aC A C H locs cells slots ad ws lsC Qf hw hL (vk_c hv.1 hst) g1 g2 hk
  cases o with
  | none => exact lv_aloadN C.1 C.2.1 hd hv.2 w
  | some i => exact lv_aload C.1 C.2.1 hd hv.2 w
theorem r_astore (pc' : Nat) {s0 : Nat} {o : Option Nat} {j : Nat} (ls' : List AV) (hd : decode (bC y) pc = .ok (.astore j, 2)) (hp : pc + 2 = pc') (hs : sok ls j = true) (hl : ls.set j (rv s0 o) = ls') (t : TT y pc' ls' st h k n Q) : TT y pc ls (rv s0 o :: st) h k n Q := by
  subst hp; subst hl
  intro p l e R s m args below meth c D aC A C H locs cells slots ad ws lsC Qf hw hL hst g1 g2 hk
  have hi : j < mL y := by rw [← hL.1]; exact sok_lt hs
  cases o with
  | none => exact lv_astoreN C.1 C.2.1 hd hL.has hi rfl (fun lsC' hh => t p l e R s m args below meth c D aC A C H locs cells slots ad ws lsC' Qf hw (hL.set hs (vk_h hst) hh) (vk_t hst) g1 g2 hk)
  | some i => exact lv_astore C.1 C.2.1 hd hL.has hi rfl (fun lsC' hh => t p l e R s m args below meth c D aC A C H locs cells slots ad ws lsC' Qf hw (hL.set hs (vk_h hst) hh) (vk_t hst) g1 g2 hk)
theorem r_istore (pc' : Nat) {x : Int32} {j : Nat} (ls' : List AV) (hd : decode (bC y) pc = .ok (.istore j, 2)) (hp : pc + 2 = pc') (hs : sok ls j = true) (hl : ls.set j (iv x) = ls') (t : TT y pc' ls' st h k n Q) : TT y pc ls (iv x :: st) h k n Q := by
  subst hp; subst hl
  intro p l e R s m args below meth c D aC A C H locs cells slots ad ws lsC Qf hw hL hst g1 g2 hk
  have hi : j < mL y := by rw [← hL.1]; exact sok_lt hs
  exact lv_istore C.1 C.2.1 hd hL.has hi rfl (fun lsC' hh => t p l e R s m args below meth c D aC A C H locs cells slots ad ws lsC' Qf hw (hL.set hs (vk_h hst) hh) (vk_t hst) g1 g2 hk)
theorem r_lstore (pc' : Nat) {x : Int64} {j : Nat} (ls' : List AV) (hd : decode (bC y) pc = .ok (.lstore j, 2)) (hp : pc + 2 = pc') (hs : sok ls j = true) (hs2 : Nat.blt (j + 1) ls.length = true) (hl : (ls.set (j + 1) un).set j (jv x) = ls') (t : TT y pc' ls' st h k n Q) : TT y pc ls (jv x :: st) h k n Q := by
  subst hp; subst hl
  intro p l e R s m args below meth c D aC A C H locs cells slots ad ws lsC Qf hw hL hst g1 g2 hk
  have hi : j + 1 < mL y := by rw [← hL.1]; simpa using hs2
  exact lv_lstore C.1 C.2.1 hd hL.has hi rfl (fun lsC' hh => t p l e R s m args below meth c D aC A C H locs cells slots ad ws lsC' Qf hw (hL.set2 hs (vk_h hst) hh) (vk_t hst) g1 g2 hk)
theorem r_iinc (pc' : Nat) {x : Int32} {j : Nat} {i : Int} (v : Int32) (ls' : List AV) (hd : decode (bC y) pc = .ok (.iinc j i, 3)) (hp : pc + 3 = pc') (hx0 : ls[j]? = some (iv x)) (hv : x + Int32.ofInt i = v) (hs : sok ls j = true) (hl : ls.set j (iv v) = ls') (t : TT y pc' ls' st h k n Q) : TT y pc ls st h k n Q := by
  subst hp; subst hl
  intro p l e R s m args below meth c D aC A C H locs cells slots ad ws lsC Qf hw hL hst g1 g2 hk
  have hi : j < mL y := by rw [← hL.1]; exact sok_lt hs
  obtain ⟨kk, hkk⟩ := List.getElem?_of_mem (lvl_mem (ad := ad) hx0 rfl)
  exact lv_iinc C.1 C.2.1 hd hL.has hkk hv hi rfl (fun lsC' hh => t p l e R s m args below meth c D aC A C H locs cells slots ad ws lsC' Qf hw (hL.set hs (vok_i h v) hh) hst g1 g2 hk)
theorem r_iadd (pc' : Nat) {a b : Int32} (v : Int32) (hd : decode (bC y) pc = .ok (.iadd, 1)) (hp : pc + 1 = pc') (hv : a + b = v) (t : TT y pc' ls (iv v :: st) h k n Q) : TT y pc ls (iv b :: iv a :: st) h k n Q := by
  subst hp; subst hv
  exact TT.step (fun hv => vk_c (vok_i h _) (vk_t (vk_t hv))) (fun p l e R s m args below meth c H locs cells slots ad lsC Qf hx hb hL w => lv_iadd hx hb hd w) t
theorem r_isub (pc' : Nat) {a b : Int32} (v : Int32) (hd : decode (bC y) pc = .ok (.isub, 1)) (hp : pc + 1 = pc') (hv : a - b = v) (t : TT y pc' ls (iv v :: st) h k n Q) : TT y pc ls (iv b :: iv a :: st) h k n Q := by
  subst hp; subst hv
  exact TT.step (fun hv => vk_c (vok_i h _) (vk_t (vk_t hv))) (fun p l e R s m args below meth c H locs cells slots ad lsC Qf hx hb hL w => lv_isub hx hb hd w) t
theorem r_imul (pc' : Nat) {a b : Int32} (v : Int32) (hd : decode (bC y) pc = .ok (.imul, 1)) (hp : pc + 1 = pc') (hv : a * b = v) (t : TT y pc' ls (iv v :: st) h k n Q) : TT y pc ls (iv b :: iv a :: st) h k n Q := by
  subst hp; subst hv
  exact TT.step (fun hv => vk_c (vok_i h _) (vk_t (vk_t hv))) (fun p l e R s m args below meth c H locs cells slots ad lsC Qf hx hb hL w => lv_imul hx hb hd w) t
theorem r_iand (pc' : Nat) {a b : Int32} (v : Int32) (hd : decode (bC y) pc = .ok (.iand, 1)) (hp : pc + 1 = pc') (hv : a &&& b = v) (t : TT y pc' ls (iv v :: st) h k n Q) : TT y pc ls (iv b :: iv a :: st) h k n Q := by
  subst hp; subst hv
  exact TT.step (fun hv => vk_c (vok_i h _) (vk_t (vk_t hv))) (fun p l e R s m args below meth c H locs cells slots ad lsC Qf hx hb hL w => lv_iand hx hb hd w) t
theorem r_ior (pc' : Nat) {a b : Int32} (v : Int32) (hd : decode (bC y) pc = .ok (.ior, 1)) (hp : pc + 1 = pc') (hv : a ||| b = v) (t : TT y pc' ls (iv v :: st) h k n Q) : TT y pc ls (iv b :: iv a :: st) h k n Q := by
  subst hp; subst hv
  exact TT.step (fun hv => vk_c (vok_i h _) (vk_t (vk_t hv))) (fun p l e R s m args below meth c H locs cells slots ad lsC Qf hx hb hL w => lv_ior hx hb hd w) t
theorem r_ishl (pc' : Nat) {a b : Int32} (v : Int32) (hd : decode (bC y) pc = .ok (.ishl, 1)) (hp : pc + 1 = pc') (hv : a <<< (b &&& 31) = v) (t : TT y pc' ls (iv v :: st) h k n Q) : TT y pc ls (iv b :: iv a :: st) h k n Q := by
  subst hp; subst hv
  exact TT.step (fun hv => vk_c (vok_i h _) (vk_t (vk_t hv))) (fun p l e R s m args below meth c H locs cells slots ad lsC Qf hx hb hL w => lv_ishl hx hb hd w) t
theorem r_ishr (pc' : Nat) {a b : Int32} (v : Int32) (hd : decode (bC y) pc = .ok (.ishr, 1)) (hp : pc + 1 = pc') (hv : a >>> (b &&& 31) = v) (t : TT y pc' ls (iv v :: st) h k n Q) : TT y pc ls (iv b :: iv a :: st) h k n Q := by
  subst hp; subst hv
  exact TT.step (fun hv => vk_c (vok_i h _) (vk_t (vk_t hv))) (fun p l e R s m args below meth c H locs cells slots ad lsC Qf hx hb hL w => lv_ishr hx hb hd w) t
theorem r_idiv (pc' : Nat) {a b : Int32} (v : Int32) (hd : decode (bC y) pc = .ok (.idiv, 1)) (hp : pc + 1 = pc') (hne : ¬ b = 0) (hv : a / b = v) (t : TT y pc' ls (iv v :: st) h k n Q) : TT y pc ls (iv b :: iv a :: st) h k n Q := by
  subst hp; subst hv
  exact TT.step (fun hv => vk_c (vok_i h _) (vk_t (vk_t hv))) (fun p l e R s m args below meth c H locs cells slots ad lsC Qf hx hb hL w => lv_idiv hx hb hd hne w) t
theorem r_ladd (pc' : Nat) {a b : Int64} (v : Int64) (hd : decode (bC y) pc = .ok (.ladd, 1)) (hp : pc + 1 = pc') (hv : a + b = v) (t : TT y pc' ls (jv v :: st) h k n Q) : TT y pc ls (jv b :: jv a :: st) h k n Q := by
  subst hp; subst hv
  exact TT.step (fun hv => vk_c (vok_j h _) (vk_t (vk_t hv))) (fun p l e R s m args below meth c H locs cells slots ad lsC Qf hx hb hL w => lv_ladd hx hb hd w) t
theorem r_i2l (pc' : Nat) {a : Int32} (v : Int64) (hd : decode (bC y) pc = .ok (.i2l, 1)) (hp : pc + 1 = pc') (hv : a.toInt64 = v) (t : TT y pc' ls (jv v :: st) h k n Q) : TT y pc ls (iv a :: st) h k n Q := by
  subst hp
  exact TT.step (fun hv => vk_c (vok_j h _) (vk_t hv)) (fun p l e R s m args below meth c H locs cells slots ad lsC Qf hx hb hL w => lv_i2l hx hb hd hv w) t
theorem r_lcmp (pc' : Nat) {a b : Int64} (v : Int32) (hd : decode (bC y) pc = .ok (.lcmp, 1)) (hp : pc + 1 = pc') (hv : lg_cmp a b = v) (t : TT y pc' ls (iv v :: st) h k n Q) : TT y pc ls (jv b :: jv a :: st) h k n Q := by
  subst hp; subst hv
  exact TT.step (fun hv => vk_c (vok_i h _) (vk_t (vk_t hv))) (fun p l e R s m args below meth c H locs cells slots ad lsC Qf hx hb hL w => W.lcmp hx hb hd w) t
theorem cat1 {ad : AD} {v : AV} (hv : islg v = false) : (cv ad v).category = 1 := by
  rcases lv_cat (cv ad v) with q | q
  · exact q
  · exact absurd q (cat_lg hv)
theorem r_dup (pc' : Nat) {a : AV} (hd : decode (bC y) pc = .ok (.dup, 1)) (hp : pc + 1 = pc') (ha : islg a = false) (t : TT y pc' ls (a :: a :: st) h k n Q) : TT y pc ls (a :: st) h k n Q := by
  subst hp
  exact TT.step (fun hv => vk_c (vk_h hv) hv) (fun p l e R s m args below meth c H locs cells slots ad lsC Qf hx hb hL w => lv_dup hx hb hd (cat1 ha) w) t
theorem r_pop (pc' : Nat) {a : AV} (hd : decode (bC y) pc = .ok (.pop, 1)) (hp : pc + 1 = pc') (ha : islg a = false) (t : TT y pc' ls st h k n Q) : TT y pc ls (a :: st) h k n Q := by
  subst hp
  exact TT.step (fun hv => vk_t hv) (fun p l e R s m args below meth c H locs cells slots ad lsC Qf hx hb hL w => lv_pop hx hb hd (cat1 (ad := ad) ha) w) t
theorem r_dup_x1 (pc' : Nat) {a b : AV} (hd : decode (bC y) pc = .ok (.dup_x1, 1)) (hp : pc + 1 = pc') (ha : islg a = false) (hb0 : islg b = false) (t : TT y pc' ls (a :: b :: a :: st) h k n Q) : TT y pc ls (a :: b :: st) h k n Q := by
  subst hp
  exact TT.step (fun hv => vk_c (vk_h hv) (vk_c (vk_h (vk_t hv)) (vk_c (vk_h hv) (vk_t (vk_t hv))))) (fun p l e R s m args below meth c H locs cells slots ad lsC Qf hx hb hL w => lv_dup_x1 hx hb hd (cat1 ha) (cat1 hb0) w) t
theorem r_dup2 (pc' : Nat) {a b : AV} (hd : decode (bC y) pc = .ok (.dup2, 1)) (hp : pc + 1 = pc') (ha : islg a = false) (hb0 : islg b = false) (t : TT y pc' ls (a :: b :: a :: b :: st) h k n Q) : TT y pc ls (a :: b :: st) h k n Q := by
  subst hp
  exact TT.step (fun hv => vk_c (vk_h hv) (vk_c (vk_h (vk_t hv)) hv)) (fun p l e R s m args below meth c H locs cells slots ad lsC Qf hx hb hL w => lv_dup2_11 hx hb hd (cat1 ha) (cat1 hb0) w) t
theorem r_goto (tgt : Nat) {off : Int} (hd : decode (bC y) pc = .ok (.goto off, 3)) (ht : (pc : Int) + off = (tgt : Int)) (t : TT y tgt ls st h k n Q) : TT y pc ls st h k n Q :=
  TT.step (fun hv => hv) (fun p l e R s m args below meth c H locs cells slots ad lsC Qf hx hb hL w => lv_goto hx hb hd ht w) t
theorem r_if_eq (tgt pc' : Nat) {a : Int32} {off : Int} (hd : decode (bC y) pc = .ok (.ifCond .eq off, 3)) (ht : (pc : Int) + off = (tgt : Int)) (hp : pc + 3 = pc') (kt : a = 0 → TT y tgt ls st h k n Q) (kf : ¬ a = 0 → TT y pc' ls st h k n Q) : TT y pc ls (iv a :: st) h k n Q := by
  subst hp
  intro p l e R s m args below meth c D aC A C H locs cells slots ad ws lsC Qf hw hL hst g1 g2 hk
  exact lv_if_eq C.1 C.2.1 hd ht (fun q => kt q p l e R s m args below meth c D aC A C H locs cells slots ad ws lsC Qf hw hL (vk_t hst) g1 g2 hk) (fun q => kf q p l e R s m args below meth c D aC A C H locs cells slots ad ws lsC Qf hw hL (vk_t hst) g1 g2 hk)
theorem r_icmp_eq (tgt pc' : Nat) {a b : Int32} {off : Int} (hd : decode (bC y) pc = .ok (.if_icmp .eq off, 3)) (ht : (pc : Int) + off = (tgt : Int)) (hp : pc + 3 = pc') (kt : a = b → TT y tgt ls st h k n Q) (kf : ¬ a = b → TT y pc' ls st h k n Q) : TT y pc ls (iv b :: iv a :: st) h k n Q := by
  subst hp
  intro p l e R s m args below meth c D aC A C H locs cells slots ad ws lsC Qf hw hL hst g1 g2 hk
  exact lv_icmp_eq C.1 C.2.1 hd ht (fun q => kt q p l e R s m args below meth c D aC A C H locs cells slots ad ws lsC Qf hw hL (vk_t (vk_t hst)) g1 g2 hk) (fun q => kf q p l e R s m args below meth c D aC A C H locs cells slots ad ws lsC Qf hw hL (vk_t (vk_t hst)) g1 g2 hk)
theorem r_if_ne (tgt pc' : Nat) {a : Int32} {off : Int} (hd : decode (bC y) pc = .ok (.ifCond .ne off, 3)) (ht : (pc : Int) + off = (tgt : Int)) (hp : pc + 3 = pc') (kt : ¬ a = 0 → TT y tgt ls st h k n Q) (kf : a = 0 → TT y pc' ls st h k n Q) : TT y pc ls (iv a :: st) h k n Q := by
  subst hp
  intro p l e R s m args below meth c D aC A C H locs cells slots ad ws lsC Qf hw hL hst g1 g2 hk
  exact lv_if_ne C.1 C.2.1 hd ht (fun q => kt q p l e R s m args below meth c D aC A C H locs cells slots ad ws lsC Qf hw hL (vk_t hst) g1 g2 hk) (fun q => kf q p l e R s m args below meth c D aC A C H locs cells slots ad ws lsC Qf hw hL (vk_t hst) g1 g2 hk)
theorem r_icmp_ne (tgt pc' : Nat) {a b : Int32} {off : Int} (hd : decode (bC y) pc = .ok (.if_icmp .ne off, 3)) (ht : (pc : Int) + off = (tgt : Int)) (hp : pc + 3 = pc') (kt : ¬ a = b → TT y tgt ls st h k n Q) (kf : a = b → TT y pc' ls st h k n Q) : TT y pc ls (iv b :: iv a :: st) h k n Q := by
  subst hp
  intro p l e R s m args below meth c D aC A C H locs cells slots ad ws lsC Qf hw hL hst g1 g2 hk
  exact lv_icmp_ne C.1 C.2.1 hd ht (fun q => kt q p l e R s m args below meth c D aC A C H locs cells slots ad ws lsC Qf hw hL (vk_t (vk_t hst)) g1 g2 hk) (fun q => kf q p l e R s m args below meth c D aC A C H locs cells slots ad ws lsC Qf hw hL (vk_t (vk_t hst)) g1 g2 hk)
theorem r_if_lt (tgt pc' : Nat) {a : Int32} {off : Int} (hd : decode (bC y) pc = .ok (.ifCond .lt off, 3)) (ht : (pc : Int) + off = (tgt : Int)) (hp : pc + 3 = pc') (kt : a < 0 → TT y tgt ls st h k n Q) (kf : ¬ a < 0 → TT y pc' ls st h k n Q) : TT y pc ls (iv a :: st) h k n Q := by
  subst hp
  intro p l e R s m args below meth c D aC A C H locs cells slots ad ws lsC Qf hw hL hst g1 g2 hk
  exact lv_if_lt C.1 C.2.1 hd ht (fun q => kt q p l e R s m args below meth c D aC A C H locs cells slots ad ws lsC Qf hw hL (vk_t hst) g1 g2 hk) (fun q => kf q p l e R s m args below meth c D aC A C H locs cells slots ad ws lsC Qf hw hL (vk_t hst) g1 g2 hk)
theorem r_icmp_lt (tgt pc' : Nat) {a b : Int32} {off : Int} (hd : decode (bC y) pc = .ok (.if_icmp .lt off, 3)) (ht : (pc : Int) + off = (tgt : Int)) (hp : pc + 3 = pc') (kt : a < b → TT y tgt ls st h k n Q) (kf : ¬ a < b → TT y pc' ls st h k n Q) : TT y pc ls (iv b :: iv a :: st) h k n Q := by
  subst hp
  intro p l e R s m args below meth c D aC A C H locs cells slots ad ws lsC Qf hw hL hst g1 g2 hk
  exact lv_icmp_lt C.1 C.2.1 hd ht (fun q => kt q p l e R s m args below meth c D aC A C H locs cells slots ad ws lsC Qf hw hL (vk_t (vk_t hst)) g1 g2 hk) (fun q => kf q p l e R s m args below meth c D aC A C H locs cells slots ad ws lsC Qf hw hL (vk_t (vk_t hst)) g1 g2 hk)
theorem r_if_ge (tgt pc' : Nat) {a : Int32} {off : Int} (hd : decode (bC y) pc = .ok (.ifCond .ge off, 3)) (ht : (pc : Int) + off = (tgt : Int)) (hp : pc + 3 = pc') (kt : 0 ≤ a → TT y tgt ls st h k n Q) (kf : ¬ 0 ≤ a → TT y pc' ls st h k n Q) : TT y pc ls (iv a :: st) h k n Q := by
  subst hp
  intro p l e R s m args below meth c D aC A C H locs cells slots ad ws lsC Qf hw hL hst g1 g2 hk
  exact lv_if_ge C.1 C.2.1 hd ht (fun q => kt q p l e R s m args below meth c D aC A C H locs cells slots ad ws lsC Qf hw hL (vk_t hst) g1 g2 hk) (fun q => kf q p l e R s m args below meth c D aC A C H locs cells slots ad ws lsC Qf hw hL (vk_t hst) g1 g2 hk)
theorem r_icmp_ge (tgt pc' : Nat) {a b : Int32} {off : Int} (hd : decode (bC y) pc = .ok (.if_icmp .ge off, 3)) (ht : (pc : Int) + off = (tgt : Int)) (hp : pc + 3 = pc') (kt : b ≤ a → TT y tgt ls st h k n Q) (kf : ¬ b ≤ a → TT y pc' ls st h k n Q) : TT y pc ls (iv b :: iv a :: st) h k n Q := by
  subst hp
  intro p l e R s m args below meth c D aC A C H locs cells slots ad ws lsC Qf hw hL hst g1 g2 hk
  exact lv_icmp_ge C.1 C.2.1 hd ht (fun q => kt q p l e R s m args below meth c D aC A C H locs cells slots ad ws lsC Qf hw hL (vk_t (vk_t hst)) g1 g2 hk) (fun q => kf q p l e R s m args below meth c D aC A C H locs cells slots ad ws lsC Qf hw hL (vk_t (vk_t hst)) g1 g2 hk)
theorem r_if_gt (tgt pc' : Nat) {a : Int32} {off : Int} (hd : decode (bC y) pc = .ok (.ifCond .gt off, 3)) (ht : (pc : Int) + off = (tgt : Int)) (hp : pc + 3 = pc') (kt : 0 < a → TT y tgt ls st h k n Q) (kf : ¬ 0 < a → TT y pc' ls st h k n Q) : TT y pc ls (iv a :: st) h k n Q := by
  subst hp
  intro p l e R s m args below meth c D aC A C H locs cells slots ad ws lsC Qf hw hL hst g1 g2 hk
  exact lv_if_gt C.1 C.2.1 hd ht (fun q => kt q p l e R s m args below meth c D aC A C H locs cells slots ad ws lsC Qf hw hL (vk_t hst) g1 g2 hk) (fun q => kf q p l e R s m args below meth c D aC A C H locs cells slots ad ws lsC Qf hw hL (vk_t hst) g1 g2 hk)
theorem r_icmp_gt (tgt pc' : Nat) {a b : Int32} {off : Int} (hd : decode (bC y) pc = .ok (.if_icmp .gt off, 3)) (ht : (pc : Int) + off = (tgt : Int)) (hp : pc + 3 = pc') (kt : b < a → TT y tgt ls st h k n Q) (kf : ¬ b < a → TT y pc' ls st h k n Q) : TT y pc ls (iv b :: iv a :: st) h k n Q := by
  subst hp
  intro p l e R s m args below meth c D aC A C H locs cells slots ad ws lsC Qf hw hL hst g1 g2 hk
  exact lv_icmp_gt C.1 C.2.1 hd ht (fun q => kt q p l e R s m args below meth c D aC A C H locs cells slots ad ws lsC Qf hw hL (vk_t (vk_t hst)) g1 g2 hk) (fun q => kf q p l e R s m args below meth c D aC A C H locs cells slots ad ws lsC Qf hw hL (vk_t (vk_t hst)) g1 g2 hk)
theorem r_if_le (tgt pc' : Nat) {a : Int32} {off : Int} (hd : decode (bC y) pc = .ok (.ifCond .le off, 3)) (ht : (pc : Int) + off = (tgt : Int)) (hp : pc + 3 = pc') (kt : a ≤ 0 → TT y tgt ls st h k n Q) (kf : ¬ a ≤ 0 → TT y pc' ls st h k n Q) : TT y pc ls (iv a :: st) h k n Q := by
  subst hp
  intro p l e R s m args below meth c D aC A C H locs cells slots ad ws lsC Qf hw hL hst g1 g2 hk
  exact lv_if_le C.1 C.2.1 hd ht (fun q => kt q p l e R s m args below meth c D aC A C H locs cells slots ad ws lsC Qf hw hL (vk_t hst) g1 g2 hk) (fun q => kf q p l e R s m args below meth c D aC A C H locs cells slots ad ws lsC Qf hw hL (vk_t hst) g1 g2 hk)
theorem r_icmp_le (tgt pc' : Nat) {a b : Int32} {off : Int} (hd : decode (bC y) pc = .ok (.if_icmp .le off, 3)) (ht : (pc : Int) + off = (tgt : Int)) (hp : pc + 3 = pc') (kt : a ≤ b → TT y tgt ls st h k n Q) (kf : ¬ a ≤ b → TT y pc' ls st h k n Q) : TT y pc ls (iv b :: iv a :: st) h k n Q := by
  subst hp
  intro p l e R s m args below meth c D aC A C H locs cells slots ad ws lsC Qf hw hL hst g1 g2 hk
  exact lv_icmp_le C.1 C.2.1 hd ht (fun q => kt q p l e R s m args below meth c D aC A C H locs cells slots ad ws lsC Qf hw hL (vk_t (vk_t hst)) g1 g2 hk) (fun q => kf q p l e R s m args below meth c D aC A C H locs cells slots ad ws lsC Qf hw hL (vk_t (vk_t hst)) g1 g2 hk)
theorem r_ifnull (tgt pc' : Nat) {s0 : Nat} {o : Option Nat} {off : Int} (hd : decode (bC y) pc = .ok (.ifnull off, 3)) (ht : (pc : Int) + off = (tgt : Int)) (hp : pc + 3 = pc') (kt : o = none → TT y tgt ls st h k n Q) (kf : ∀ i, o = some i → TT y pc' ls st h k n Q) : TT y pc ls (rv s0 o :: st) h k n Q := by
  subst hp
  intro p l e R s m args below meth c D aC A C H locs cells slots ad ws lsC Qf hw hL hst g1 g2 hk
  cases o with
  | none => exact lv_ifnullN C.1 C.2.1 hd ht (kt rfl p l e R s m args below meth c D aC A C H locs cells slots ad ws lsC Qf hw hL (vk_t hst) g1 g2 hk)
  | some i => exact lv_ifnull C.1 C.2.1 hd (kf i rfl p l e R s m args below meth c D aC A C H locs cells slots ad ws lsC Qf hw hL (vk_t hst) g1 g2 hk)
theorem r_ifnonnull (tgt pc' : Nat) {s0 : Nat} {o : Option Nat} {off : Int} (hd : decode (bC y) pc = .ok (.ifnonnull off, 3)) (ht : (pc : Int) + off = (tgt : Int)) (hp : pc + 3 = pc') (kt : ∀ i, o = some i → TT y tgt ls st h k n Q) (kf : o = none → TT y pc' ls st h k n Q) : TT y pc ls (rv s0 o :: st) h k n Q := by
  subst hp
  intro p l e R s m args below meth c D aC A C H locs cells slots ad ws lsC Qf hw hL hst g1 g2 hk
  cases o with
  | none => exact lv_ifnonnullN C.1 C.2.1 hd (kf rfl p l e R s m args below meth c D aC A C H locs cells slots ad ws lsC Qf hw hL (vk_t hst) g1 g2 hk)
  | some i => exact lv_ifnonnull C.1 C.2.1 hd ht (kt i rfl p l e R s m args below meth c D aC A C H locs cells slots ad ws lsC Qf hw hL (vk_t hst) g1 g2 hk)
theorem rv_inj {aC : Nat → ClassId} {ad : AD} {ws : va_W} {s0 : Nat} {o1 o2 : Option Nat} (hc : Cn aC ad h ws) (hs : s0 < 8) (h1 : vok h (rv s0 o1)) (h2 : vok h (rv s0 o2)) (he : o1.map (ad s0) = o2.map (ad s0)) : o1 = o2 := by
  cases o1 with
  | none => cases o2 with
    | none => rfl
    | some j => cases he
  | some i => cases o2 with
    | none => cases he
    | some j => rw [(hc.2 s0 i s0 j hs hs h1 h2 (Option.some.inj he)).2]
theorem r_acmp_eq (tgt pc' : Nat) {s0 : Nat} {o1 o2 : Option Nat} {off : Int} (hd : decode (bC y) pc = .ok (.if_acmp .eq off, 3)) (ht : (pc : Int) + off = (tgt : Int)) (hp : pc + 3 = pc') (hs0 : s0 < 8) (kt : o1 = o2 → TT y tgt ls st h k n Q) (kf : ¬ o1 = o2 → TT y pc' ls st h k n Q) : TT y pc ls (rv s0 o2 :: rv s0 o1 :: st) h k n Q := by
  subst hp
  intro p l e R s m args below meth c D aC A C H locs cells slots ad ws lsC Qf hw hL hst g1 g2 hk
  rw [List.map_cons, List.map_cons, cv_r, cv_r]
  exact lv_acmp_eq C.1 C.2.1 hd ht (fun q => kt (rv_inj hw.2.1 hs0 (vk_h (vk_t hst)) (vk_h hst) q) p l e R s m args below meth c D aC A C H locs cells slots ad ws lsC Qf hw hL (vk_t (vk_t hst)) g1 g2 hk) (fun q => kf (fun z => q (by rw [z])) p l e R s m args below meth c D aC A C H locs cells slots ad ws lsC Qf hw hL (vk_t (vk_t hst)) g1 g2 hk)
theorem r_acmp_ne (tgt pc' : Nat) {s0 : Nat} {o1 o2 : Option Nat} {off : Int} (hd : decode (bC y) pc = .ok (.if_acmp .ne off, 3)) (ht : (pc : Int) + off = (tgt : Int)) (hp : pc + 3 = pc') (hs0 : s0 < 8) (kt : ¬ o1 = o2 → TT y tgt ls st h k n Q) (kf : o1 = o2 → TT y pc' ls st h k n Q) : TT y pc ls (rv s0 o2 :: rv s0 o1 :: st) h k n Q := by
  subst hp
  intro p l e R s m args below meth c D aC A C H locs cells slots ad ws lsC Qf hw hL hst g1 g2 hk
  rw [List.map_cons, List.map_cons, cv_r, cv_r]
  exact lv_acmp_ne C.1 C.2.1 hd ht (fun q => kt (fun z => q (by rw [z])) p l e R s m args below meth c D aC A C H locs cells slots ad ws lsC Qf hw hL (vk_t (vk_t hst)) g1 g2 hk) (fun q => kf (rv_inj hw.2.1 hs0 (vk_h (vk_t hst)) (vk_h hst) q) p l e R s m args below meth c D aC A C H locs cells slots ad ws lsC Qf hw hL (vk_t (vk_t hst)) g1 g2 hk)
theorem r_ireturn {x : Int32} (hd : decode (bC y) pc = .ok (.ireturn, 1)) (hr : rt y = some .int) (hq : Q (some (iv x)) h) : TT y pc ls [iv x] h k n Q := by
  intro p l e R s m args below meth c D aC A C H locs cells slots ad ws lsC Qf hw hL hst g1 g2 hk
  exact W.widen (Nat.le_add_right _ _) (Nat.le_add_right _ _) (hk (some (iv x)) h pc lsC H locs ad ws hq (Or.inl ⟨x, rfl, hr, hd⟩) hw (fun v hv => by cases hv; trivial) (ext.rf h ad))
theorem r_zreturn {x : Int32} (hd : decode (bC y) pc = .ok (.ireturn, 1)) (hr : rt y = some .boolean) (hz : narrow .boolean (.int x) = .int x) (hq : Q (some (iv x)) h) : TT y pc ls [iv x] h k n Q := by
  intro p l e R s m args below meth c D aC A C H locs cells slots ad ws lsC Qf hw hL hst g1 g2 hk
  exact W.widen (Nat.le_add_right _ _) (Nat.le_add_right _ _) (hk (some (iv x)) h pc lsC H locs ad ws hq (Or.inr (Or.inl ⟨x, rfl, hr, hz, hd⟩)) hw (fun v hv => by cases hv; trivial) (ext.rf h ad))
theorem r_areturn {s0 : Nat} {o : Option Nat} {C0 : String} (hd : decode (bC y) pc = .ok (.areturn, 1)) (hr : rt y = some (.object C0)) (hq : Q (some (rv s0 o)) h) : TT y pc ls [rv s0 o] h k n Q := by
  intro p l e R s m args below meth c D aC A C H locs cells slots ad ws lsC Qf hw hL hst g1 g2 hk
  exact W.widen (Nat.le_add_right _ _) (Nat.le_add_right _ _) (hk (some (rv s0 o)) h pc lsC H locs ad ws hq (Or.inr (Or.inr (Or.inl ⟨s0, o, C0, rfl, hr, hd⟩))) hw (fun v hv => by cases hv; exact vk_h hst) (ext.rf h ad))
theorem r_return (hd : decode (bC y) pc = .ok (.return_, 1)) (hr : rt y = none) (hq : Q none h) : TT y pc ls [] h k n Q := by
  intro p l e R s m args below meth c D aC A C H locs cells slots ad ws lsC Qf hw hL hst g1 g2 hk
  exact W.widen (Nat.le_add_right _ _) (Nat.le_add_right _ _) (hk none h pc lsC H locs ad ws hq (Or.inr (Or.inr (Or.inr ⟨rfl, hr, hd⟩))) hw (fun v hv => by cases hv) (ext.rf h ad))
theorem r_tableIn (tgt : Nat) {a : Int32} {dflt lo0 hi0 : Int} {offs : Array Int} {len : Nat} {off : Int} (hd : decode (bC y) pc = .ok (.tableswitch dflt lo0 hi0 offs, len)) (h1 : ¬ a.toInt < lo0) (h2 : ¬ hi0 < a.toInt) (ho : offs[(a.toInt - lo0).toNat]? = some off) (ht : (pc : Int) + off = (tgt : Int)) (t : TT y tgt ls st h k n Q) : TT y pc ls (iv a :: st) h k n Q :=
  TT.step (fun hv => vk_t hv) (fun p l e R s m args below meth c H locs cells slots ad lsC Qf hx hb hL w => lv_tableIn hx hb hd h1 h2 ho ht w) t
theorem r_tableOut (tgt : Nat) {a : Int32} {dflt lo0 hi0 : Int} {offs : Array Int} {len : Nat} (hd : decode (bC y) pc = .ok (.tableswitch dflt lo0 hi0 offs, len)) (h1 : a.toInt < lo0 ∨ hi0 < a.toInt) (ht : (pc : Int) + dflt = (tgt : Int)) (t : TT y tgt ls st h k n Q) : TT y pc ls (iv a :: st) h k n Q :=
  TT.step (fun hv => vk_t hv) (fun p l e R s m args below meth c H locs cells slots ad lsC Qf hx hb hL w => lv_tableOut hx hb hd h1 ht w) t
end RULES1
