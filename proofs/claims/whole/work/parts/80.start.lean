/-! THE CLAIM OUT OF ONE WALK OF THE LAW'S BODY. Your part is whole_start (and what it stands on); all else here is the same for every law, but numbers. -/
def R_law : String := "RegionHeapLaw"
def lw_P (b : Addr) (xs : List Int32) (args : Array Value) (s : State) : Prop := args = #[.ref b] ∧ s.IntsAt b xs ∧ xs.length ≤ 2048 ∧ (Jvm.Cond.and given_1 narrow_1).before args s = true
def lw_Q (_ : Array Value) (s : State) (o : Outcome) (t : State) : Prop := o = .returned (some (.int 1)) ∧ Framed s o t [] 603904 7290537
def lw_Z (below : List Frame) (a : Array Value) (s : State) : State → Prop := fun t => ∃ o, t.status = .running ∧ Ended t below o ∧ lw_Q a s o t
/-- the law's own end, with 1 on the stack, nothing written that was there before, its room as the claim has it -/
theorem lw_ret {p : Program} {l : Launch} {e : Env} {s : State} {m : MethodId} {below : List Frame} {meth : Method} {c : Code} {b : Nat} (hx : p.tables.exec = Jvm.exec) (hb : c.code = code) (hr : meth.sig.returnType = ret) (hlocks : meth.locks = false) {pc : Nat} {H : Heap} {ls : Array Slot} (hdg : decode code pc = .ok (.ireturn, 1)) : W p l e room_1 s m #[Value.ref b] below meth c H [] 603904 7290537 (lw_Z below #[Value.ref b] s) (F0 m pc ls [.int 1]) := by
  intro T hT X
  obtain ⟨fs, hret, hrun, hended, hW, hframe⟩ := X.leave (v := some (.int 1)) (hlocks := hlocks) (fun h => by rw [hr] at h; cases h)
  have hmeth' : T.vm.method? m = some meth := X.method'
  refine ⟨T.setFrames fs, ?_, .returned (some (.int 1)), hrun, hended, rfl, ⟨_, rfl⟩, hW, hframe⟩
  jvm_step X.here [X.here.top, hx, hb, hdg, hmeth', hr, ret, narrow_b1]
  (try refine ⟨rfl, ?_⟩); (try refine ⟨rfl, ?_⟩)
  first | (intro acts; rw [hret _ acts rfl rfl rfl]) | rw [hret _ _ rfl rfl rfl]
  exact Steps.refl _
/-- what holds at the law's entry: the machine, the code, the tables' words (any of lw_tbl by 'hts w (by decide +kernel)'), the script of L ints xs at the cell b, what the Statement gives of the start (any of its parts by flat_of_before) -/
def lw_At (p : Program) (s : State) (m : MethodId) (meth : Method) (c : Code) (b L : Nat) (xs : Nat → Int32) : Prop :=
  p.tables.exec = Jvm.exec ∧ c.code = code ∧ meth.sig.returnType = ret ∧ c.maxLocals = 4 ∧ s.vm.findClass R_law = some m.cls ∧ (∀ w ∈ lw_tbl, w.before #[Value.ref b] s = true) ∧ va_X b L xs s s.heap ∧ b < s.heap.size ∧ meth.locks = false ∧ (Jvm.Cond.and given_1 narrow_1).before #[Value.ref b] s = true
/-! the law's body out of the judgement -/
def h0 (L : Nat) (xs : Nat → Int32) : AH := ((fun s => if s = 8 then 1 else 0), (fun s _ => if s = 8 then L else 0), (fun s _ j => if s = 8 then xs j else 0), fun _ _ _ => none)
theorem whole_of {KC KS : Nat} (hT : ∀ (L : Nat) (xs : Nat → Int32), L ≤ 2048 → TT yL 0 (ent yL [rv 8 (some 0)]) [] (h0 L xs) KC KS (fun r _ => r = some (iv 1))) (hKC : KC ≤ room_1.cells) (hKS : KS ≤ room_1.slots) {p : Program} {e : Env} {s : State} {m : MethodId} {below : List Frame} {meth : Method} {c : Code} (l : Launch) {b L : Nat} {xs : Nat → Int32} (hL : L ≤ 2048) (C0 : lw_At p s m meth c b L xs) : W p l e room_1 s m #[Value.ref b] below meth c s.heap [] 0 0 (lw_Z below #[Value.ref b] s) (entryFrame m ([Value.ref b] : List Value).toArray (mL yL)) := by
  obtain ⟨hx, hb, hr, hml, hown, hts, hX, hbl, hlocks, hgv⟩ := id C0
  have hgd : ∀ w ∈ gd, w.before #[Value.ref b] s = true := fun w hw => hts w (gd_tbl hw)
  obtain ⟨c0, iS0, hKn0⟩ := u_known (C := (cT 0).1) (T := (cT 0).2.1) (N := (cT 0).2.2) (n := (cT 0).2.2) hgd (gd_cls 0 (by decide)) (hgd _ gd_inst.1)
  obtain ⟨c1, iS1, hKn1⟩ := u_known (C := (cT 1).1) (T := (cT 1).2.1) (N := (cT 1).2.2) (n := (cT 1).2.2) hgd (gd_cls 1 (by decide)) (hgd _ gd_inst.2.1)
  obtain ⟨c2, iS2, hKn2⟩ := u_known (C := (cT 2).1) (T := (cT 2).2.1) (N := (cT 2).2.2) (n := (cT 2).2.2) hgd (gd_cls 2 (by decide)) (hgd _ gd_inst.2.2.1)
  obtain ⟨c3, iS3, hKn3⟩ := u_known (C := (cT 3).1) (T := (cT 3).2.1) (N := (cT 3).2.2) (n := (cT 3).2.2) hgd (gd_cls 3 (by decide)) (hgd _ gd_inst.2.2.2)
  obtain ⟨dC, dI, hKc⟩ : ∃ (dC : Nat → ClassId) (dI : Nat → Nat → Nat), ∀ (k : Nat) (q : vw_C), classes[k]? = some q → u_Kn s q.1 q.2.1 q.2.2 (dC k) (dI k) := by
    refine ⟨fun k => if k = 0 then c0 else if k = 1 then c1 else if k = 2 then c2 else c3, fun k => if k = 0 then iS0 else if k = 1 then iS1 else if k = 2 then iS2 else iS3, ?_⟩
    intro k q hq
    match k, hq with
    | 0, hq => cases hq; exact hKn0
    | 1, hq => cases hq; exact hKn1
    | 2, hq => cases hq; exact hKn2
    | 3, hq => cases hq; exact hKn3
    | k + 4, hq => simp [classes] at hq
  have hO1 : va_AO C_Item s := va_AO.of (A := #[Value.ref b]) (hts _ tb_Item)
  have hO2 : va_AO C_Region s := va_AO.of (A := #[Value.ref b]) (hts _ tb_Region)
  obtain ⟨m4, a4, k4, e4, -, f4, g4, i4⟩ := Cond.arrayOver_spec hO1
  obtain ⟨m5, a5, k5, e5, -, f5, g5, i5⟩ := Cond.arrayOver_spec hO2
  obtain ⟨a6, k6, m6, e6, f6, g6⟩ := Cond.arrayClass_spec (hgd _ gd_int)
  obtain ⟨a7, k7, m7, e7, f7, g7⟩ := Cond.arrayClass_spec (hgd _ gd_bool)
  have hK : va_K (dC, dI) classes (tys (fun k => if k = 4 then a4 else if k = 5 then a5 else if k = 6 then a6 else a7)) s := by
    refine ⟨hKc, fun k q hq => ?_⟩
    match k, hq with
    | 0, hq => cases hq; exact ⟨fun n z => ⟨fun k h => (by cases h), k4, f4, m4, g4⟩, k4, m4, f4, g4, e4, i4⟩
    | 1, hq => cases hq; exact ⟨fun n z => ⟨fun k h => (by cases h), k5, f5, m5, g5⟩, k5, m5, f5, g5, e5, i5⟩
    | 2, hq => cases hq; exact ⟨fun n z => ⟨fun k h => (by cases h), k6, f6, m6, g6⟩, e6⟩
    | 3, hq => cases hq; exact ⟨fun n z => ⟨fun k h => (by cases h), k7, f7, m7, g7⟩, e7⟩
    | k + 4, hq => simp [tys] at hq
  have C : Cx yL (dC, dI) (fun k => if k = 4 then a4 else if k = 5 then a5 else if k = 6 then a6 else a7) (fun q : Nat => s.heap.size ≤ q) p room_1 s m #[Value.ref b] meth c :=
    ⟨hx, hb, hr, hml, hown, hgd, hlocks, fun z => absurd z (by decide), fun w hw => nst_of (hts w (nst_tbl hw)) hw, hK, by decide +kernel, by decide +kernel, fun _ h => h, hO1, hO2⟩
  have hw : Wd (dC, dI) (fun k => if k = 4 then a4 else if k = 5 then a5 else if k = 6 then a6 else a7) (fun q : Nat => s.heap.size ≤ q) s s.heap [] (h0 L xs) (fun _ _ => b) [] := by
    refine ⟨⟨fun s i k j _ hj => (by cases hj), fun s i => ?_⟩, ⟨fun s i hs hi => ?_, fun s i s' i' hs _ hi => ?_⟩, fun k q h => by simp at h, ⟨fun i j p q h => by simp at h, fun k q h => by simp at h⟩, va_S.rf, fun i hi => ?_⟩
    · show (if s = 8 then L else 0) < 2 ^ 31
      split <;> omega
    · have : i < (if s = 8 then 1 else 0) := hi
      rw [if_neg (by omega)] at this
      omega
    · have : i < (if s = 8 then 1 else 0) := hi
      rw [if_neg (by omega)] at this
      omega
    · exact ⟨hX, hbl, Nat.not_le.mpr hbl⟩
  have hL8 := ent_Lv (y := yL) (as := [rv 8 (some 0)]) (h := h0 L xs) (ad := fun _ _ => b) (fun v hv => by
    rcases List.mem_cons.mp hv with q | q
    · rw [q]; exact Nat.lt_succ_self 0
    · cases q) (fun v hv => by
    rcases List.mem_cons.mp hv with q | q
    · rw [q]; rfl
    · cases q) (by decide)
  rw [lg_entry_eq]
  refine hT L xs hL p l e room_1 s m _ below meth c _ _ _ C s.heap [] 0 0 _ [] _ _ hw hL8 (fun _ hm => by cases hm) (by omega) (by omega) ?_
  intro r h' pc ls H locs ad' ws' hq hret hw' _ _
  subst hq
  refine va_forget (fun q hq => hw'.2.2.2.2.1.2.2 q hq) ?_
  refine W.widen (k := room_1.cells) (n := room_1.slots) (by omega) (by omega) ?_
  rcases hret with ⟨x, e1, h1, h2⟩ | ⟨x, e1, h1, h3, h2⟩ | ⟨s0, o, C0, e1, h1, h2⟩ | ⟨e1, h1, h2⟩
  · exact absurd h1 (by decide)
  · exact lw_ret hx hb hr hlocks h2
  · cases (show some FieldType.boolean = some (FieldType.object C0) from h1)
  · cases e1
