/-! contracts of the reference: its constructor -/
theorem MF_nw {h h1 : AH} (a : MF h h1) {s n : Nat} (hs : cS s = false) : MF h (nw h1 s n) := fun s' hs' => by
  have hne : s' ≠ s := fun z => by rw [z, hs] at hs'; cases hs'
  obtain ⟨a1, a2, a3, a4⟩ := a s' hs'
  exact ⟨(if_neg hne).trans a1, fun i => (if_neg (fun z => hne z.1)).trans (a2 i), fun i k => (if_neg (fun z => hne z.1)).trans (a3 i k), fun i k => (if_neg (fun z => hne z.1)).trans (a4 i k)⟩
theorem MF_sR {h h1 : AH} (a : MF h h1) {s i k : Nat} {v : Option Nat} (hs : cS s = false) : MF h (sR h1 s i k v) := fun s' hs' => by
  obtain ⟨a1, a2, a3, a4⟩ := a s' hs'
  refine ⟨a1, a2, a3, fun i' k' => ?_⟩
  rw [hR_sR, if_neg]
  · exact a4 i' k'
  · rintro ⟨rfl, -, -⟩
    rw [hs] at hs'
    cases hs'
theorem nS_R {h : AH} {s n s' i k : Nat} (e : s' ≠ s) : hR (nw h s n) s' i k = hR h s' i k := by rw [hR_nw, if_neg (fun z => e z.1)]
theorem nS_L {h : AH} {s n s' i : Nat} (e : s' ≠ s) : hL (nw h s n) s' i = hL h s' i := by rw [hL_nw, if_neg (fun z => e z.1)]
theorem nS_I {h : AH} {s n s' i k : Nat} (e : s' ≠ s) : hI (nw h s n) s' i k = hI h s' i k := by rw [hI_nw, if_neg (fun z => e z.1)]
theorem ite_iff' {p q : Prop} [Decidable p] [Decidable q] {α : Type} {x y : α} (h : p ↔ q) : (if p then x else y) = (if q then x else y) := by
  by_cases hp : p
  · rw [if_pos hp, if_pos (h.mp hp)]
  · rw [if_neg hp, if_neg (fun z => hp (h.mpr z))]
def MIv (h : AH) (a b K : Nat) (c : Int32) : Prop := h.1 6 = a ∧ h.1 7 = b ∧ (∀ k, hR h 3 0 k = if k < K then mfl k else none) ∧ (∀ i, i < a → hL h 6 i = ml6 i ∧ ∀ k, hI h 6 i k = 0) ∧ (∀ i, i < b → hL h 7 i = ml7 i) ∧ hI h 3 0 11 = c
theorem MIv_up {h1 : AH} {K x : Nat} (r : ∀ k, hR h1 3 0 k = if k < K then mfl k else none) (e : mfl K = some x) (k : Nat) : hR (sR h1 3 0 K (some x)) 3 0 k = if k < K + 1 then mfl k else none := by
  rw [hR_sR]
  by_cases ek : k = K
  · rw [if_pos ⟨rfl, ek, rfl⟩, ek, if_pos (Nat.lt_succ_self K), e]
  · rw [if_neg (fun z => ek z.2.1), r]
    exact ite_iff' (by omega)
theorem MIv_6 {h : AH} {a b K n : Nat} {c : Int32} (i : MIv h a b K c) (e : mfl K = some a) (el : ml6 a = n) : MIv (sR (nw h 6 n) 3 0 K (some a)) (a + 1) b (K + 1) c := by
  obtain ⟨e6, e7, r, l6, l7, ic⟩ := i
  refine ⟨by show h.1 6 + 1 = a + 1; rw [e6], e7, MIv_up (h1 := nw h 6 n) (fun k => (nS_R (by decide)).trans (r k)) e, fun q hq => ?_, fun q hq => (nS_L (h := h) (s := 6) (n := n) (by decide)).trans (l7 q hq), (nS_I (h := h) (s := 6) (n := n) (by decide)).trans ic⟩
  by_cases eq : q = a
  · subst eq
    have h1 := wL_at (h := h) (s := 6) (n := n)
    rw [e6] at h1
    refine ⟨h1.trans el.symm, fun k => ?_⟩
    have h2 := wI_at (h := h) (s := 6) (n := n) (k := k)
    rw [e6] at h2
    exact h2
  · have hn : q ≠ h.1 6 := by omega
    exact ⟨(wL_ne (n := n) hn).trans (l6 q (by omega)).1, fun k => (wI_ne (n := n) hn).trans ((l6 q (by omega)).2 k)⟩
theorem MIv_7 {h : AH} {a b K n : Nat} {c : Int32} (i : MIv h a b K c) (e : mfl K = some b) (el : ml7 b = n) : MIv (sR (nw h 7 n) 3 0 K (some b)) a (b + 1) (K + 1) c := by
  obtain ⟨e6, e7, r, l6, l7, ic⟩ := i
  refine ⟨e6, by show h.1 7 + 1 = b + 1; rw [e7], MIv_up (h1 := nw h 7 n) (fun k => (nS_R (by decide)).trans (r k)) e, fun q hq => ⟨(nS_L (h := h) (s := 7) (n := n) (by decide)).trans (l6 q hq).1, fun k => (nS_I (h := h) (s := 7) (n := n) (by decide)).trans ((l6 q hq).2 k)⟩, fun q hq => ?_, (nS_I (h := h) (s := 7) (n := n) (by decide)).trans ic⟩
  by_cases eq : q = b
  · subst eq
    have h1 := wL_at (h := h) (s := 7) (n := n)
    rw [e7] at h1
    exact h1.trans el.symm
  · have hn : q ≠ h.1 7 := by omega
    exact (wL_ne (n := n) hn).trans (l7 q (by omega))
theorem MIv_s {h : AH} {a b K : Nat} {c : Int32} (i : MIv h a b K c) (e : mfl K = none) : MIv h a b (K + 1) c := by
  obtain ⟨e6, e7, r, l6, l7, ic⟩ := i
  refine ⟨e6, e7, fun k => ?_, l6, l7, ic⟩
  rw [r]
  by_cases ek : k = K
  · rw [ek, if_neg (Nat.lt_irrefl K), if_pos (Nat.lt_succ_self K), e]
  · exact ite_iff' (by omega)
theorem MIv_c {h : AH} {a b K : Nat} {c v : Int32} (i : MIv h a b K c) : MIv (sI h 3 0 11 v) a b K v := by
  obtain ⟨e6, e7, r, l6, l7, ic⟩ := i
  exact ⟨e6, e7, r, fun q hq => ⟨(l6 q hq).1, fun k => (wS (by decide)).trans ((l6 q hq).2 k)⟩, l7, by rw [wA, if_pos rfl]⟩
theorem MIv.mt {h : AH} {c : Int32} (i : MIv h 18 4 25 c) : MT h := ⟨fun k hk => (i.2.2.1 k).trans (if_pos hk), fun a ha => (i.2.2.2.1 a ha).1, fun a ha => i.2.2.2.2.1 a ha⟩
def mz (j4 j6 j10 j7 a k : Nat) : Int32 := if (a = 4 ∧ k < j4) ∨ (a = 6 ∧ k < j6) ∨ (a = 10 ∧ k < j10) ∨ (a = 7 ∧ k < j7) then -1 else 0
def IZ (h : AH) (j4 j6 j10 j7 : Nat) : Prop := MT h ∧ hI h 3 0 11 = -1 ∧ ∀ a k, a < 18 → hI h 6 a k = mz j4 j6 j10 j7 a k
theorem IZ_4 {h : AH} {j4 j6 j10 j7 : Nat} (z : IZ h j4 j6 j10 j7) : IZ (sI h 6 4 j4 (-1)) (j4 + 1) j6 j10 j7 := by
  refine ⟨z.1, (wS (by decide)).trans z.2.1, fun a k ha => ?_⟩
  rw [w6, z.2.2 a k ha]
  unfold mz
  by_cases e : a = 4 ∧ k = j4
  · rw [if_pos e, if_pos (by omega)]
  · rw [if_neg e]; exact ite_iff' (by omega)
theorem IZ_6 {h : AH} {j4 j6 j10 j7 : Nat} (z : IZ h j4 j6 j10 j7) : IZ (sI h 6 6 j6 (-1)) j4 (j6 + 1) j10 j7 := by
  refine ⟨z.1, (wS (by decide)).trans z.2.1, fun a k ha => ?_⟩
  rw [w6, z.2.2 a k ha]
  unfold mz
  by_cases e : a = 6 ∧ k = j6
  · rw [if_pos e, if_pos (by omega)]
  · rw [if_neg e]; exact ite_iff' (by omega)
theorem IZ_10 {h : AH} {j4 j6 j10 j7 : Nat} (z : IZ h j4 j6 j10 j7) : IZ (sI h 6 10 j10 (-1)) j4 j6 (j10 + 1) j7 := by
  refine ⟨z.1, (wS (by decide)).trans z.2.1, fun a k ha => ?_⟩
  rw [w6, z.2.2 a k ha]
  unfold mz
  by_cases e : a = 10 ∧ k = j10
  · rw [if_pos e, if_pos (by omega)]
  · rw [if_neg e]; exact ite_iff' (by omega)
theorem IZ_7 {h : AH} {j4 j6 j10 j7 : Nat} (z : IZ h j4 j6 j10 j7) : IZ (sI h 6 7 j7 (-1)) j4 j6 j10 (j7 + 1) := by
  refine ⟨z.1, (wS (by decide)).trans z.2.1, fun a k ha => ?_⟩
  rw [w6, z.2.2 a k ha]
  unfold mz
  by_cases e : a = 7 ∧ k = j7
  · rw [if_pos e, if_pos (by omega)]
  · rw [if_neg e]; exact ite_iff' (by omega)
theorem rm_init {h : AH} (z : IZ h 97 192 12 6) (sg : Nat → Nat) : RM h S0 sg := by
  have no : ∀ o, o ∈ all S0 → False := fun o ho => by rw [S0_all] at ho; cases ho
  have f : ∀ a k, a < 18 → ¬ ((a = 4 ∧ k < 97) ∨ (a = 6 ∧ k < 192) ∨ (a = 10 ∧ k < 12) ∨ (a = 7 ∧ k < 6)) → hI h 6 a k = 0 := fun a k ha hn => (z.2.2 a k ha).trans (if_neg hn)
  have g : ∀ a k, a < 18 → ((a = 4 ∧ k < 97) ∨ (a = 6 ∧ k < 192) ∨ (a = 10 ∧ k < 12) ∨ (a = 7 ∧ k < 6)) → hI h 6 a k = -1 := fun a k ha hn => (z.2.2 a k ha).trans (if_pos hn)
  exact ⟨z.1, fun r hr => ⟨f 8 r (by decide) (by omega), f 9 r (by decide) (by omega), g 10 r (by decide) (by omega)⟩, fun o ho => (no o ho).elim, fun o ho => (no o ho).elim, fun o _ ho => (no o ho).elim, fun j hj _ _ => g 4 j (by decide) (by omega), fun w hw _ => g 6 w (by decide) (by omega), fun i hi => g 7 i (by decide) (by omega), z.2.1, fun k hk => f 11 k (by decide) (by omega)⟩
theorem m_init {h : AH} (sg : Nat → Nat) (e6 : h.1 6 = 0) (e7 : h.1 7 = 0) (r3 : ∀ k, hR h 3 0 k = none) (i3 : hI h 3 0 11 = 0) : TT 61 0 [rv 3 (some 0), un] [] h 22 1543 (fun x h' => x = none ∧ RM h' S0 sg ∧ MF h h') := by
  have l_root : ∀ n j h1, j + n = 6 → IZ h1 97 192 12 j → MF h h1 → TT 61 250 [rv 3 (some 0), iv (nI j)] [] h1 0 0 (fun x h' => x = none ∧ RM h' S0 sg ∧ MF h h') := by
    intro n
    induction n with
    | zero =>
      intro j h1 hj z mf
      obtain rfl : j = 6 := by omega
      refine r_iload_n 251 d_61_250 rfl rfl ?_
      refine r_bipush 253 (nI 6) d_61_251 rfl (by decide) ?_
      refine r_icmp_ge 269 256 d_61_253 (by decide) rfl (fun c_253 => ?_) (fun c_253 => absurd (nI_le (Nat.le_refl _) (by decide)) c_253)
      refine r_return d_61_269 rfl ?_
      exact ⟨rfl, rm_init z sg, mf⟩
    | succ n ih =>
      intro j h1 hj z mf
      have hjN : j < 6 := by omega
      have t := ih (j + 1) _ (by omega) (IZ_7 z) (MF_sI mf rfl)
      refine r_iload_n 251 d_61_250 rfl rfl ?_
      refine r_bipush 253 (nI 6) d_61_251 rfl (by decide) ?_
      refine r_icmp_ge 269 256 d_61_253 (by decide) rfl (fun c_253 => absurd c_253 (nI_ge hjN (by decide))) (fun c_253 => ?_)
      refine r_aload_n 257 d_61_256 rfl rfl ?_
      refine r_getR 260 3 7 6 (some 7) d_61_257 rfl fk_3_31 rfl (by decide) (MT.f7 z.1) ?_
      refine r_iload_n 261 d_61_260 rfl rfl ?_
      refine r_iconst 262 (-1) d_61_261 rfl (by decide) ?_
      refine r_iast 263 j d_61_262 rfl rfl (MT.l6_7 z.1 hjN) ?_
      refine r_iinc 266 (nI (j + 1)) [rv 3 (some 0), iv (nI (j + 1))] d_61_263 rfl rfl (nI_1 j) rfl rfl ?_
      refine r_goto 250 d_61_266 (by decide) ?_
      exact t
  have l_live : ∀ n j h1, j + n = 12 → IZ h1 97 192 j 0 → MF h h1 → TT 61 229 [rv 3 (some 0), iv (nI j)] [] h1 0 0 (fun x h' => x = none ∧ RM h' S0 sg ∧ MF h h') := by
    intro n
    induction n with
    | zero =>
      intro j h1 hj z mf
      obtain rfl : j = 12 := by omega
      have t := l_root 6 0 h1 rfl z mf
      refine r_iload_n 230 d_61_229 rfl rfl ?_
      refine r_bipush 232 (nI 12) d_61_230 rfl (by decide) ?_
      refine r_icmp_ge 248 235 d_61_232 (by decide) rfl (fun c_232 => ?_) (fun c_232 => absurd (nI_le (Nat.le_refl _) (by decide)) c_232)
      refine r_iconst 249 (nI 0) d_61_248 rfl (by decide) ?_
      refine r_istore_n 250 [rv 3 (some 0), iv (nI 0)] d_61_249 rfl rfl rfl ?_
      exact t
    | succ n ih =>
      intro j h1 hj z mf
      have hjN : j < 12 := by omega
      have t := ih (j + 1) _ (by omega) (IZ_10 z) (MF_sI mf rfl)
      refine r_iload_n 230 d_61_229 rfl rfl ?_
      refine r_bipush 232 (nI 12) d_61_230 rfl (by decide) ?_
      refine r_icmp_ge 248 235 d_61_232 (by decide) rfl (fun c_232 => absurd c_232 (nI_ge hjN (by decide))) (fun c_232 => ?_)
      refine r_aload_n 236 d_61_235 rfl rfl ?_
      refine r_getR 239 3 10 6 (some 10) d_61_236 rfl fk_3_40 rfl (by decide) (MT.f10 z.1) ?_
      refine r_iload_n 240 d_61_239 rfl rfl ?_
      refine r_iconst 241 (-1) d_61_240 rfl (by decide) ?_
      refine r_iast 242 j d_61_241 rfl rfl (MT.l6_10 z.1 hjN) ?_
      refine r_iinc 245 (nI (j + 1)) [rv 3 (some 0), iv (nI (j + 1))] d_61_242 rfl rfl (nI_1 j) rfl rfl ?_
      refine r_goto 229 d_61_245 (by decide) ?_
      exact t
  have l_at : ∀ n j h1, j + n = 192 → IZ h1 97 j 0 0 → MF h h1 → TT 61 207 [rv 3 (some 0), iv (nI j)] [] h1 0 0 (fun x h' => x = none ∧ RM h' S0 sg ∧ MF h h') := by
    intro n
    induction n with
    | zero =>
      intro j h1 hj z mf
      obtain rfl : j = 192 := by omega
      have t := l_live 12 0 h1 rfl z mf
      refine r_iload_n 208 d_61_207 rfl rfl ?_
      refine r_sipush 211 (nI 192) d_61_208 rfl (by decide) ?_
      refine r_icmp_ge 227 214 d_61_211 (by decide) rfl (fun c_211 => ?_) (fun c_211 => absurd (nI_le (Nat.le_refl _) (by decide)) c_211)
      refine r_iconst 228 (nI 0) d_61_227 rfl (by decide) ?_
      refine r_istore_n 229 [rv 3 (some 0), iv (nI 0)] d_61_228 rfl rfl rfl ?_
      exact t
    | succ n ih =>
      intro j h1 hj z mf
      have hjN : j < 192 := by omega
      have t := ih (j + 1) _ (by omega) (IZ_6 z) (MF_sI mf rfl)
      refine r_iload_n 208 d_61_207 rfl rfl ?_
      refine r_sipush 211 (nI 192) d_61_208 rfl (by decide) ?_
      refine r_icmp_ge 227 214 d_61_211 (by decide) rfl (fun c_211 => absurd c_211 (nI_ge hjN (by decide))) (fun c_211 => ?_)
      refine r_aload_n 215 d_61_214 rfl rfl ?_
      refine r_getR 218 3 6 6 (some 6) d_61_215 rfl fk_3_28 rfl (by decide) (MT.f6 z.1) ?_
      refine r_iload_n 219 d_61_218 rfl rfl ?_
      refine r_iconst 220 (-1) d_61_219 rfl (by decide) ?_
      refine r_iast 221 j d_61_220 rfl rfl (MT.l6_6 z.1 hjN) ?_
      refine r_iinc 224 (nI (j + 1)) [rv 3 (some 0), iv (nI (j + 1))] d_61_221 rfl rfl (nI_1 j) rfl rfl ?_
      refine r_goto 207 d_61_224 (by decide) ?_
      exact t
  have l_region : ∀ n j h1, j + n = 97 → IZ h1 j 0 0 0 → MF h h1 → TT 61 186 [rv 3 (some 0), iv (nI j)] [] h1 0 0 (fun x h' => x = none ∧ RM h' S0 sg ∧ MF h h') := by
    intro n
    induction n with
    | zero =>
      intro j h1 hj z mf
      obtain rfl : j = 97 := by omega
      have t := l_at 192 0 h1 rfl z mf
      refine r_iload_n 187 d_61_186 rfl rfl ?_
      refine r_bipush 189 (nI 97) d_61_187 rfl (by decide) ?_
      refine r_icmp_ge 205 192 d_61_189 (by decide) rfl (fun c_189 => ?_) (fun c_189 => absurd (nI_le (Nat.le_refl _) (by decide)) c_189)
      refine r_iconst 206 (nI 0) d_61_205 rfl (by decide) ?_
      refine r_istore_n 207 [rv 3 (some 0), iv (nI 0)] d_61_206 rfl rfl rfl ?_
      exact t
    | succ n ih =>
      intro j h1 hj z mf
      have hjN : j < 97 := by omega
      have t := ih (j + 1) _ (by omega) (IZ_4 z) (MF_sI mf rfl)
      refine r_iload_n 187 d_61_186 rfl rfl ?_
      refine r_bipush 189 (nI 97) d_61_187 rfl (by decide) ?_
      refine r_icmp_ge 205 192 d_61_189 (by decide) rfl (fun c_189 => absurd c_189 (nI_ge hjN (by decide))) (fun c_189 => ?_)
      refine r_aload_n 193 d_61_192 rfl rfl ?_
      refine r_getR 196 3 4 6 (some 4) d_61_193 rfl fk_3_22 rfl (by decide) (MT.f4 z.1) ?_
      refine r_iload_n 197 d_61_196 rfl rfl ?_
      refine r_iconst 198 (-1) d_61_197 rfl (by decide) ?_
      refine r_iast 199 j d_61_198 rfl rfl (MT.l6_4 z.1 hjN) ?_
      refine r_iinc 202 (nI (j + 1)) [rv 3 (some 0), iv (nI (j + 1))] d_61_199 rfl rfl (nI_1 j) rfl rfl ?_
      refine r_goto 186 d_61_202 (by decide) ?_
      exact t
  have t_184 : ∀ h1, MIv h1 18 4 25 (-1) → MF h h1 → TT 61 184 [rv 3 (some 0), un] [] h1 0 0 (fun x h' => x = none ∧ RM h' S0 sg ∧ MF h h') := by
    intro h1 i f
    have t := l_region 97 0 h1 rfl ⟨i.mt, i.2.2.2.2.2, fun a k ha => ((i.2.2.2.1 a ha).2 k).trans (by unfold mz; rw [if_neg (by omega)])⟩ f
    refine r_iconst 185 (nI 0) d_61_184 rfl (by decide) ?_
    refine r_istore_n 186 [rv 3 (some 0), iv (nI 0)] d_61_185 rfl rfl rfl ?_
    exact t
  have t_176 : ∀ h1, MIv h1 18 3 24 (-1) → MF h h1 → TT 61 176 [rv 3 (some 0), un] [] h1 1 12 (fun x h' => x = none ∧ RM h' S0 sg ∧ MF h h') := by
    intro h1 i f
    have t := t_184 _ (MIv_7 i rfl rfl) (MF_sR (MF_nw f rfl) rfl)
    refine TT.widen (k := 0 + 1) (n := 0 + 12) (by decide) (by decide) ?_
    refine r_aload_n 177 d_61_176 rfl rfl ?_
    refine r_bipush 179 (nI 12) d_61_177 rfl (by decide) ?_
    refine r_newz 181 12 d_61_179 rfl rfl (by omega) ?_
    rw [i.2.1]
    refine r_putR 184 3 24 7 d_61_181 rfl fk_3_78 (Or.inl rfl) rfl (by decide) (fun o => by cases o <;> exact ⟨rfl, rfl⟩) ?_
    exact t
  have t_168 : ∀ h1, MIv h1 18 2 23 (-1) → MF h h1 → TT 61 168 [rv 3 (some 0), un] [] h1 2 109 (fun x h' => x = none ∧ RM h' S0 sg ∧ MF h h') := by
    intro h1 i f
    have t := t_176 _ (MIv_7 i rfl rfl) (MF_sR (MF_nw f rfl) rfl)
    refine TT.widen (k := 1 + 1) (n := 12 + 97) (by decide) (by decide) ?_
    refine r_aload_n 169 d_61_168 rfl rfl ?_
    refine r_bipush 171 (nI 97) d_61_169 rfl (by decide) ?_
    refine r_newz 173 97 d_61_171 rfl rfl (by omega) ?_
    rw [i.2.1]
    refine r_putR 176 3 23 7 d_61_173 rfl fk_3_75 (Or.inl rfl) rfl (by decide) (fun o => by cases o <;> exact ⟨rfl, rfl⟩) ?_
    exact t
  have t_161 : ∀ h1, MIv h1 17 2 21 (-1) → MF h h1 → TT 61 161 [rv 3 (some 0), un] [] h1 3 113 (fun x h' => x = none ∧ RM h' S0 sg ∧ MF h h') := by
    intro h1 i f
    have t := t_168 _ (MIv_s (MIv_6 i rfl rfl) rfl) (MF_sR (MF_nw f rfl) rfl)
    refine TT.widen (k := 2 + 1) (n := 109 + 4) (by decide) (by decide) ?_
    refine r_aload_n 162 d_61_161 rfl rfl ?_
    refine r_iconst 163 (nI 4) d_61_162 rfl (by decide) ?_
    refine r_newi 165 4 d_61_163 rfl rfl (by omega) ?_
    rw [i.1]
    refine r_putR 168 3 21 6 d_61_165 rfl fk_3_72 (Or.inl rfl) rfl (by decide) (fun o => by cases o <;> exact ⟨rfl, rfl⟩) ?_
    exact t
  have t_154 : ∀ h1, MIv h1 16 2 20 (-1) → MF h h1 → TT 61 154 [rv 3 (some 0), un] [] h1 4 117 (fun x h' => x = none ∧ RM h' S0 sg ∧ MF h h') := by
    intro h1 i f
    have t := t_161 _ (MIv_6 i rfl rfl) (MF_sR (MF_nw f rfl) rfl)
    refine TT.widen (k := 3 + 1) (n := 113 + 4) (by decide) (by decide) ?_
    refine r_aload_n 155 d_61_154 rfl rfl ?_
    refine r_iconst 156 (nI 4) d_61_155 rfl (by decide) ?_
    refine r_newi 158 4 d_61_156 rfl rfl (by omega) ?_
    rw [i.1]
    refine r_putR 161 3 20 6 d_61_158 rfl fk_3_69 (Or.inl rfl) rfl (by decide) (fun o => by cases o <;> exact ⟨rfl, rfl⟩) ?_
    exact t
  have t_146 : ∀ h1, MIv h1 15 2 19 (-1) → MF h h1 → TT 61 146 [rv 3 (some 0), un] [] h1 5 214 (fun x h' => x = none ∧ RM h' S0 sg ∧ MF h h') := by
    intro h1 i f
    have t := t_154 _ (MIv_6 i rfl rfl) (MF_sR (MF_nw f rfl) rfl)
    refine TT.widen (k := 4 + 1) (n := 117 + 97) (by decide) (by decide) ?_
    refine r_aload_n 147 d_61_146 rfl rfl ?_
    refine r_bipush 149 (nI 97) d_61_147 rfl (by decide) ?_
    refine r_newi 151 97 d_61_149 rfl rfl (by omega) ?_
    rw [i.1]
    refine r_putR 154 3 19 6 d_61_151 rfl fk_3_66 (Or.inl rfl) rfl (by decide) (fun o => by cases o <;> exact ⟨rfl, rfl⟩) ?_
    exact t
  have t_138 : ∀ h1, MIv h1 14 2 18 (-1) → MF h h1 → TT 61 138 [rv 3 (some 0), un] [] h1 6 311 (fun x h' => x = none ∧ RM h' S0 sg ∧ MF h h') := by
    intro h1 i f
    have t := t_146 _ (MIv_6 i rfl rfl) (MF_sR (MF_nw f rfl) rfl)
    refine TT.widen (k := 5 + 1) (n := 214 + 97) (by decide) (by decide) ?_
    refine r_aload_n 139 d_61_138 rfl rfl ?_
    refine r_bipush 141 (nI 97) d_61_139 rfl (by decide) ?_
    refine r_newi 143 97 d_61_141 rfl rfl (by omega) ?_
    rw [i.1]
    refine r_putR 146 3 18 6 d_61_143 rfl fk_3_63 (Or.inl rfl) rfl (by decide) (fun o => by cases o <;> exact ⟨rfl, rfl⟩) ?_
    exact t
  have t_130 : ∀ h1, MIv h1 14 1 17 (-1) → MF h h1 → TT 61 130 [rv 3 (some 0), un] [] h1 7 408 (fun x h' => x = none ∧ RM h' S0 sg ∧ MF h h') := by
    intro h1 i f
    have t := t_138 _ (MIv_7 i rfl rfl) (MF_sR (MF_nw f rfl) rfl)
    refine TT.widen (k := 6 + 1) (n := 311 + 97) (by decide) (by decide) ?_
    refine r_aload_n 131 d_61_130 rfl rfl ?_
    refine r_bipush 133 (nI 97) d_61_131 rfl (by decide) ?_
    refine r_newz 135 97 d_61_133 rfl rfl (by omega) ?_
    rw [i.2.1]
    refine r_putR 138 3 17 7 d_61_135 rfl fk_3_60 (Or.inl rfl) rfl (by decide) (fun o => by cases o <;> exact ⟨rfl, rfl⟩) ?_
    exact t
  have t_122 : ∀ h1, MIv h1 13 1 16 (-1) → MF h h1 → TT 61 122 [rv 3 (some 0), un] [] h1 8 505 (fun x h' => x = none ∧ RM h' S0 sg ∧ MF h h') := by
    intro h1 i f
    have t := t_130 _ (MIv_6 i rfl rfl) (MF_sR (MF_nw f rfl) rfl)
    refine TT.widen (k := 7 + 1) (n := 408 + 97) (by decide) (by decide) ?_
    refine r_aload_n 123 d_61_122 rfl rfl ?_
    refine r_bipush 125 (nI 97) d_61_123 rfl (by decide) ?_
    refine r_newi 127 97 d_61_125 rfl rfl (by omega) ?_
    rw [i.1]
    refine r_putR 130 3 16 6 d_61_127 rfl fk_3_57 (Or.inl rfl) rfl (by decide) (fun o => by cases o <;> exact ⟨rfl, rfl⟩) ?_
    exact t
  have t_114 : ∀ h1, MIv h1 12 1 14 (-1) → MF h h1 → TT 61 114 [rv 3 (some 0), un] [] h1 9 517 (fun x h' => x = none ∧ RM h' S0 sg ∧ MF h h') := by
    intro h1 i f
    have t := t_122 _ (MIv_s (MIv_6 i rfl rfl) rfl) (MF_sR (MF_nw f rfl) rfl)
    refine TT.widen (k := 8 + 1) (n := 505 + 12) (by decide) (by decide) ?_
    refine r_aload_n 115 d_61_114 rfl rfl ?_
    refine r_bipush 117 (nI 12) d_61_115 rfl (by decide) ?_
    refine r_newi 119 12 d_61_117 rfl rfl (by omega) ?_
    rw [i.1]
    refine r_putR 122 3 14 6 d_61_119 rfl fk_3_54 (Or.inl rfl) rfl (by decide) (fun o => by cases o <;> exact ⟨rfl, rfl⟩) ?_
    exact t
  have t_106 : ∀ h1, MIv h1 12 0 13 (-1) → MF h h1 → TT 61 106 [rv 3 (some 0), un] [] h1 10 529 (fun x h' => x = none ∧ RM h' S0 sg ∧ MF h h') := by
    intro h1 i f
    have t := t_114 _ (MIv_7 i rfl rfl) (MF_sR (MF_nw f rfl) rfl)
    refine TT.widen (k := 9 + 1) (n := 517 + 12) (by decide) (by decide) ?_
    refine r_aload_n 107 d_61_106 rfl rfl ?_
    refine r_bipush 109 (nI 12) d_61_107 rfl (by decide) ?_
    refine r_newz 111 12 d_61_109 rfl rfl (by omega) ?_
    rw [i.2.1]
    refine r_putR 114 3 13 7 d_61_111 rfl fk_3_50 (Or.inl rfl) rfl (by decide) (fun o => by cases o <;> exact ⟨rfl, rfl⟩) ?_
    exact t
  have t_99 : ∀ h1, MIv h1 11 0 12 (-1) → MF h h1 → TT 61 99 [rv 3 (some 0), un] [] h1 11 533 (fun x h' => x = none ∧ RM h' S0 sg ∧ MF h h') := by
    intro h1 i f
    have t := t_106 _ (MIv_6 i rfl rfl) (MF_sR (MF_nw f rfl) rfl)
    refine TT.widen (k := 10 + 1) (n := 529 + 4) (by decide) (by decide) ?_
    refine r_aload_n 100 d_61_99 rfl rfl ?_
    refine r_iconst 101 (nI 4) d_61_100 rfl (by decide) ?_
    refine r_newi 103 4 d_61_101 rfl rfl (by omega) ?_
    rw [i.1]
    refine r_putR 106 3 12 6 d_61_103 rfl fk_3_47 (Or.inl rfl) rfl (by decide) (fun o => by cases o <;> exact ⟨rfl, rfl⟩) ?_
    exact t
  have t_94 : ∀ h1, MIv h1 11 0 11 0 → MF h h1 → TT 61 94 [rv 3 (some 0), un] [] h1 11 533 (fun x h' => x = none ∧ RM h' S0 sg ∧ MF h h') := by
    intro h1 i f
    have t := t_99 _ (MIv_s (MIv_c (v := -1) i) rfl) (MF_sI f rfl)
    refine r_aload_n 95 d_61_94 rfl rfl ?_
    refine r_iconst 96 (-1) d_61_95 rfl (by decide) ?_
    refine r_putI 99 3 11 d_61_96 rfl fk_3_43 (Or.inl rfl) rfl rfl rfl ?_
    exact t
  have t_86 : ∀ h1, MIv h1 10 0 10 0 → MF h h1 → TT 61 86 [rv 3 (some 0), un] [] h1 12 545 (fun x h' => x = none ∧ RM h' S0 sg ∧ MF h h') := by
    intro h1 i f
    have t := t_94 _ (MIv_6 i rfl rfl) (MF_sR (MF_nw f rfl) rfl)
    refine TT.widen (k := 11 + 1) (n := 533 + 12) (by decide) (by decide) ?_
    refine r_aload_n 87 d_61_86 rfl rfl ?_
    refine r_bipush 89 (nI 12) d_61_87 rfl (by decide) ?_
    refine r_newi 91 12 d_61_89 rfl rfl (by omega) ?_
    rw [i.1]
    refine r_putR 94 3 10 6 d_61_91 rfl fk_3_40 (Or.inl rfl) rfl (by decide) (fun o => by cases o <;> exact ⟨rfl, rfl⟩) ?_
    exact t
  have t_78 : ∀ h1, MIv h1 9 0 9 0 → MF h h1 → TT 61 78 [rv 3 (some 0), un] [] h1 13 557 (fun x h' => x = none ∧ RM h' S0 sg ∧ MF h h') := by
    intro h1 i f
    have t := t_86 _ (MIv_6 i rfl rfl) (MF_sR (MF_nw f rfl) rfl)
    refine TT.widen (k := 12 + 1) (n := 545 + 12) (by decide) (by decide) ?_
    refine r_aload_n 79 d_61_78 rfl rfl ?_
    refine r_bipush 81 (nI 12) d_61_79 rfl (by decide) ?_
    refine r_newi 83 12 d_61_81 rfl rfl (by omega) ?_
    rw [i.1]
    refine r_putR 86 3 9 6 d_61_83 rfl fk_3_37 (Or.inl rfl) rfl (by decide) (fun o => by cases o <;> exact ⟨rfl, rfl⟩) ?_
    exact t
  have t_70 : ∀ h1, MIv h1 8 0 8 0 → MF h h1 → TT 61 70 [rv 3 (some 0), un] [] h1 14 569 (fun x h' => x = none ∧ RM h' S0 sg ∧ MF h h') := by
    intro h1 i f
    have t := t_78 _ (MIv_6 i rfl rfl) (MF_sR (MF_nw f rfl) rfl)
    refine TT.widen (k := 13 + 1) (n := 557 + 12) (by decide) (by decide) ?_
    refine r_aload_n 71 d_61_70 rfl rfl ?_
    refine r_bipush 73 (nI 12) d_61_71 rfl (by decide) ?_
    refine r_newi 75 12 d_61_73 rfl rfl (by omega) ?_
    rw [i.1]
    refine r_putR 78 3 8 6 d_61_75 rfl fk_3_34 (Or.inl rfl) rfl (by decide) (fun o => by cases o <;> exact ⟨rfl, rfl⟩) ?_
    exact t
  have t_62 : ∀ h1, MIv h1 7 0 7 0 → MF h h1 → TT 61 62 [rv 3 (some 0), un] [] h1 15 575 (fun x h' => x = none ∧ RM h' S0 sg ∧ MF h h') := by
    intro h1 i f
    have t := t_70 _ (MIv_6 i rfl rfl) (MF_sR (MF_nw f rfl) rfl)
    refine TT.widen (k := 14 + 1) (n := 569 + 6) (by decide) (by decide) ?_
    refine r_aload_n 63 d_61_62 rfl rfl ?_
    refine r_bipush 65 (nI 6) d_61_63 rfl (by decide) ?_
    refine r_newi 67 6 d_61_65 rfl rfl (by omega) ?_
    rw [i.1]
    refine r_putR 70 3 7 6 d_61_67 rfl fk_3_31 (Or.inl rfl) rfl (by decide) (fun o => by cases o <;> exact ⟨rfl, rfl⟩) ?_
    exact t
  have t_53 : ∀ h1, MIv h1 6 0 6 0 → MF h h1 → TT 61 53 [rv 3 (some 0), un] [] h1 16 767 (fun x h' => x = none ∧ RM h' S0 sg ∧ MF h h') := by
    intro h1 i f
    have t := t_62 _ (MIv_6 i rfl rfl) (MF_sR (MF_nw f rfl) rfl)
    refine TT.widen (k := 15 + 1) (n := 575 + 192) (by decide) (by decide) ?_
    refine r_aload_n 54 d_61_53 rfl rfl ?_
    refine r_sipush 57 (nI 192) d_61_54 rfl (by decide) ?_
    refine r_newi 59 192 d_61_57 rfl rfl (by omega) ?_
    rw [i.1]
    refine r_putR 62 3 6 6 d_61_59 rfl fk_3_28 (Or.inl rfl) rfl (by decide) (fun o => by cases o <;> exact ⟨rfl, rfl⟩) ?_
    exact t
  have t_45 : ∀ h1, MIv h1 5 0 5 0 → MF h h1 → TT 61 45 [rv 3 (some 0), un] [] h1 17 864 (fun x h' => x = none ∧ RM h' S0 sg ∧ MF h h') := by
    intro h1 i f
    have t := t_53 _ (MIv_6 i rfl rfl) (MF_sR (MF_nw f rfl) rfl)
    refine TT.widen (k := 16 + 1) (n := 767 + 97) (by decide) (by decide) ?_
    refine r_aload_n 46 d_61_45 rfl rfl ?_
    refine r_bipush 48 (nI 97) d_61_46 rfl (by decide) ?_
    refine r_newi 50 97 d_61_48 rfl rfl (by omega) ?_
    rw [i.1]
    refine r_putR 53 3 5 6 d_61_50 rfl fk_3_25 (Or.inl rfl) rfl (by decide) (fun o => by cases o <;> exact ⟨rfl, rfl⟩) ?_
    exact t
  have t_37 : ∀ h1, MIv h1 4 0 4 0 → MF h h1 → TT 61 37 [rv 3 (some 0), un] [] h1 18 961 (fun x h' => x = none ∧ RM h' S0 sg ∧ MF h h') := by
    intro h1 i f
    have t := t_45 _ (MIv_6 i rfl rfl) (MF_sR (MF_nw f rfl) rfl)
    refine TT.widen (k := 17 + 1) (n := 864 + 97) (by decide) (by decide) ?_
    refine r_aload_n 38 d_61_37 rfl rfl ?_
    refine r_bipush 40 (nI 97) d_61_38 rfl (by decide) ?_
    refine r_newi 42 97 d_61_40 rfl rfl (by omega) ?_
    rw [i.1]
    refine r_putR 45 3 4 6 d_61_42 rfl fk_3_22 (Or.inl rfl) rfl (by decide) (fun o => by cases o <;> exact ⟨rfl, rfl⟩) ?_
    exact t
  have t_28 : ∀ h1, MIv h1 3 0 3 0 → MF h h1 → TT 61 28 [rv 3 (some 0), un] [] h1 19 1252 (fun x h' => x = none ∧ RM h' S0 sg ∧ MF h h') := by
    intro h1 i f
    have t := t_37 _ (MIv_6 i rfl rfl) (MF_sR (MF_nw f rfl) rfl)
    refine TT.widen (k := 18 + 1) (n := 961 + 291) (by decide) (by decide) ?_
    refine r_aload_n 29 d_61_28 rfl rfl ?_
    refine r_sipush 32 (nI 291) d_61_29 rfl (by decide) ?_
    refine r_newi 34 291 d_61_32 rfl rfl (by omega) ?_
    rw [i.1]
    refine r_putR 37 3 3 6 d_61_34 rfl fk_3_19 (Or.inl rfl) rfl (by decide) (fun o => by cases o <;> exact ⟨rfl, rfl⟩) ?_
    exact t
  have t_20 : ∀ h1, MIv h1 2 0 2 0 → MF h h1 → TT 61 20 [rv 3 (some 0), un] [] h1 20 1349 (fun x h' => x = none ∧ RM h' S0 sg ∧ MF h h') := by
    intro h1 i f
    have t := t_28 _ (MIv_6 i rfl rfl) (MF_sR (MF_nw f rfl) rfl)
    refine TT.widen (k := 19 + 1) (n := 1252 + 97) (by decide) (by decide) ?_
    refine r_aload_n 21 d_61_20 rfl rfl ?_
    refine r_bipush 23 (nI 97) d_61_21 rfl (by decide) ?_
    refine r_newi 25 97 d_61_23 rfl rfl (by omega) ?_
    rw [i.1]
    refine r_putR 28 3 2 6 d_61_25 rfl fk_3_16 (Or.inl rfl) rfl (by decide) (fun o => by cases o <;> exact ⟨rfl, rfl⟩) ?_
    exact t
  have t_12 : ∀ h1, MIv h1 1 0 1 0 → MF h h1 → TT 61 12 [rv 3 (some 0), un] [] h1 21 1446 (fun x h' => x = none ∧ RM h' S0 sg ∧ MF h h') := by
    intro h1 i f
    have t := t_20 _ (MIv_6 i rfl rfl) (MF_sR (MF_nw f rfl) rfl)
    refine TT.widen (k := 20 + 1) (n := 1349 + 97) (by decide) (by decide) ?_
    refine r_aload_n 13 d_61_12 rfl rfl ?_
    refine r_bipush 15 (nI 97) d_61_13 rfl (by decide) ?_
    refine r_newi 17 97 d_61_15 rfl rfl (by omega) ?_
    rw [i.1]
    refine r_putR 20 3 1 6 d_61_17 rfl fk_3_13 (Or.inl rfl) rfl (by decide) (fun o => by cases o <;> exact ⟨rfl, rfl⟩) ?_
    exact t
  have t_4 : ∀ h1, MIv h1 0 0 0 0 → MF h h1 → TT 61 4 [rv 3 (some 0), un] [] h1 22 1543 (fun x h' => x = none ∧ RM h' S0 sg ∧ MF h h') := by
    intro h1 i f
    have t := t_12 _ (MIv_6 i rfl rfl) (MF_sR (MF_nw f rfl) rfl)
    refine TT.widen (k := 21 + 1) (n := 1446 + 97) (by decide) (by decide) ?_
    refine r_aload_n 5 d_61_4 rfl rfl ?_
    refine r_bipush 7 (nI 97) d_61_5 rfl (by decide) ?_
    refine r_newi 9 97 d_61_7 rfl rfl (by omega) ?_
    rw [i.1]
    refine r_putR 12 3 0 6 d_61_9 rfl fk_3_7 (Or.inl rfl) rfl (by decide) (fun o => by cases o <;> exact ⟨rfl, rfl⟩) ?_
    exact t
  have t := t_4 h ⟨e6, e7, fun k => (r3 k).trans (by rw [if_neg (Nat.not_lt_zero k)]), fun i hi => absurd hi (Nat.not_lt_zero i), fun i hi => absurd hi (Nat.not_lt_zero i), i3⟩ (MF.rf h)
  refine r_aload_n 1 d_61_0 rfl rfl ?_
  refine r_obj 4 d_61_1 rfl lk_3_1 rfl rfl rfl ?_
  exact t
