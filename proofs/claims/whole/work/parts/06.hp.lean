/-! ===== THE HEAP AS A MAP: address to entry, and its size. An array's entry bears the number of its kind (0 double, 1 int, 2 boolean, 3 Row, 4 Alarm) where the kit's bears its class ===== -/
abbrev hm : Type := (Nat → Option va_E) × Nat
abbrev hX : Type := Nat × va_G × (Nat → ClassId)
def hA (X : hX) : Nat → Prop := fun q => X.1 ≤ q
def htr (dA : Nat → ClassId) (e : va_E) : va_E := match e with
  | .inl (k, a) => .inl (dA k, a)
  | .inr o => .inr o
def hp (X : hX) (M : hm) (H : Heap) : Prop := M.2 = H.size ∧ ∀ (a : Nat) (e : va_E), M.1 a = some e → X.1 ≤ a ∧ va_at X.2.1 vwCl (a, htr X.2.2 e) H
def hty (X : hX) : List (ClassId × FieldType) := [(X.2.2 0, .double), (X.2.2 1, .int), (X.2.2 2, .boolean), (X.2.2 3, .object RX3), (X.2.2 4, .object RX0)]
def hnw : List Cond := [.methodLinkNest RX2 134 yX5_hasMinus RX5, .methodLinkNest RX2 107 yX5_isInfinite RX5, .methodLinkNest RX2 97 yX5_isSo RX5, .methodLinkNest RX4 20 yX5_hasMinus RX5, .methodLinkNest RX4 28 yX5_isInfinite RX5]
def hKn (U : State) : Prop := va_Nw (.methodLinkNest RX2 134 yX5_hasMinus RX5) U ∧ va_Nw (.methodLinkNest RX2 107 yX5_isInfinite RX5) U ∧ va_Nw (.methodLinkNest RX2 97 yX5_isSo RX5) U ∧ va_Nw (.methodLinkNest RX4 20 yX5_hasMinus RX5) U ∧ va_Nw (.methodLinkNest RX4 28 yX5_isInfinite RX5) U
def hK (X : hX) (U : State) : Prop := va_K X.2.1 vwCl (hty X) U ∧ hKn U ∧ va_AO RX3 U ∧ va_AO RX0 U
theorem hK.warm {X : hX} {s U : State} (h : hK X s) (hW : s.WarmedH U.vm) : hK X U :=
  ⟨va_K.moved hW.alike h.1, ⟨va_Nw.warmM hW h.2.1.1, va_Nw.warmM hW h.2.1.2.1, va_Nw.warmM hW h.2.1.2.2.1, va_Nw.warmM hW h.2.1.2.2.2.1, va_Nw.warmM hW h.2.1.2.2.2.2⟩, va_AO.moved hW.alike h.2.2.1, va_AO.moved hW.alike h.2.2.2⟩
def hu (M : hm) (a : Nat) (e : va_E) : hm := (fun j => if j = a then some e else M.1 j, M.2)
def hnew (M : hm) (e : va_E) : hm := (fun j => if j = M.2 then some e else M.1 j, M.2 + 1)
theorem hu_s {M : hm} {a : Nat} {e : va_E} : (hu M a e).1 a = some e := by simp [hu]
theorem hu_n {M : hm} {a b : Nat} {e : va_E} (h : b ≠ a) : (hu M a e).1 b = M.1 b := by simp [hu, h]
theorem hp.set {X : hX} {M : hm} {H H1 : Heap} {a : Nat} {e : va_E} (h : hp X M H) (ha : X.1 ≤ a) (hs : H1.size = H.size) (he : va_at X.2.1 vwCl (a, htr X.2.2 e) H1) (oq : ∀ q : Nat, q ≠ a → H1[q]? = H[q]?) : hp X (hu M a e) H1 := by
  refine ⟨by rw [hs]; exact h.1, fun b x hx => ?_⟩
  by_cases hb : b = a
  · subst hb
    rw [hu_s] at hx
    cases hx
    exact ⟨ha, he⟩
  · rw [hu_n hb] at hx
    exact ⟨(h.2 b x hx).1, ((h.2 b x hx).2).kept (oq b hb)⟩
theorem hp.push {X : hX} {M : hm} {H H1 : Heap} {e : va_E} (h : hp X M H) (ha : X.1 ≤ H.size) (hs : H1.size = H.size + 1) (he : va_at X.2.1 vwCl (H.size, htr X.2.2 e) H1) (oq : ∀ q : Nat, q < H.size → H1[q]? = H[q]?) : hp X (hnew M e) H1 := by
  refine ⟨by show M.2 + 1 = _; rw [hs, h.1], fun b x hx => ?_⟩
  by_cases hb : b = M.2
  · subst hb
    simp only [hnew, if_pos] at hx
    cases hx
    rw [h.1]
    exact ⟨ha, he⟩
  · simp only [hnew, if_neg hb] at hx
    have hl := ((h.2 b x hx).2).lt
    exact ⟨(h.2 b x hx).1, ((h.2 b x hx).2).kept (oq b hl)⟩
/-! what is read and written, as functions: none where the machine would throw -/
def fO (M : hm) (a ci : Nat) : Option (List Value) := match M.1 a with
  | some (.inr (c, fs)) => if c = ci then some fs else none
  | _ => none
def fA (M : hm) (a k : Nat) : Option vp_A := match M.1 a with
  | some (.inl (c, x)) => if c = k then some x else none
  | _ => none
theorem fO_eq {M : hm} {a ci : Nat} {fs : List Value} (h : fO M a ci = some fs) : M.1 a = some (.inr (ci, fs)) := by
  unfold fO at h
  split at h
  · split at h
    · cases h; subst_vars; assumption
    · cases h
  · cases h
theorem fA_eq {M : hm} {a k : Nat} {x : vp_A} (h : fA M a k = some x) : M.1 a = some (.inl (k, x)) := by
  unfold fA at h
  split at h
  · split at h
    · cases h; subst_vars; assumption
    · cases h
  · cases h
def vI (v : Option Value) : Option Int32 := match v with
  | some (.int x) => some x
  | _ => none
def vD (v : Option Value) : Option UInt64 := match v with
  | some (.double x) => some x
  | _ => none
def vR (v : Option Value) : Option (Option Nat) := match v with
  | some (.ref x) => some (some x)
  | some .null => some none
  | _ => none
theorem vI_eq {v : Option Value} {x : Int32} (h : vI v = some x) : v = some (.int x) := by
  unfold vI at h
  split at h
  · cases h; rfl
  · cases h
theorem vD_eq {v : Option Value} {x : UInt64} (h : vD v = some x) : v = some (.double x) := by
  unfold vD at h
  split at h
  · cases h; rfl
  · cases h
theorem vR_eq {v : Option Value} {x : Option Nat} (h : vR v = some x) : v = some (va_rf x) := by
  unfold vR at h
  split at h
  · cases h; rfl
  · cases h; rfl
  · cases h
def gI (M : hm) (a ci k : Nat) : Option Int32 := (fO M a ci).bind fun fs => vI fs[k]?
def gD (M : hm) (a ci k : Nat) : Option UInt64 := (fO M a ci).bind fun fs => vD fs[k]?
def gR (M : hm) (a ci k : Nat) : Option (Option Nat) := (fO M a ci).bind fun fs => vR fs[k]?
def pV (M : hm) (a ci k : Nat) (v : Value) : Option hm := (fO M a ci).bind fun fs => if k < fs.length then some (hu M a (.inr (ci, fs.set k v))) else none
def isO (M : hm) (a ci : Nat) : Option Unit := (fO M a ci).map fun _ => ()
def aix (i : Int32) (n : Nat) : Option Nat := if i < 0 ∨ n ≤ i.toNatClampNeg then none else some i.toNatClampNeg
theorem aix_eq {i : Int32} {n j : Nat} (h : aix i n = some j) : vp_in i n ∧ j = i.toNatClampNeg := by
  unfold aix at h
  split at h
  · cases h
  · cases h; exact ⟨by assumption, rfl⟩
def pD (x : vp_A) : Option (Nat × (Nat → UInt64)) := match x with
  | (n, .inr (.inr (.inr (.inl f)))) => some (n, f)
  | _ => none
def pI (x : vp_A) : Option (Nat × (Nat → Int32)) := match x with
  | (n, .inl f) => some (n, f)
  | _ => none
def pR (x : vp_A) : Option (Nat × (Nat → Option Nat)) := match x with
  | (n, .inr (.inr (.inr (.inr f)))) => some (n, f)
  | _ => none
theorem pD_eq {x : vp_A} {q : Nat × (Nat → UInt64)} (h : pD x = some q) : x = (q.1, .inr (.inr (.inr (.inl q.2)))) := by
  unfold pD at h
  split at h
  · cases h; rfl
  · cases h
theorem pI_eq {x : vp_A} {q : Nat × (Nat → Int32)} (h : pI x = some q) : x = (q.1, .inl q.2) := by
  unfold pI at h
  split at h
  · cases h; rfl
  · cases h
theorem pR_eq {x : vp_A} {q : Nat × (Nat → Option Nat)} (h : pR x = some q) : x = (q.1, .inr (.inr (.inr (.inr q.2)))) := by
  unfold pR at h
  split at h
  · cases h; rfl
  · cases h
def fD (M : hm) (a : Nat) : Option (Nat × (Nat → UInt64)) := (fA M a 0).bind pD
def fI (M : hm) (a k : Nat) : Option (Nat × (Nat → Int32)) := (fA M a k).bind pI
def fR (M : hm) (a k : Nat) : Option (Nat × (Nat → Option Nat)) := (fA M a k).bind pR
theorem fD_eq {M : hm} {a : Nat} {q : Nat × (Nat → UInt64)} (h : fD M a = some q) : M.1 a = some (.inl (0, q.1, .inr (.inr (.inr (.inl q.2))))) := by
  obtain ⟨x, h1, h2⟩ := Option.bind_eq_some_iff.mp h
  rw [fA_eq h1, pD_eq h2]
theorem fI_eq {M : hm} {a k : Nat} {q : Nat × (Nat → Int32)} (h : fI M a k = some q) : M.1 a = some (.inl (k, q.1, .inl q.2)) := by
  obtain ⟨x, h1, h2⟩ := Option.bind_eq_some_iff.mp h
  rw [fA_eq h1, pI_eq h2]
theorem fR_eq {M : hm} {a k : Nat} {q : Nat × (Nat → Option Nat)} (h : fR M a k = some q) : M.1 a = some (.inl (k, q.1, .inr (.inr (.inr (.inr q.2))))) := by
  obtain ⟨x, h1, h2⟩ := Option.bind_eq_some_iff.mp h
  rw [fA_eq h1, pR_eq h2]
def aD (M : hm) (a : Nat) (i : Int32) : Option UInt64 := (fD M a).bind fun q => (aix i q.1).bind fun j => some (q.2 j)
def aI (M : hm) (a k : Nat) (i : Int32) : Option Int32 := (fI M a k).bind fun q => (aix i q.1).bind fun j => some (q.2 j)
def aR (M : hm) (a k : Nat) (i : Int32) : Option (Option Nat) := (fR M a k).bind fun q => (aix i q.1).bind fun j => some (q.2 j)
def sD (M : hm) (a : Nat) (i : Int32) (v : UInt64) : Option hm := (fD M a).bind fun q => (aix i q.1).bind fun j => some (hu M a (.inl (0, q.1, .inr (.inr (.inr (.inl (vf_upd q.2 j v)))))))
def sI (M : hm) (a : Nat) (i : Int32) (v : Int32) : Option hm := (fI M a 1).bind fun q => (aix i q.1).bind fun j => some (hu M a (.inl (1, q.1, .inl (upd q.2 j v))))
def sZ (M : hm) (a : Nat) (i : Int32) (v : Int32) : Option hm := (fI M a 2).bind fun q => (aix i q.1).bind fun j => some (hu M a (.inl (2, q.1, .inl (upd q.2 j (vp_nar .boolean v)))))
def oR (M : hm) (v : Option Nat) (ci : Nat) : Option Unit := match v with
  | none => some ()
  | some b => isO M b ci
def sR (M : hm) (a k ci : Nat) (i : Int32) (v : Option Nat) : Option hm := (oR M v ci).bind fun _ => (fR M a k).bind fun q => (aix i q.1).bind fun j => some (hu M a (.inl (k, q.1, .inr (.inr (.inr (.inr (va_up q.2 j v)))))))
def n64 (r : UInt64) : Option UInt64 := if r &&& 0x7fffffffffffffff ≤ 0x7ff0000000000000 then some r else none
def n32 (r : UInt32) : Option UInt32 := if r &&& 0x7fffffff ≤ 0x7f800000 then some r else none
theorem n64_eq {r v : UInt64} (h : n64 r = some v) : vf_n64 r ∧ v = r := by
  unfold n64 at h
  split at h
  · cases h; exact ⟨by assumption, rfl⟩
  · cases h
theorem n32_eq {r v : UInt32} (h : n32 r = some v) : vf_n32 r ∧ v = r := by
  unfold n32 at h
  split at h
  · cases h; exact ⟨by assumption, rfl⟩
  · cases h
def zb (v : Int32) : Option Int32 := if v = 0 ∨ v = 1 then some v else none
theorem zb_eq {v r : Int32} (h : zb v = some r) : (v = 0 ∨ v = 1) ∧ r = v := by
  unfold zb at h
  split at h
  · cases h; exact ⟨by assumption, rfl⟩
  · cases h
theorem zb_nar {v : Int32} (h : v = 0 ∨ v = 1) : narrow .boolean (.int v) = .int v ∧ fits .boolean (.int v) = true := by
  rcases h with rfl | rfl <;> exact ⟨by decide, by decide⟩
def hcp (M : hm) (a : Nat) (sp : Int32) (b : Nat) (dp n : Int32) : Option hm := (fD M a).bind fun q => (fD M b).bind fun q2 => if ¬ sp < 0 ∧ ¬ dp < 0 ∧ ¬ n < 0 ∧ sp.toNatClampNeg + n.toNatClampNeg ≤ q.1 ∧ dp.toNatClampNeg + n.toNatClampNeg ≤ q2.1 then some (hu M b (.inl (0, q2.1, .inr (.inr (.inr (.inl (va_cpy q.2 q2.2 sp.toNatClampNeg dp.toNatClampNeg n.toNatClampNeg))))))) else none
def nO (M : hm) (ci : Nat) (fs : List Value) : Option (hm × Nat) := some (hnew M (.inr (ci, fs)), M.2)
def nA (M : hm) (k : Nat) (a : vp_A) : Option (hm × Nat) := some (hnew M (.inl (k, a)), M.2)
theorem if_t {α : Type} {c : Prop} [Decidable c] {a b R : α} (h : c) (hj : (if c then a else b) = R) : a = R := by rwa [if_pos h] at hj
theorem if_f {α : Type} {c : Prop} [Decidable c] {a b R : α} (h : ¬ c) (hj : (if c then a else b) = R) : b = R := by rwa [if_neg h] at hj
theorem if_n {α : Type} {c : Prop} [Decidable c] {b : Option α} {R : α} (hj : (if c then none else b) = some R) : ¬ c := by
  intro h
  rw [if_pos h] at hj
  cases hj
theorem no_zero {α : Type} {R : α} {P : Prop} (h : (none : Option α) = some R) : P := nomatch h
theorem cat_rf (r : Option Nat) : (va_rf r).category = 1 := by cases r <;> rfl
theorem nar_rf (C : String) (r : Option Nat) : narrow (.object C) (va_rf r) = va_rf r ∧ fits (.object C) (va_rf r) = true := by cases r <;> exact ⟨rfl, rfl⟩
theorem nar_ra (t : FieldType) (r : Option Nat) : narrow (.array t) (va_rf r) = va_rf r ∧ fits (.array t) (va_rf r) = true := by cases r <;> exact ⟨rfl, rfl⟩
theorem sw_step {a b : Int} (h : b ≥ a) (hn : b ≠ a) : b ≥ a + 1 := by omega
theorem sw_ne {x v : Int32} {k : Int} (h : ¬ x = v) (hv : v.toInt = k) : x.toInt ≠ k := fun e => h (Int32.toInt_inj.mp (e.trans hv.symm))
theorem sw_nt {x v : Int32} {k : Int} (h : ¬ x = v) (hv : v.toInt = k) : (x.toInt = k) = False := eq_false (sw_ne h hv)
/-! the words: all good ones of the tables -/
def wG : List Cond := lw_tbl.filter goodWord
theorem wG_of {w : Cond} (h : w ∈ lw_tbl) (hg : goodWord w = true) : w ∈ wG := List.mem_filter.mpr ⟨h, hg⟩
theorem wG_t {w : Cond} (h : w ∈ tables_1) (hg : goodWord w = true) : w ∈ wG := wG_of (List.mem_append_right _ h) hg
theorem wG_p {q : MethodName × Nat} (h : q ∈ lw_privs) (hg : goodWord (Cond.selects q.1.cls q.1 q.1) = true) : Cond.selects q.1.cls q.1 q.1 ∈ wG := wG_of (List.mem_append_left _ (List.mem_map.mpr ⟨q, h, rfl⟩)) hg
theorem wG_good : GoodIn wG wG := fun w h => ⟨h, good_of_word (List.mem_filter.mp h).2⟩
theorem wG_c {c1 : Cond} (h : c1 ∈ wG) : GoodIn wG (c1 :: wG) := fun w hw => by
  rcases List.mem_cons.mp hw with rfl | h1
  · exact wG_good _ h
  · exact wG_good _ h1
theorem wG_V {own C : String} {idx : Nat} {y : MethodName} {c1 : Cond} (h1 : c1 ∈ wG) (h2 : Cond.methodLink own idx y ∈ wG) (h3 : Cond.instanceMethod y ∈ wG) (h4 : Cond.selects C y y ∈ wG) (h5 : Cond.initialized C ∈ wG) : GoodIn wG (wsV own idx C y (c1 :: wG)) := fun w hw => by
  unfold wsV at hw
  rcases List.mem_append.mp hw with h | h
  · simp only [List.mem_cons, List.not_mem_nil, or_false] at h
    rcases h with rfl | rfl | rfl | rfl
    · exact wG_good _ h2
    · exact wG_good _ h3
    · exact wG_good _ h4
    · exact wG_good _ h5
  · exact wG_c h1 w h
theorem wG_S {own : String} {idx : Nat} {y : MethodName} {c1 : Cond} (h1 : c1 ∈ wG) (h2 : Cond.methodLink own idx y ∈ wG) (h3 : Cond.static y ∈ wG) (h5 : Cond.initialized y.cls ∈ wG) : GoodIn wG (va_wsS own idx y (c1 :: wG)) := fun w hw => by
  unfold va_wsS at hw
  rcases List.mem_append.mp hw with h | h
  · simp only [List.mem_cons, List.not_mem_nil, or_false] at h
    rcases h with rfl | rfl | rfl
    · exact wG_good _ h2
    · exact wG_good _ h3
    · exact wG_good _ h5
  · exact wG_c h1 w h
/-! ===== rows over the map ===== -/
/-- what stays in a method: the machine, its code, the words, its class, the tables, the base -/
def CX (X : hX) (p : Program) (c : Code) (cc : ByteArray) (nL : Nat) (s : State) (m : MethodId) (args : Array Value) (own : String) : Prop := p.tables.exec = Jvm.exec ∧ c.code = cc ∧ c.maxLocals = nL ∧ s.vm.findClass own = some m.cls ∧ (∀ w ∈ wG, w.before args s = true) ∧ hK X s ∧ X.1 ≤ s.heap.size
section HR
variable {p : Program} {l : Launch} {e : Env} {R : Room} {s : State} {m : MethodId} {args : Array Value} {below : List Frame} {meth : Method} {c : Code} {H : Heap} {locs : List Loc} {cells slots : Nat} {Q : State → Prop}
variable {cc : ByteArray} {pc nL : Nat} {ls : Array Slot} {rest : List Value} {X : hX} {a : Nat} {M : hm} {H0 : Heap} {own : String}
theorem hp_one (hP : hp X M H) {e : va_E} (he : M.1 a = some e) : va_P X.2.1 vwCl [(a, htr X.2.2 e)] H := by
  intro k q hk
  cases k with
  | zero => cases hk; exact (hP.2 a e he).2
  | succ k => cases hk
theorem r_getI (cx : CX X p c cc nL s m args own) (hP : hp X M H) {ci k : Nat} {v : Int32} (hg : gI M a ci k = some v) {C : String} {T : u_T} {N index : Nat} (hin : ∀ w ∈ u_ws C T N, w ∈ wG) (hc : vwCl[ci]? = some (C, T, N)) (hk : k < N) (hlink : Cond.fieldLink own index (T k).1 (T k).2.1 (T k).2.2.1 ∈ wG) (hdg : decode cc pc = .ok (.getfield index, 3))
    (kk : W p l e R s m args below meth c H locs cells slots Q (F0 m (pc + 3) ls (.int v :: rest))) : W p l e R s m args below meth c H locs cells slots Q (F0 m pc ls (.ref a :: rest)) := by
  obtain ⟨fs, h1, h2⟩ := Option.bind_eq_some_iff.mp hg
  exact va_get cx.1 cx.2.1 cx.2.2.2.2.1 hin cx.2.2.2.1 cx.2.2.2.2.2.1.1 (hp_one hP (fO_eq h1)) 0 rfl hc k hk (cx.2.2.2.2.1 _ hlink) (fun _ h => h) (vI_eq h2) hdg kk
theorem r_getD (cx : CX X p c cc nL s m args own) (hP : hp X M H) {ci k : Nat} {v : UInt64} (hg : gD M a ci k = some v) {C : String} {T : u_T} {N index : Nat} (hin : ∀ w ∈ u_ws C T N, w ∈ wG) (hc : vwCl[ci]? = some (C, T, N)) (hk : k < N) (hlink : Cond.fieldLink own index (T k).1 (T k).2.1 (T k).2.2.1 ∈ wG) (hdg : decode cc pc = .ok (.getfield index, 3))
    (kk : W p l e R s m args below meth c H locs cells slots Q (F0 m (pc + 3) ls (.double v :: rest))) : W p l e R s m args below meth c H locs cells slots Q (F0 m pc ls (.ref a :: rest)) := by
  obtain ⟨fs, h1, h2⟩ := Option.bind_eq_some_iff.mp hg
  exact va_get cx.1 cx.2.1 cx.2.2.2.2.1 hin cx.2.2.2.1 cx.2.2.2.2.2.1.1 (hp_one hP (fO_eq h1)) 0 rfl hc k hk (cx.2.2.2.2.1 _ hlink) (fun _ h => h) (vD_eq h2) hdg kk
theorem r_getR (cx : CX X p c cc nL s m args own) (hP : hp X M H) {ci k : Nat} {v : Option Nat} (hg : gR M a ci k = some v) {C : String} {T : u_T} {N index : Nat} (hin : ∀ w ∈ u_ws C T N, w ∈ wG) (hc : vwCl[ci]? = some (C, T, N)) (hk : k < N) (hlink : Cond.fieldLink own index (T k).1 (T k).2.1 (T k).2.2.1 ∈ wG) (hdg : decode cc pc = .ok (.getfield index, 3))
    (kk : W p l e R s m args below meth c H locs cells slots Q (F0 m (pc + 3) ls (va_rf v :: rest))) : W p l e R s m args below meth c H locs cells slots Q (F0 m pc ls (.ref a :: rest)) := by
  obtain ⟨fs, h1, h2⟩ := Option.bind_eq_some_iff.mp hg
  exact va_get cx.1 cx.2.1 cx.2.2.2.2.1 hin cx.2.2.2.1 cx.2.2.2.2.2.1.1 (hp_one hP (fO_eq h1)) 0 rfl hc k hk (cx.2.2.2.2.1 _ hlink) (fun _ h => h) (vR_eq h2) hdg kk
theorem r_aldD (cx : CX X p c cc nL s m args own) (hP : hp X M H) {i : Int32} {v : UInt64} (hg : aD M a i = some v) (hdg : decode cc pc = .ok (.daload, 1))
    (kk : W p l e R s m args below meth c H locs cells slots Q (F0 m (pc + 1) ls (.double v :: rest))) : W p l e R s m args below meth c H locs cells slots Q (F0 m pc ls (.int i :: .ref a :: rest)) := by
  obtain ⟨q, h1, h2⟩ := Option.bind_eq_some_iff.mp hg
  obtain ⟨j, h3, h4⟩ := Option.bind_eq_some_iff.mp h2
  obtain ⟨h5, rfl⟩ := aix_eq h3
  cases h4
  exact va_dald cx.1 cx.2.1 cx.2.2.2.2.2.1.1 (hp_one hP (fD_eq h1)) 0 0 rfl rfl h5 hdg kk
theorem r_aldI (cx : CX X p c cc nL s m args own) (hP : hp X M H) {i : Int32} {v : Int32} (hg : aI M a 1 i = some v) (hdg : decode cc pc = .ok (.iaload, 1))
    (kk : W p l e R s m args below meth c H locs cells slots Q (F0 m (pc + 1) ls (.int v :: rest))) : W p l e R s m args below meth c H locs cells slots Q (F0 m pc ls (.int i :: .ref a :: rest)) := by
  obtain ⟨q, h1, h2⟩ := Option.bind_eq_some_iff.mp hg
  obtain ⟨j, h3, h4⟩ := Option.bind_eq_some_iff.mp h2
  obtain ⟨h5, rfl⟩ := aix_eq h3
  cases h4
  exact va_iald cx.1 cx.2.1 cx.2.2.2.2.2.1.1 (hp_one hP (fI_eq h1)) 0 1 rfl rfl h5 hdg kk
theorem r_aldZ (cx : CX X p c cc nL s m args own) (hP : hp X M H) {i : Int32} {v : Int32} (hg : aI M a 2 i = some v) (hdg : decode cc pc = .ok (.baload, 1))
    (kk : W p l e R s m args below meth c H locs cells slots Q (F0 m (pc + 1) ls (.int v :: rest))) : W p l e R s m args below meth c H locs cells slots Q (F0 m pc ls (.int i :: .ref a :: rest)) := by
  obtain ⟨q, h1, h2⟩ := Option.bind_eq_some_iff.mp hg
  obtain ⟨j, h3, h4⟩ := Option.bind_eq_some_iff.mp h2
  obtain ⟨h5, rfl⟩ := aix_eq h3
  cases h4
  exact va_zald cx.1 cx.2.1 cx.2.2.2.2.2.1.1 (hp_one hP (fI_eq h1)) 0 2 rfl rfl h5 hdg kk
theorem r_aldR (cx : CX X p c cc nL s m args own) (hP : hp X M H) {C : String} {k : Nat} (hk : (hty X)[k]? = some (X.2.2 k, .object C)) {i : Int32} {v : Option Nat} (hg : aR M a k i = some v) (hdg : decode cc pc = .ok (.aaload, 1))
    (kk : W p l e R s m args below meth c H locs cells slots Q (F0 m (pc + 1) ls (va_rf v :: rest))) : W p l e R s m args below meth c H locs cells slots Q (F0 m pc ls (.int i :: .ref a :: rest)) := by
  obtain ⟨q, h1, h2⟩ := Option.bind_eq_some_iff.mp hg
  obtain ⟨j, h3, h4⟩ := Option.bind_eq_some_iff.mp h2
  obtain ⟨h5, rfl⟩ := aix_eq h3
  cases h4
  exact va_aldq cx.1 cx.2.1 cx.2.2.2.2.2.1.1 (hp_one hP (fR_eq h1)) 0 k rfl hk h5 hdg kk
theorem r_put (cx : CX X p c cc nL s m args own) (hP : hp X M H) (hS0 : va_S (hA X) H0 H locs) {ci k : Nat} {v : Value} {M' : hm} (hg : pV M a ci k v = some M') {C : String} {T : u_T} {N index : Nat} (hin : ∀ w ∈ u_ws C T N, w ∈ wG) (ty0 : Nat → FieldType) (hty : ∀ k, k < N → parseFieldDescriptor (T k).2.2.1 = some (ty0 k)) (hnm : ∀ a, a < N → ∀ b, b < N → a ≠ b → (T a).2.1 ≠ (T b).2.1) (hc : vwCl[ci]? = some (C, T, N)) (hk : k < N) (hlink : Cond.fieldLink own index (T k).1 (T k).2.1 (T k).2.2.1 ∈ wG) (hfin : (T k).2.2.2 = false) (hn : narrow (ty0 k) v = v) (hfit : fits (ty0 k) v = true) (hdg : decode cc pc = .ok (.putfield index, 3))
    (kk : ∀ (H1 : Heap) (locs1 : List Loc), hp X M' H1 → va_S (hA X) H0 H1 locs1 → W p l e R s m args below meth c H1 locs1 cells slots Q (F0 m (pc + 3) ls rest)) : W p l e R s m args below meth c H locs cells slots Q (F0 m pc ls (v :: .ref a :: rest)) := by
  obtain ⟨fs, g1, g2⟩ := Option.bind_eq_some_iff.mp hg
  have he := fO_eq g1
  split at g2
  case isFalse => cases g2
  case isTrue hl =>
  cases g2
  have hK := cx.2.2.2.2.2.1.1
  have hts := cx.2.2.2.2.1
  have hap := va_apart (own := own) hts hin ty0 hty hnm hK hc
  obtain ⟨hA1, r, h1, cell, q1, q2, q3, q4⟩ := hP.2 _ _ he
  have hr : r = (C, T, N) := Option.some.inj (h1.symm.trans hc)
  subst hr
  obtain ⟨hS, hfc, kC, hkC, hkind⟩ := hK.1 ci _ hc
  obtain ⟨cf, kf, fi, f, hi, hsl⟩ := hS k hk
  have hlay := hts _ (hin _ (u_in_lay hk))
  unfold u_lay at hlay
  rw [if_neg (by rw [hfin]; decide)] at hlay
  have hst := (u_facts hfc hkC (u_lays hts hin hk) hi).1
  have h6 := u_store hfc hkC hkind hlay hi (hty k hk) hn hfit
  refine W.putK cx.1 cx.2.1 (f := f) ⟨cx.2.2.2.1, hts _ hlink, ⟨_, _, _, hi⟩, hst⟩ (by rw [q2]; exact h6) q1 q3 (by rw [hsl]; exact k2_hasslot (q4 k hk)) rfl rfl hdg fun H' e1 e2 e3 => ?_
  rw [hsl] at e1 ⊢
  exact kk H' _ (hP.set hA1 e2 ⟨_, hc, t_OB.to (V := updV (vp_V fs) k v) ⟨_, e1, q2, q3, t_set q4 hap hk v⟩ (fun j _ => vp_updV_set hl v j)⟩ e3) (hS0.put e2 e3 hA1)
theorem r_putF (cx : CX X p c cc nL s m args own) (hP : hp X M H) (hS0 : va_S (hA X) H0 H locs) {ci k : Nat} {v : Value} {M' : hm} (hg : pV M a ci k v = some M') {C : String} {T : u_T} {N index : Nat} (hin : ∀ w ∈ u_ws C T N, w ∈ wG) (ty0 : Nat → FieldType) (hty : ∀ k, k < N → parseFieldDescriptor (T k).2.2.1 = some (ty0 k)) (hnm : ∀ a, a < N → ∀ b, b < N → a ≠ b → (T a).2.1 ≠ (T b).2.1) (hc : vwCl[ci]? = some (C, T, N)) (hk : k < N) (hlink : Cond.fieldLink own index (T k).1 (T k).2.1 (T k).2.2.1 ∈ wG) (hfin : (T k).2.2.2 = true) (hin2 : meth.name = "<init>") (hdecl : (T k).1 = own) (hn : narrow (ty0 k) v = v) (hfit : fits (ty0 k) v = true) (hdg : decode cc pc = .ok (.putfield index, 3))
    (kk : ∀ (H1 : Heap) (locs1 : List Loc), hp X M' H1 → va_S (hA X) H0 H1 locs1 → W p l e R s m args below meth c H1 locs1 cells slots Q (F0 m (pc + 3) ls rest)) : W p l e R s m args below meth c H locs cells slots Q (F0 m pc ls (v :: .ref a :: rest)) := by
  obtain ⟨fs, g1, g2⟩ := Option.bind_eq_some_iff.mp hg
  have he := fO_eq g1
  split at g2
  case isFalse => cases g2
  case isTrue hl =>
  cases g2
  have hK := cx.2.2.2.2.2.1.1
  have hts := cx.2.2.2.2.1
  have hap := va_apart (own := own) hts hin ty0 hty hnm hK hc
  obtain ⟨hA1, r, h1, cell, q1, q2, q3, q4⟩ := hP.2 _ _ he
  have hr : r = (C, T, N) := Option.some.inj (h1.symm.trans hc)
  subst hr
  obtain ⟨hS, hfc, kC, hkC, hkind⟩ := hK.1 ci _ hc
  obtain ⟨cf, kf, fi, f, hi, hsl⟩ := hS k hk
  have hlay := hts _ (hin _ (u_in_lay hk))
  unfold u_lay at hlay
  rw [if_pos hfin] at hlay
  have hst := (u_facts hfc hkC (u_lays hts hin hk) hi).1
  have hcf : m.cls = cf := by
    obtain ⟨_, _, c', _, _, _, -, -, hf', -, -, -, hown2, -⟩ := Cond.laysFinal_spec hlay
    have e1 : c' = cf := by have := hi.symm.trans hf'; simp at this; exact this.1.symm
    rw [hdecl] at hown2
    rw [← e1]; exact Option.some.inj (cx.2.2.2.1.symm.trans hown2)
  have h6 := u_fits hfc hkC hkind (Or.inr hlay) hi (hty k hk) hn hfit
  refine W.putFinK cx.1 cx.2.1 cx.2.2.2.1 (hts _ hlink) hi hst hcf hin2 (by rw [q2]; exact h6) q1 q3 (by rw [hsl]; exact k2_hasslot (q4 k hk)) rfl rfl hdg fun H' e1 e2 e3 => ?_
  rw [hsl] at e1 ⊢
  exact kk H' _ (hP.set hA1 e2 ⟨_, hc, t_OB.to (V := updV (vp_V fs) k v) ⟨_, e1, q2, q3, t_set q4 hap hk v⟩ (fun j _ => vp_updV_set hl v j)⟩ e3) (hS0.put e2 e3 hA1)
theorem r_astD (cx : CX X p c cc nL s m args own) (hP : hp X M H) (hS : va_S (hA X) H0 H locs) {i : Int32} {x : UInt64} {M' : hm} (hg : sD M a i x = some M') (hdg : decode cc pc = .ok (.dastore, 1))
    (kk : ∀ (H1 : Heap) (locs1 : List Loc), hp X M' H1 → va_S (hA X) H0 H1 locs1 → W p l e R s m args below meth c H1 locs1 cells slots Q (F0 m (pc + 1) ls rest)) : W p l e R s m args below meth c H locs cells slots Q (F0 m pc ls (.double x :: .int i :: .ref a :: rest)) := by
  obtain ⟨q, h1, h2⟩ := Option.bind_eq_some_iff.mp hg
  obtain ⟨j, h3, h4⟩ := Option.bind_eq_some_iff.mp h2
  obtain ⟨hin, rfl⟩ := aix_eq h3
  cases h4
  obtain ⟨n, f⟩ := q
  have he := fD_eq h1
  have hK := cx.2.2.2.2.2.1.1
  refine W.dast cx.1 cx.2.1 (hP.2 _ _ he).2 ((hK.2 0 _ rfl).1 n (fun j => .double (f j))) (fun q => by cases q) (by show ¬ (i < 0 ∨ (arrV _ _ _).slots.size ≤ _); rw [arrV_size]; exact hin) rfl rfl hdg fun H1 e1 z oq => ?_
  refine kk H1 _ (hP.set (hP.2 _ _ he).1 z ?_ oq) (hS.put z oq (hP.2 _ _ he).1)
  show H1[a]? = some (vp_cell _ _)
  rw [e1]
  rw [vp_cell_d, vp_cell_d, arrV_store]
  congr 2
  funext q
  by_cases hq : q = i.toNatClampNeg
  · subst hq
    simp [updV, vf_upd]
  · simp [updV, vf_upd, hq]
theorem r_astI (cx : CX X p c cc nL s m args own) (hP : hp X M H) (hS : va_S (hA X) H0 H locs) {i : Int32} {x : Int32} {M' : hm} (hg : sI M a i x = some M') (hdg : decode cc pc = .ok (.iastore, 1))
    (kk : ∀ (H1 : Heap) (locs1 : List Loc), hp X M' H1 → va_S (hA X) H0 H1 locs1 → W p l e R s m args below meth c H1 locs1 cells slots Q (F0 m (pc + 1) ls rest)) : W p l e R s m args below meth c H locs cells slots Q (F0 m pc ls (.int x :: .int i :: .ref a :: rest)) := by
  obtain ⟨q, h1, h2⟩ := Option.bind_eq_some_iff.mp hg
  obtain ⟨j, h3, h4⟩ := Option.bind_eq_some_iff.mp h2
  obtain ⟨hin, rfl⟩ := aix_eq h3
  cases h4
  obtain ⟨n, f⟩ := q
  have he := fI_eq h1
  have hK := cx.2.2.2.2.2.1.1
  refine W.iast cx.1 cx.2.1 (hP.2 _ _ he).2 ((hK.2 1 _ rfl).1 n (fun j => .int (f j))) (fun q => by cases q) (by show ¬ (i < 0 ∨ (arrV _ _ _).slots.size ≤ _); rw [arrV_size]; exact hin) rfl rfl hdg fun H1 e1 z oq => ?_
  refine kk H1 _ (hP.set (hP.2 _ _ he).1 z ?_ oq) (hS.put z oq (hP.2 _ _ he).1)
  show H1[a]? = some (vp_cell _ _)
  rw [e1]
  rw [vp_cell_i, vp_cell_i, arrV_store]
  congr 2
  funext q
  by_cases hq : q = i.toNatClampNeg
  · subst hq
    simp [updV, upd]
  · simp [updV, upd, hq]
theorem r_astZ (cx : CX X p c cc nL s m args own) (hP : hp X M H) (hS : va_S (hA X) H0 H locs) {i : Int32} {x : Int32} {M' : hm} (hg : sZ M a i x = some M') (hdg : decode cc pc = .ok (.bastore, 1))
    (kk : ∀ (H1 : Heap) (locs1 : List Loc), hp X M' H1 → va_S (hA X) H0 H1 locs1 → W p l e R s m args below meth c H1 locs1 cells slots Q (F0 m (pc + 1) ls rest)) : W p l e R s m args below meth c H locs cells slots Q (F0 m pc ls (.int x :: .int i :: .ref a :: rest)) := by
  obtain ⟨q, h1, h2⟩ := Option.bind_eq_some_iff.mp hg
  obtain ⟨j, h3, h4⟩ := Option.bind_eq_some_iff.mp h2
  obtain ⟨hin, rfl⟩ := aix_eq h3
  cases h4
  obtain ⟨n, f⟩ := q
  have he := fI_eq h1
  have hK := cx.2.2.2.2.2.1.1
  refine W.zast cx.1 cx.2.1 (hP.2 _ _ he).2 ((hK.2 2 _ rfl).1 n (fun j => .int (f j))) (fun q => by cases q) (by show ¬ (i < 0 ∨ (arrV _ _ _).slots.size ≤ _); rw [arrV_size]; exact hin) rfl rfl hdg fun H1 e1 z oq => ?_
  refine kk H1 _ (hP.set (hP.2 _ _ he).1 z ?_ oq) (hS.put z oq (hP.2 _ _ he).1)
  show H1[a]? = some (vp_cell _ _)
  rw [e1]
  rw [vp_cell_i, vp_cell_i, arrV_store]
  congr 2
  funext q
  by_cases hq : q = i.toNatClampNeg
  · subst hq
    simp [updV, upd, vp_nar]
    try rfl
  · simp [updV, upd, hq]
theorem r_astR (cx : CX X p c cc nL s m args own) (hP : hp X M H) (hS : va_S (hA X) H0 H locs) {k ci : Nat} {r : vw_C} (hk : (hty X)[k]? = some (X.2.2 k, .object r.1)) (hc : vwCl[ci]? = some r) {i : Int32} {v : Option Nat} {M' : hm} (hg : sR M a k ci i v = some M') (hdg : decode cc pc = .ok (.aastore, 1))
    (kk : ∀ (H1 : Heap) (locs1 : List Loc), hp X M' H1 → va_S (hA X) H0 H1 locs1 → W p l e R s m args below meth c H1 locs1 cells slots Q (F0 m (pc + 1) ls rest)) : W p l e R s m args below meth c H locs cells slots Q (F0 m pc ls (va_rf v :: .int i :: .ref a :: rest)) := by
  obtain ⟨_, h0, hg⟩ := Option.bind_eq_some_iff.mp hg
  obtain ⟨q, h1, h2⟩ := Option.bind_eq_some_iff.mp hg
  obtain ⟨j, h3, h4⟩ := Option.bind_eq_some_iff.mp h2
  obtain ⟨hin, rfl⟩ := aix_eq h3
  cases h4
  obtain ⟨n, f⟩ := q
  have he := fR_eq h1
  have hK := cx.2.2.2.2.2.1.1
  have hlt : i.toNatClampNeg < n := Nat.not_le.mp fun q => hin (Or.inr q)
  have hi0 : ¬ i < 0 := fun q => hin (Or.inl q)
  have hend : ∀ (H1 : Heap) (locs1 : List Loc), H1[a]? = some ((vp_cell (X.2.2 k) (n, .inr (.inr (.inr (.inr f))))).setSlot i.toNatClampNeg (va_rf v)) → H1.size = H.size → (∀ q, q ≠ a → H1[q]? = H[q]?) → hp X (hu M a (.inl (k, n, .inr (.inr (.inr (.inr (va_up f i.toNatClampNeg v))))))) H1 := by
    intro H1 locs1 e1 z oq
    refine hP.set (hP.2 _ _ he).1 z ?_ oq
    show H1[a]? = some (vp_cell _ _)
    rw [e1]
    rw [vp_cell_q, vp_cell_q, arrV_store]
    congr 2
    funext q
    by_cases hq : q = i.toNatClampNeg
    · subst hq
      simp [updV, va_up]
    · simp [updV, va_up, hq]
  cases v with
  | none =>
    refine va_WaastN (C := r.1) cx.1 cx.2.1 (hP.2 _ _ he).2 ((hK.2 k _ hk).1 n (fun j => va_rf (f j))) (fun h => by cases h) (by show ¬ (i < 0 ∨ (arrV _ _ _).slots.size ≤ _); rw [arrV_size]; exact hin) rfl rfl hdg fun H1 e1 z oq => ?_
    exact kk H1 _ (hend H1 [] e1 z oq) (hS.put z oq (hP.2 _ _ he).1)
  | some b =>
    obtain ⟨vs, hv0, -⟩ := Option.map_eq_some_iff.mp h0
    have hv := fO_eq hv0
    obtain ⟨-, r', hr', cellV, g1, g2, g3, -⟩ := hP.2 _ _ hv
    have hcls := (hK.1 ci r hc).2
    obtain ⟨kA, comp, k1, k2, k3, -⟩ := (hK.2 k _ hk).2
    have hcomp : comp = X.2.1.1 ci := Option.some.inj (k3.symm.trans hcls.1)
    subst hcomp
    obtain ⟨kC, hkC, -⟩ := hcls.2
    refine W.aast cx.1 cx.2.1 (hP.2 _ _ he).2 (fun q h => by cases h) (fun h => by cases h) k1 k2 rfl hkC ⟨hi0, by show _ < (arrV _ _ _).slots.size; rw [arrV_size]; exact hlt⟩ g1 (fun q h => by rw [g3] at h; cases h) (by rw [g2]; exact hkC) (by rw [g2]; exact va_assign hcls) rfl rfl hdg fun H1 e1 z oq => ?_
    exact kk H1 _ (hend H1 [] e1 z oq) (hS.put z oq (hP.2 _ _ he).1)
theorem r_new {N ci index : Nat} {fs : List Value} (cx : CX X p c cc nL s m args own) (hP : hp X M H) (hS : va_S (hA X) s.heap H locs) {q : hm × Nat} (hg : nO M ci fs = some q) {C : String} {T : u_T} (hin : ∀ w ∈ u_ws C T N, w ∈ wG) (ty : Nat → FieldType) (hty : ∀ k, k < N → parseFieldDescriptor (T k).2.2.1 = some (ty k)) (hcl : Cond.classLink own index C ∈ wG) (hinst : Cond.instantiable C N ∈ wG) (hini : Cond.initialized C ∈ wG) (hc : vwCl[ci]? = some (C, T, N)) (hfs : ∀ j, j < N → defaultValue (ty j) = vp_V fs j) (hcells : cells + 1 ≤ R.cells) (hslots : slots + N ≤ R.slots) (hdg : decode cc pc = .ok (.new index, 3))
    (kk : ∀ H1 : Heap, hp X q.1 H1 → va_S (hA X) s.heap H1 locs → W p l e R s m args below meth c H1 locs (cells + 1) (slots + N) Q (F0 m (pc + 3) ls (.ref q.2 :: rest))) : W p l e R s m args below meth c H locs cells slots Q (F0 m pc ls rest) := by
  cases hg
  have hK := cx.2.2.2.2.2.1.1
  have hts := cx.2.2.2.2.1
  have hKn := hK.1 ci _ hc
  refine W.newcK cx.1 cx.2.1 cx.2.2.2.1 (hts _ hcl) (hts _ hinst) (hts _ hini) rfl hdg hcells hslots hKn.2.1 rfl fun H1 kC hkC e1 z1 o1 => ?_
  have hb : X.1 ≤ H.size := Nat.le_trans cx.2.2.2.2.2.2 hS.1
  have h := kk H1 (hP.push hb z1 (e := .inr (ci, fs)) ⟨_, hc, (u_born ty hts hin hKn hkC e1 hty).to hfs⟩ o1) ⟨Nat.le_trans hS.1 (by omega), fun x h1 h2 => (o1 x (Nat.lt_of_lt_of_le h1 hS.1)).trans (hS.2.1 x h1 h2), hS.2.2⟩
  have e0 : (hnew M (.inr (ci, fs)), M.2).2 = H.size := hP.1
  rw [e0] at h
  exact h
/-- a reference or null, loaded and stored -/
theorem h_aload_n (hexec : p.tables.exec = Jvm.exec) (hb : c.code = cc) {k : Fin 4} {i : Nat} {x : Option Nat} (hdg : decode cc pc = .ok (.aload_n k, 1)) (hi : (k : Nat) = i) (hl : ls[i]? = some (.val (va_rf x))) (kk : W p l e R s m args below meth c H locs cells slots Q (F0 m (pc + 1) ls (va_rf x :: rest))) : W p l e R s m args below meth c H locs cells slots Q (F0 m pc ls (rest)) := by
  cases x with
  | none => exact lv_aload_nN hexec hb hdg hi hl kk
  | some b => exact lv_aload_n hexec hb hdg hi hl kk
theorem h_aload (hexec : p.tables.exec = Jvm.exec) (hb : c.code = cc) {i : Nat} {x : Option Nat} (hdg : decode cc pc = .ok (.aload i, 2)) (hl : ls[i]? = some (.val (va_rf x))) (kk : W p l e R s m args below meth c H locs cells slots Q (F0 m (pc + 2) ls (va_rf x :: rest))) : W p l e R s m args below meth c H locs cells slots Q (F0 m pc ls (rest)) := by
  cases x with
  | none => exact lv_aloadN hexec hb hdg hl kk
  | some b => exact lv_aload hexec hb hdg hl kk
theorem h_astore_n (hexec : p.tables.exec = Jvm.exec) (hb : c.code = cc) {k : Fin 4} {i nL : Nat} {x : Option Nat} {lv lv' : List (Nat × Value)} (hdg : decode cc pc = .ok (.astore_n k, 1)) (hi : (k : Nat) = i) (h : lv_has ls nL lv) (hn : i < nL) (hl : (i, va_rf x) :: lv.filter (fun q => !(q.1 == i) && !(q.1 + 1 == i && q.2.category == 2)) = lv') (kk : ∀ ls' : Array Slot, lv_has ls' nL lv' → W p l e R s m args below meth c H locs cells slots Q (F0 m (pc + 1) ls' rest)) : W p l e R s m args below meth c H locs cells slots Q (F0 m pc ls (va_rf x :: rest)) := by
  cases x with
  | none => exact lv_astore_nN hexec hb hdg hi h hn hl kk
  | some b => exact lv_astore_n hexec hb hdg hi h hn hl kk
theorem h_astore (hexec : p.tables.exec = Jvm.exec) (hb : c.code = cc) {i nL : Nat} {x : Option Nat} {lv lv' : List (Nat × Value)} (hdg : decode cc pc = .ok (.astore i, 2)) (h : lv_has ls nL lv) (hn : i < nL) (hl : (i, va_rf x) :: lv.filter (fun q => !(q.1 == i) && !(q.1 + 1 == i && q.2.category == 2)) = lv') (kk : ∀ ls' : Array Slot, lv_has ls' nL lv' → W p l e R s m args below meth c H locs cells slots Q (F0 m (pc + 2) ls' rest)) : W p l e R s m args below meth c H locs cells slots Q (F0 m pc ls (va_rf x :: rest)) := by
  cases x with
  | none => exact lv_astoreN hexec hb hdg h hn hl kk
  | some b => exact lv_astore hexec hb hdg h hn hl kk
end HR
/-! ===== new arrays, a copy; contracts, calls, entries, ends ===== -/
section HC
variable {p : Program} {l : Launch} {e : Env} {R : Room} {s : State} {m : MethodId} {args : Array Value} {below : List Frame} {meth : Method} {c : Code} {H : Heap} {locs : List Loc} {cells slots : Nat} {Q : State → Prop}
variable {cc : ByteArray} {pc nL : Nat} {ls : Array Slot} {rest : List Value} {X : hX} {a : Nat} {M : hm} {own : String}
theorem r_newA {k N : Nat} {a0 : vp_A} (cx : CX X p c cc nL s m args own) (hP : hp X M H) (hS : va_S (hA X) s.heap H locs) {q : hm × Nat} (hg : nA M k a0 = some q) {atype : ArrayType} {ty : FieldType} (hty : newarray.typeOf atype = ty) (harr : Cond.arrayClass ty ∈ wG) (hk : (hty X)[k]? = some (X.2.2 k, ty)) (hra : ∀ cA : ClassId, va_RA s cA ty → s.vm.findClass ("[" ++ ty.toString) = some cA) {n : Int32} (ha : ∀ cA : ClassId, vp_cell cA a0 = arrV cA N (fun _ => defaultValue ty)) (hn : ¬ n < 0) (hN : n.toNatClampNeg = N) (hbytes : N * componentBytes ty ≤ 536870912) (hcells : cells + 1 ≤ R.cells) (hslots : slots + N ≤ R.slots) (hdg : decode cc pc = .ok (.newarray atype, 2))
    (kk : ∀ H1 : Heap, hp X q.1 H1 → va_S (hA X) s.heap H1 locs → W p l e R s m args below meth c H1 locs (cells + 1) (slots + N) Q (F0 m (pc + 2) ls (.ref q.2 :: rest))) : W p l e R s m args below meth c H locs cells slots Q (F0 m pc ls (.int n :: rest)) := by
  cases hg
  subst hty
  have hK := cx.2.2.2.2.2.1.1
  refine va_newaK cx.1 cx.2.1 (cx.2.2.2.2.1 _ harr) rfl hdg rfl hn hN hbytes hcells hslots rfl fun H1 cA e1 z1 o1 hAr hNm => ?_
  have hcA : cA = X.2.2 k := Option.some.inj (hNm.symm.trans (hra _ (hK.2 k _ hk).2))
  subst hcA
  have hb : X.1 ≤ H.size := Nat.le_trans cx.2.2.2.2.2.2 hS.1
  have h := kk H1 (hP.push hb z1 (e := .inl (k, a0)) (by show H1[H.size]? = some (vp_cell _ _); rw [ha]; exact e1) o1) ⟨Nat.le_trans hS.1 (by omega), fun x h1 h2 => (o1 x (Nat.lt_of_lt_of_le h1 hS.1)).trans (hS.2.1 x h1 h2), hS.2.2⟩
  have e0 : (hnew M (.inl (k, a0)), M.2).2 = H.size := hP.1
  rw [e0] at h
  exact h
theorem r_newQ {k N : Nat} (cx : CX X p c cc nL s m args own) (hP : hp X M H) (hS : va_S (hA X) s.heap H locs) {q : hm × Nat} (hg : nA M k (N, .inr (.inr (.inr (.inr (fun _ => none))))) = some q) {C : String} {index : Nat} (hcl : Cond.classLink own index C ∈ wG) (hover : va_AO C s) (hk : (hty X)[k]? = some (X.2.2 k, .object C)) {n : Int32} (hn : ¬ n < 0) (hN : n.toNatClampNeg = N) (hbytes : N * 4 ≤ 536870912) (hcells : cells + 1 ≤ R.cells) (hslots : slots + N ≤ R.slots) (hdg : decode cc pc = .ok (.anewarray index, 3))
    (kk : ∀ H1 : Heap, hp X q.1 H1 → va_S (hA X) s.heap H1 locs → W p l e R s m args below meth c H1 locs (cells + 1) (slots + N) Q (F0 m (pc + 3) ls (.ref q.2 :: rest))) : W p l e R s m args below meth c H locs cells slots Q (F0 m pc ls (.int n :: rest)) := by
  cases hg
  subst hN
  have hK := cx.2.2.2.2.2.1.1
  refine W.anew cx.1 cx.2.1 cx.2.2.2.1 (cx.2.2.2.2.1 _ hcl) (va_AO.use hover) rfl hdg rfl hn hbytes hcells hslots fun cA kA comp f1 f2 f3 f4 => ?_
  generalize hH1 : H.push ({ cls := cA, slots := Array.replicate n.toNatClampNeg .null, vm := .none } : Cell) = H1
  have z1 : H1.size = H.size + 1 := by rw [← hH1, Array.size_push]
  have e1 : H1[H.size]? = some (arrV cA n.toNatClampNeg (fun _ => .null)) := by rw [← hH1, Array.getElem?_push_size, ← arrV_new]
  have o1 : ∀ q : Nat, q < H.size → H1[q]? = H[q]? := fun q hq => by rw [← hH1, Array.getElem?_push, if_neg (Nat.ne_of_lt hq)]
  obtain ⟨_, _, _, _, _, hNm⟩ := (hK.2 k _ hk).2
  have hcA : cA = X.2.2 k := Option.some.inj (f1.symm.trans hNm)
  subst hcA
  have hb : X.1 ≤ H.size := Nat.le_trans cx.2.2.2.2.2.2 hS.1
  have h := kk H1 (hP.push hb z1 (e := .inl (k, n.toNatClampNeg, .inr (.inr (.inr (.inr (fun _ => none)))))) (by show H1[H.size]? = some (vp_cell _ _); rw [vp_cell_q]; exact e1) o1) ⟨Nat.le_trans hS.1 (by omega), fun x h1 h2 => (o1 x (Nat.lt_of_lt_of_le h1 hS.1)).trans (hS.2.1 x h1 h2), hS.2.2⟩
  have e0 : (hnew M (.inl (k, n.toNatClampNeg, .inr (.inr (.inr (.inr (fun _ => none)))))), M.2).2 = H.size := hP.1
  rw [e0] at h
  exact h
theorem r_copy (cx : CX X p c cc nL s m args own) (hsz : ls.size = nL) (hP : hp X M H) (hS : va_S (hA X) s.heap H locs) {index a0 : Nat} (hlink : Cond.methodLink own index arraycopyName ∈ wG) (hnat : Cond.native arraycopyName ∈ wG) (hstat : Cond.static arraycopyName ∈ wG) (hini : Cond.initialized "java/lang/System" ∈ wG) {sp dp n : Int32} {M' : hm} (hg : hcp M a0 sp a dp n = some M') (hframes : 1 ≤ R.frames) (hlocals : (rest.map fun v => v.category).sum + 18 ≤ R.locals) (hdg : decode cc pc = .ok (.invokestatic index, 3))
    (kk : ∀ (H1 : Heap) (locs1 : List Loc), hp X M' H1 → va_S (hA X) s.heap H1 locs1 → W p l e R s m args below meth c H1 locs1 cells slots Q (F0 m (pc + 3) ls rest)) : W p l e R s m args below meth c H locs cells slots Q (F0 m pc ls (.int n :: .int dp :: .ref a :: .int sp :: .ref a0 :: rest)) := by
  obtain ⟨⟨n0, f⟩, g1, g2⟩ := Option.bind_eq_some_iff.mp hg
  obtain ⟨⟨n1, g⟩, g3, g4⟩ := Option.bind_eq_some_iff.mp g2
  split at g4
  case isFalse => cases g4
  case isTrue hh =>
  cases g4
  obtain ⟨h1, h2, h3, h4, h5⟩ := hh
  have hK := cx.2.2.2.2.2.1.1
  have hts := cx.2.2.2.2.1
  have nn : ∀ z : Int32, ¬ z < 0 → z.toInt = (z.toNatClampNeg : Int) := by
    intro z hz
    have hz0 : (0 : Int) ≤ z.toInt := by
      have := Int32.not_lt.mp hz
      simpa using Int32.le_iff_toInt_le.mp this
    show z.toInt = ((z.toInt.toNat : Nat) : Int)
    omega
  intro T hT Y
  have hc0 : H[a0]? = some (vp_cell (X.2.2 0) (n0, .inr (.inr (.inr (.inl f))))) := (hP.2 _ _ (fD_eq g1)).2
  have hc1 : H[a]? = some (vp_cell (X.2.2 0) (n1, .inr (.inr (.inr (.inl g))))) := (hP.2 _ _ (fD_eq g3)).2
  have hA1 : X.1 ≤ a := (hP.2 _ _ (fD_eq g3)).1
  obtain ⟨-, k0, hk0, cm0, hkk0⟩ := (hK.2 0 _ rfl).1 n0 (fun j => .double (f j))
  obtain ⟨-, k1, hk1, cm1, hkk1⟩ := (hK.2 0 _ rfl).1 n1 (fun j => .double (g j))
  obtain ⟨vm', Y', step⟩ := Y.arraycopy cx.1 cx.2.2.2.1 (hts _ hlink) (hts _ hnat) (hts _ hstat) (hts _ hini) (src := a0) (dst := a) (cs := vp_cell (X.2.2 0) (n0, .inr (.inr (.inr (.inl f))))) (cd := vp_cell (X.2.2 0) (n1, .inr (.inr (.inr (.inl g))))) (srcPos := sp) (destPos := dp) (n := n) (by rw [hT]; exact hc0) (by rw [hT]; exact hc1)
    (fun _ h => by cases h) (fun _ h => by cases h) (fun h => by cases h) (fun h => by cases h) hk0 hk1 hkk0 hkk1 (by simp [refKind]) h1 h2 h3
    (by rw [nn sp h1, nn n h3]; show ¬ _ > ((arrV _ n0 (fun j => .double (f j))).slots.size : Int); rw [arrV_size]; omega)
    (by rw [nn dp h2, nn n h3]; show ¬ _ > ((arrV _ n1 (fun j => .double (g j))).slots.size : Int); rw [arrV_size]; omega)
    (fun vm₁ _ i hi => by
      have e : (vp_cell (X.2.2 0) (n0, .inr (.inr (.inr (.inl f))))).slots.getD (sp.toNatClampNeg + i) .null = .double (f (sp.toNatClampNeg + i)) := by
        show (arrV _ n0 (fun j => .double (f j))).slots.getD _ _ = _
        rw [Array.getD_eq_getD_getElem?, arrV_read _ _ (by omega)]
        rfl
      refine ⟨?_, ?_⟩
      · rw [e]
        rfl
      · rw [e]
        exact trivial)
    (g := F0 m pc ls (.int n :: .int dp :: .ref a :: .int sp :: .ref a0 :: rest)) rfl (by rw [cx.2.2.1, ← hsz]) (rest := rest) rfl (by rw [cx.2.1]; exact hdg) hframes (by show 2 * 0 + _ + _ ≤ _; have hw : nativeFrameWords "java/lang/System" "arraycopy" 5 = 7 := by decide
                                                                                                                                                                                 omega)
  have e1 : copied (vp_cell (X.2.2 0) (n0, .inr (.inr (.inr (.inl f))))) (vp_cell (X.2.2 0) (n1, .inr (.inr (.inr (.inl g))))) sp dp n = vp_cell (X.2.2 0) (n1, .inr (.inr (.inr (.inl (va_cpy f g sp.toNatClampNeg dp.toNatClampNeg n.toNatClampNeg))))) := va_copied (fun z => .double z) _ _ f g h4
  rw [e1] at Y' step
  have hl : a < H.size := (Array.getElem?_eq_some_iff.mp hc1).1
  generalize hcell : vp_cell (X.2.2 0) (n1, .inr (.inr (.inr (.inl (va_cpy f g sp.toNatClampNeg dp.toNatClampNeg n.toNatClampNeg))))) = cell1 at Y' step
  have hheap : ((T.setVm vm').setCell a cell1).heap = H.setIfInBounds a cell1 := by rw [← hT]; rfl
  have oq : ∀ q : Nat, q ≠ a → (H.setIfInBounds a cell1)[q]? = H[q]? := fun q hq => by simp [Array.getElem?_setIfInBounds, Ne.symm hq]
  obtain ⟨t, a1, b1⟩ := kk _ _ (hP.set hA1 (by simp) (show (H.setIfInBounds a cell1)[a]? = some _ by rw [← hcell]; simp [Array.getElem?_setIfInBounds, hl]; rfl) oq) ⟨by simp; exact hS.1, fun q g1 g2 => by
      rw [oq q (fun e => g2 (by rw [e]; exact hA1))]
      exact hS.2.1 q g1 g2, fun q hq => by
      rcases List.mem_append.mp hq with h | h
      · exact hS.2.2 q h
      · obtain ⟨z, -, hz⟩ := List.mem_map.mp h
        rw [← hz]
        exact hA1⟩ _ hheap Y'
  exact ⟨t, step t a1, b1⟩
end HC
/-- a contract's start and ends: the map before, and the map and the answer behind, are just these -/
def hPre (X : hX) (M : hm) (U : State) : Prop := X.1 ≤ U.heap.size ∧ hp X M U.heap ∧ hK X U
theorem hK.same {X : hX} {s U : State} (h : hK X s) (e : s.vm = U.vm) : hK X U :=
  ⟨va_K.moved (e ▸ Vm.Alike.refl s.vm) h.1, ⟨va_Nw.same rfl e h.2.1.1, va_Nw.same rfl e h.2.1.2.1, va_Nw.same rfl e h.2.1.2.2.1, va_Nw.same rfl e h.2.1.2.2.2.1, va_Nw.same rfl e h.2.1.2.2.2.2⟩, va_AO.moved (e ▸ Vm.Alike.refl s.vm) h.2.2.1, va_AO.moved (e ▸ Vm.Alike.refl s.vm) h.2.2.2⟩
def qV (X : hX) (R : hm) : Array Value → State → Outcome → State → Prop := va_Qv (fun u : hm => u = R) (fun u t => hp X u t.heap) (hA X)
def qI (X : hX) (R : hm × Int32) : Array Value → State → Outcome → State → Prop := va_Qi (fun r (u : hm) => (u, r) = R) (fun u t => hp X u t.heap) (hA X)
def qL (X : hX) (R : hm × Int64) : Array Value → State → Outcome → State → Prop := va_Ql (fun r (u : hm) => (u, r) = R) (fun u t => hp X u t.heap) (hA X)
def qD (X : hX) (R : hm × UInt64) : Array Value → State → Outcome → State → Prop := va_Qd (fun r (u : hm) => (u, r) = R) (fun u t => hp X u t.heap) (hA X)
def qR (X : hX) (R : hm × Option Nat) : Array Value → State → Outcome → State → Prop := va_Qq (fun r (u : hm) => (u, r) = R) (fun u t => hp X u t.heap) (hA X)
def Ct (l : Launch) (X : hX) (y : MethodName) (cc : ByteArray) (maxL : Nat) (ret : Option FieldType) (rm : Room) (av : List Value) (M : hm) (Qc : Array Value → State → Outcome → State → Prop) : Prop :=
  Met l y (.code y cc maxL ret :: wG) rm (va_Pc av (fun U => hPre X M U)) Qc rm.cells rm.slots (hA X)
theorem hblind {X : hX} {M : hm} {av : List Value} : FrameBlind (va_Pc av (fun U => hPre X M U)) := fun a U g mk q => ⟨q.1, q.2.1, q.2.2.1, hK.same q.2.2.2 rfl⟩
section HD
variable {p : Program} {l : Launch} {e : Env} {R : Room} {s : State} {m : MethodId} {args : Array Value} {below : List Frame} {meth : Method} {c : Code} {H : Heap} {locs : List Loc} {cells slots : Nat} {Q : State → Prop}
variable {cc bytes : ByteArray} {pc nL maxL n index ci b : Nat} {ls : Array Slot} {rest st0 As : List Value} {X : hX} {M : hm} {own C : String} {y : MethodName} {ret : Option FieldType} {rm : Room} {Qc : Array Value → State → Outcome → State → Prop}
theorem hpreU (cx : CX X p c cc nL s m args own) (hP : hp X M H) (hS : va_S (hA X) s.heap H locs) {av : List Value} : ∀ U : State, U.heap = H → s.WarmedH U.vm → va_Pc av (fun U => hPre X M U) av.toArray U := fun U hU hW => ⟨rfl, by rw [hU]; exact Nat.le_trans cx.2.2.2.2.2.2 hS.1, by rw [hU]; exact hP, cx.2.2.2.2.2.1.warm hW⟩
theorem k_V (cx : CX X p c cc nL s m args own) (hsz : ls.size = nL) (hP : hp X M H) (hS : va_S (hA X) s.heap H locs) (hM : Ct l X y bytes maxL ret rm (.ref b :: As) M Qc) (ho : isO M b ci = some ()) {T : u_T} {N : Nat} (hc : vwCl[ci]? = some (C, T, N)) (h1 : Cond.code y bytes maxL ret ∈ wG) (h2 : Cond.methodLink own index y ∈ wG) (h3 : Cond.instanceMethod y ∈ wG) (h4 : Cond.selects C y y ∈ wG) (h5 : Cond.initialized C ∈ wG)
    (hd : y.cls = C ∧ y.cls ≠ "java/lang/invoke/MethodHandle" ∧ y.cls ≠ "java/lang/invoke/VarHandle" ∧ (parseMethodDescriptor y.desc).map (fun d => d.parameters.length) = some n) (hR : rm.frames + 1 ≤ R.frames ∧ 8 + (maxL + 11) + rm.locals ≤ R.locals) (hn : As.length = n) (hst : st0 = As.reverse ++ .ref b :: rest) (hw : (rest.map fun v => v.category).sum ≤ 8) (hdg : decode cc pc = .ok (.invokevirtual index, 3)) (hf : cells + rm.cells ≤ R.cells ∧ slots + rm.slots ≤ R.slots) :
    va_Run p l e R s m args below meth c H locs cells slots rm.cells rm.slots (F0 m pc ls st0) rest (Qc (Value.ref b :: As).toArray) (hA X) := by
  obtain ⟨fs, hv0, -⟩ := Option.map_eq_some_iff.mp ho
  subst hst
  exact va_runV ⟨cx.1, cx.2.1, cx.2.2.1, cx.2.2.2.1, cx.2.2.2.2.1⟩ hM (cwV n cx.2.2.2.2.1 (wG_V h1 h2 h3 h4 h5) rfl rfl rfl hd hR) ⟨hblind, va_recv cx.2.2.2.2.2.1.1 (hp_one hP (fO_eq hv0)) hc (q0 := 0) rfl, hpreU cx hP hS⟩ rfl hn hsz rfl (lv_room hw) hdg hf
theorem k_S (cx : CX X p c cc nL s m args own) (hsz : ls.size = nL) (hP : hp X M H) (hS : va_S (hA X) s.heap H locs) (hM : Ct l X y bytes maxL ret rm As M Qc) (h1 : Cond.code y bytes maxL ret ∈ wG) (h2 : Cond.methodLink own index y ∈ wG) (h3 : Cond.static y ∈ wG) (h5 : Cond.initialized y.cls ∈ wG)
    (hd : y.cls ≠ "java/lang/invoke/MethodHandle" ∧ y.cls ≠ "java/lang/invoke/VarHandle" ∧ (parseMethodDescriptor y.desc).map (fun d => d.parameters.length) = some n) (hR : rm.frames + 1 ≤ R.frames ∧ 8 + (maxL + 11) + rm.locals ≤ R.locals) (hn : As.length = n) (hst : st0 = As.reverse ++ rest) (hw : (rest.map fun v => v.category).sum ≤ 8) (hdg : decode cc pc = .ok (.invokestatic index, 3)) (hf : cells + rm.cells ≤ R.cells ∧ slots + rm.slots ≤ R.slots) :
    va_Run p l e R s m args below meth c H locs cells slots rm.cells rm.slots (F0 m pc ls st0) rest (Qc As.toArray) (hA X) := by
  subst hst
  exact va_runS ⟨cx.1, cx.2.1, cx.2.2.1, cx.2.2.2.1, cx.2.2.2.2.1⟩ hM (va_cwS n cx.2.2.2.2.1 (wG_S h1 h2 h3 h5) rfl rfl rfl hd hR) ⟨hblind, hpreU cx hP hS⟩ rfl hn hsz rfl (lv_room hw) hdg hf
theorem k_N (cx : CX X p c cc nL s m args own) (hsz : ls.size = nL) (hP : hp X M H) (hS : va_S (hA X) s.heap H locs) (hM : Ct l X y bytes maxL ret rm As M Qc) (h1 : Cond.code y bytes maxL ret ∈ wG) {host : String} (h2 : va_Nw (.methodLinkNest own index y host) s) (h3 : Cond.static y ∈ wG) (h5 : Cond.initialized y.cls ∈ wG)
    (hd : y.cls ≠ "java/lang/invoke/MethodHandle" ∧ y.cls ≠ "java/lang/invoke/VarHandle" ∧ (parseMethodDescriptor y.desc).map (fun d => d.parameters.length) = some n) (hR : rm.frames + 1 ≤ R.frames ∧ 8 + (maxL + 11) + rm.locals ≤ R.locals) (hn : As.length = n) (hst : st0 = As.reverse ++ rest) (hw : (rest.map fun v => v.category).sum ≤ 8) (hdg : decode cc pc = .ok (.invokestatic index, 3)) (hf : cells + rm.cells ≤ R.cells ∧ slots + rm.slots ≤ R.slots) :
    va_Run p l e R s m args below meth c H locs cells slots rm.cells rm.slots (F0 m pc ls st0) rest (Qc As.toArray) (hA X) := by
  subst hst
  exact va_runSN ⟨cx.1, cx.2.1, cx.2.2.1, cx.2.2.2.1, cx.2.2.2.2.1⟩ hM ⟨va_cnB n cx.2.2.2.2.1 (wG_c h1) rfl rfl rfl h2 (cx.2.2.2.2.1 _ h5) hd hR, cx.2.2.2.2.1 _ h3, trivial⟩ ⟨hblind, hpreU cx hP hS⟩ rfl hn hsz rfl (lv_room hw) hdg hf
theorem k_I (cx : CX X p c cc nL s m args own) (hsz : ls.size = nL) (hP : hp X M H) (hS : va_S (hA X) s.heap H locs) (hM : Ct l X y bytes maxL none rm (.ref b :: As) M Qc) (h1 : Cond.code y bytes maxL none ∈ wG) (h2 : Cond.methodLink own index y ∈ wG) (h3 : Cond.instanceMethod y ∈ wG) (h5 : Cond.initialized y.cls ∈ wG) (hy1 : y.name = "<init>")
    (hd : y.cls ≠ "java/lang/invoke/MethodHandle" ∧ y.cls ≠ "java/lang/invoke/VarHandle" ∧ (parseMethodDescriptor y.desc).map (fun d => d.parameters.length) = some n) (hR : rm.frames + 1 ≤ R.frames ∧ 8 + (maxL + 11) + rm.locals ≤ R.locals) (hn : As.length = n) (hst : st0 = As.reverse ++ .ref b :: rest) (hw : (rest.map fun v => v.category).sum ≤ 8) (hdg : decode cc pc = .ok (.invokespecial index, 3)) (hf : cells + rm.cells ≤ R.cells ∧ slots + rm.slots ≤ R.slots) :
    va_Run p l e R s m args below meth c H locs cells slots rm.cells rm.slots (F0 m pc ls st0) rest (Qc (Value.ref b :: As).toArray) (hA X) := by
  subst hst
  have hts := cx.2.2.2.2.1
  exact va_runI ⟨cx.1, cx.2.1, cx.2.2.1, cx.2.2.2.1, hts⟩ hM (cwI n hts (wG_c h1) rfl rfl rfl (hts _ h5) (hts _ h2) (hts _ h3) hy1 hd hR) ⟨hblind, hpreU cx hP hS⟩ rfl hn hsz rfl (lv_room hw) hdg hf
variable {av : Array Value} {mc ms : Nat}
theorem f_V {Rr : hm} (hr : va_Run p l e R s m args below meth c H locs cells slots mc ms (F0 m pc ls st0) rest (qV X Rr av) (hA X)) (hS : va_S (hA X) s.heap H locs) (kk : ∀ (H1 : Heap) (locs1 : List Loc), hp X Rr H1 → va_S (hA X) s.heap H1 locs1 → W p l e R s m args below meth c H1 locs1 (cells + mc) (slots + ms) Q (F0 m (pc + 3) ls rest)) : W p l e R s m args below meth c H locs cells slots Q (F0 m pc ls st0) :=
  va_callv hr hS (fun q _ h => h) (fun q h => h) (fun u t H1 locs1 ht hvm hw hB _ _ hS1 => by
    cases hw
    rw [ht] at hB
    exact kk H1 locs1 hB hS1)
theorem f_I {Mr : hm} {rr : Int32} (hr : va_Run p l e R s m args below meth c H locs cells slots mc ms (F0 m pc ls st0) rest (qI X (Mr, rr) av) (hA X)) (hS : va_S (hA X) s.heap H locs) (kk : ∀ (H1 : Heap) (locs1 : List Loc), hp X Mr H1 → va_S (hA X) s.heap H1 locs1 → W p l e R s m args below meth c H1 locs1 (cells + mc) (slots + ms) Q (F0 m (pc + 3) ls (.int rr :: rest))) : W p l e R s m args below meth c H locs cells slots Q (F0 m pc ls st0) :=
  va_calli hr hS (fun q _ h => h) (fun q h => h) (fun r u t H1 locs1 ht hvm hw hB _ _ hS1 => by
    cases hw
    rw [ht] at hB
    exact kk H1 locs1 hB hS1)
theorem f_L {Mr : hm} {rr : Int64} (hr : va_Run p l e R s m args below meth c H locs cells slots mc ms (F0 m pc ls st0) rest (qL X (Mr, rr) av) (hA X)) (hS : va_S (hA X) s.heap H locs) (kk : ∀ (H1 : Heap) (locs1 : List Loc), hp X Mr H1 → va_S (hA X) s.heap H1 locs1 → W p l e R s m args below meth c H1 locs1 (cells + mc) (slots + ms) Q (F0 m (pc + 3) ls (.long rr :: rest))) : W p l e R s m args below meth c H locs cells slots Q (F0 m pc ls st0) :=
  va_calll hr hS (fun q _ h => h) (fun q h => h) (fun r u t H1 locs1 ht hvm hw hB _ _ hS1 => by
    cases hw
    rw [ht] at hB
    exact kk H1 locs1 hB hS1)
theorem f_D {Mr : hm} {rr : UInt64} (hr : va_Run p l e R s m args below meth c H locs cells slots mc ms (F0 m pc ls st0) rest (qD X (Mr, rr) av) (hA X)) (hS : va_S (hA X) s.heap H locs) (kk : ∀ (H1 : Heap) (locs1 : List Loc), hp X Mr H1 → va_S (hA X) s.heap H1 locs1 → W p l e R s m args below meth c H1 locs1 (cells + mc) (slots + ms) Q (F0 m (pc + 3) ls (.double rr :: rest))) : W p l e R s m args below meth c H locs cells slots Q (F0 m pc ls st0) :=
  va_calld hr hS (fun q _ h => h) (fun q h => h) (fun r u t H1 locs1 ht hvm hw hB _ _ hS1 => by
    cases hw
    rw [ht] at hB
    exact kk H1 locs1 hB hS1)
theorem f_R {Mr : hm} {rr : Option Nat} (hr : va_Run p l e R s m args below meth c H locs cells slots mc ms (F0 m pc ls st0) rest (qR X (Mr, rr) av) (hA X)) (hS : va_S (hA X) s.heap H locs) (kk : ∀ (H1 : Heap) (locs1 : List Loc), hp X Mr H1 → va_S (hA X) s.heap H1 locs1 → W p l e R s m args below meth c H1 locs1 (cells + mc) (slots + ms) Q (F0 m (pc + 3) ls (va_rf rr :: rest))) : W p l e R s m args below meth c H locs cells slots Q (F0 m pc ls st0) :=
  va_callq hr hS (fun q _ h => h) (fun q h => h) (fun r u t H1 locs1 ht hvm hw hB _ _ hS1 => by
    cases hw
    rw [ht] at hB
    exact kk H1 locs1 hB hS1)
/-- a method's end -/
theorem t_V {Rr : hm} (cx : CX X p c cc nL s m args own) (hr : meth.sig.returnType = none) (hlocks : meth.locks = false) (hP : hp X M H) (hS : va_S (hA X) s.heap H locs) (hR : M = Rr) (h1 : cells ≤ mc) (h2 : slots ≤ ms) (hdg : decode cc pc = .ok (.return_, 1)) : W p l e R s m args below meth c H locs cells slots (MQ below (qV X Rr) args s mc ms (hA X)) (F0 m pc ls []) :=
  W.widen h1 h2 (W.vret cx.1 cx.2.1 hr (fun t ht hW => ⟨⟨M, rfl, hR, by rw [ht]; exact hP⟩, hS.F ht⟩) hS.2.2 hdg hlocks)
theorem t_I {Rr : hm × Int32} {v : Int32} (cx : CX X p c cc nL s m args own) (hr : meth.sig.returnType = some .int) (hlocks : meth.locks = false) (hP : hp X M H) (hS : va_S (hA X) s.heap H locs) (hR : (M, v) = Rr) (h1 : cells ≤ mc) (h2 : slots ≤ ms) (hdg : decode cc pc = .ok (.ireturn, 1)) : W p l e R s m args below meth c H locs cells slots (MQ below (qI X Rr) args s mc ms (hA X)) (F0 m pc ls [.int v]) :=
  W.widen h1 h2 (W.iret cx.1 cx.2.1 hr (fun t ht hW => ⟨⟨v, M, rfl, hR, by rw [ht]; exact hP⟩, hS.F ht⟩) hS.2.2 hdg hlocks)
theorem t_Z {Rr : hm × Int32} {v : Int32} (cx : CX X p c cc nL s m args own) (hr : meth.sig.returnType = some .boolean) (hlocks : meth.locks = false) (hP : hp X M H) (hS : va_S (hA X) s.heap H locs) (hv : v = 0 ∨ v = 1) (hR : (M, v) = Rr) (h1 : cells ≤ mc) (h2 : slots ≤ ms) (hdg : decode cc pc = .ok (.ireturn, 1)) : W p l e R s m args below meth c H locs cells slots (MQ below (qI X Rr) args s mc ms (hA X)) (F0 m pc ls [.int v]) :=
  W.widen h1 h2 (W.zret cx.1 cx.2.1 hr (zb_nar hv).1 (fun t ht hW => ⟨⟨v, M, rfl, hR, by rw [ht]; exact hP⟩, hS.F ht⟩) hS.2.2 hdg hlocks)
theorem t_L {Rr : hm × Int64} {v : Int64} (cx : CX X p c cc nL s m args own) (hr : meth.sig.returnType = some .long) (hlocks : meth.locks = false) (hP : hp X M H) (hS : va_S (hA X) s.heap H locs) (hR : (M, v) = Rr) (h1 : cells ≤ mc) (h2 : slots ≤ ms) (hdg : decode cc pc = .ok (.lreturn, 1)) : W p l e R s m args below meth c H locs cells slots (MQ below (qL X Rr) args s mc ms (hA X)) (F0 m pc ls [.long v]) :=
  W.widen h1 h2 (W.lret cx.1 cx.2.1 hr (fun t ht hW => ⟨⟨v, M, rfl, hR, by rw [ht]; exact hP⟩, hS.F ht⟩) hS.2.2 hdg hlocks)
theorem t_D {Rr : hm × UInt64} {v : UInt64} (cx : CX X p c cc nL s m args own) (hr : meth.sig.returnType = some .double) (hlocks : meth.locks = false) (hP : hp X M H) (hS : va_S (hA X) s.heap H locs) (hR : (M, v) = Rr) (h1 : cells ≤ mc) (h2 : slots ≤ ms) (hdg : decode cc pc = .ok (.dreturn, 1)) : W p l e R s m args below meth c H locs cells slots (MQ below (qD X Rr) args s mc ms (hA X)) (F0 m pc ls [.double v]) :=
  W.widen h1 h2 (W.dret cx.1 cx.2.1 hr (fun t ht hW => ⟨⟨v, M, rfl, hR, by rw [ht]; exact hP⟩, hS.F ht⟩) hS.2.2 hdg hlocks)
theorem t_R {Rr : hm × Option Nat} {v : Option Nat} {ty : String} (cx : CX X p c cc nL s m args own) (hr : meth.sig.returnType = some (.object ty)) (hlocks : meth.locks = false) (hP : hp X M H) (hS : va_S (hA X) s.heap H locs) (hR : (M, v) = Rr) (h1 : cells ≤ mc) (h2 : slots ≤ ms) (hdg : decode cc pc = .ok (.areturn, 1)) : W p l e R s m args below meth c H locs cells slots (MQ below (qR X Rr) args s mc ms (hA X)) (F0 m pc ls [va_rf v]) :=
  W.widen h1 h2 (W.aret cx.1 cx.2.1 hr (Or.inl ⟨ty, rfl⟩) (by cases v with | none => exact Or.inl rfl | some b => exact Or.inr ⟨b, rfl⟩) (fun t ht hW => ⟨⟨v, M, rfl, hR, by rw [ht]; exact hP⟩, hS.F ht⟩) hS.2.2 hdg hlocks)
end HD
/-- a method's entry -/
theorem h_enter {l : Launch} {X : hX} {y : MethodName} {cc : ByteArray} {maxL : Nat} {ret : Option FieldType} {rm : Room} {av : List Value} {M : hm} {Qc : Array Value → State → Outcome → State → Prop} {own : String} (hy : plainName y.cls = true) (ho : y.cls = own) (hlen : (lg_sl av).length ≤ maxL)
    (body : ∀ (p : Program) (e : Env) (s : State) (m : MethodId) (below : List Frame) (meth : Method) (c : Code) (ls : Array Slot), CX X p c cc maxL s m av.toArray own → meth.sig.returnType = ret → meth.locks = false → meth.name = y.name → hp X M s.heap → va_S (hA X) s.heap s.heap [] → lv_has ls maxL (lv_args 0 av) → W p l e rm s m av.toArray below meth c s.heap [] 0 0 (MQ below Qc av.toArray s rm.cells rm.slots (hA X)) (F0 m 0 ls [])) : Ct l X y cc maxL ret rm av M Qc := by
  refine Met.ofW (cc := cc) (maxL := maxL) (ret := ret) hy rfl ?_
  intro p e s m args below meth c s₁ B hml hv
  obtain ⟨rfl, hb, hP, hK⟩ := hv
  have hts := atoms_spec (ws := Cond.code y cc maxL ret :: wG) B.pre
  have hown : s.vm.findClass y.cls = some m.cls := findClass_of_methodNamed B.named
  rw [ho] at hown
  have hl := lv_entry av (n := maxL) hlen
  rw [lg_entry_eq]
  exact body p e s m below meth c _ ⟨B.exec, B.bytes, hml, hown, fun w hw => hts w (List.mem_cons_of_mem _ hw), hK, hb⟩ B.returns B.notSynchronized (name_of_methodNamed B.named B.method).1 hP va_S.rf hl
