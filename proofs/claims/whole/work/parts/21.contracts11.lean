set_option maxHeartbeats 4000000 in
set_option maxRecDepth 100000 in
theorem c_X6_both (l : Launch) (X : hX) (g : Nat) (M : hm) (a0 : Nat) (a1 : Int32) (a2 : UInt64) (a4 : UInt64) (a6 : Int32) (RR : hm) (hj : j_X6_both g M a0 a1 a2 a4 a6 = some RR) : Ct l X yX6_both cX6_both 8 none { frames := 3, cells := 0, slots := 0, locals := 69 } [.ref a0, .int a1, .double a2, .double a4, .int a6] M (qV X RR) := by
  refine h_enter (own := RX6) (by decide) rfl (Nat.le_of_ble_eq_true rfl) ?_
  intro p e s m below meth c ls cx hr hlocks hnm hP hS hl
  have hx := cx.1
  have hb := cx.2.1
  have hl : lv_has ls 8 [(0, .ref a0), (1, .int a1), (2, .double a2), (4, .double a4), (6, .int a6)] := hl
  unfold j_X6_both at hj
  have hgo : ∀ (H : Heap) (locs : List Loc), hp X M H → va_S (hA X) s.heap H locs → W p l e ({ frames := 3, cells := 0, slots := 0, locals := 69 } : Room) s m _ below meth c H locs 0 0 (MQ below (qV X RR) _ s 0 0 (hA X)) (F0 m 0 ls []) := by
    have J_448 : ∀ (M : hm) (H : Heap) (locs : List Loc) (ls : Array Slot), j_X6_both_448 g M = some RR → hp X M H → va_S (hA X) s.heap H locs → lv_has ls 8 [] → W p l e ({ frames := 3, cells := 0, slots := 0, locals := 69 } : Room) s m _ below meth c H locs 0 0 (MQ below (qV X RR) _ s 0 0 (hA X)) (F0 m 448 ls []) := by
      intro M H locs ls hj hP hS hl
      unfold j_X6_both_448 at hj
      exact t_V cx hr hlocks hP hS (Option.some.inj hj) (Nat.le_of_ble_eq_true rfl) (Nat.le_of_ble_eq_true rfl) dX6_both_448
    have J_419 : ∀ (M : hm) (s0 : UInt64) (s1 : Nat) (H : Heap) (locs : List Loc) (ls : Array Slot), j_X6_both_419 g M s0 s1 = some RR → hp X M H → va_S (hA X) s.heap H locs → lv_has ls 8 [] → W p l e ({ frames := 3, cells := 0, slots := 0, locals := 69 } : Room) s m _ below meth c H locs 0 0 (MQ below (qV X RR) _ s 0 0 (hA X)) (F0 m 419 ls [.double s0, .ref s1]) := by
      intro M s0 s1 H locs ls hj hP hS hl
      unfold j_X6_both_419 at hj
      obtain ⟨_, o1, hj⟩ := Option.bind_eq_some_iff.mp hj
      obtain ⟨M2, g_M2, hj⟩ := Option.bind_eq_some_iff.mp hj
      refine f_V (k_V (b := s1) (As := [.double s0]) (n := 1) (rest := []) cx hl.1 hP hS (c_X6_gives l X g M s1 s0 M2 g_M2) o1 rfl mC_X6_gives mM_X6_94 mI_X6_gives mS_X6_gives mZ_X6 (by decide +kernel) ⟨Nat.le_of_ble_eq_true rfl, Nat.le_of_ble_eq_true rfl⟩ rfl rfl (Nat.le_of_ble_eq_true rfl) dX6_both_419 ⟨Nat.le_of_ble_eq_true rfl, Nat.le_of_ble_eq_true rfl⟩) hS (fun H locs hP hS => ?_)
      have hP : hp X M2 H := hP
      refine W.eq (g2 := F0 m 422 ls []) rfl ?_
      refine W.widen (k := 0) (n := 0) (Nat.le_of_ble_eq_true rfl) (Nat.le_of_ble_eq_true rfl) ?_
      refine lv_goto (tgt := 448) hx hb dX6_both_422 (by decide) ?_
      exact J_448 M2 H locs ls hj hP hS (lv_sub hl [] rfl)
    have J_394 : ∀ (M : hm) (s0 : UInt64) (s1 : Nat) (H : Heap) (locs : List Loc) (ls : Array Slot), j_X6_both_394 g M s0 s1 = some RR → hp X M H → va_S (hA X) s.heap H locs → lv_has ls 8 [] → W p l e ({ frames := 3, cells := 0, slots := 0, locals := 69 } : Room) s m _ below meth c H locs 0 0 (MQ below (qV X RR) _ s 0 0 (hA X)) (F0 m 394 ls [.double s0, .ref s1]) := by
      intro M s0 s1 H locs ls hj hP hS hl
      unfold j_X6_both_394 at hj
      obtain ⟨_, o3, hj⟩ := Option.bind_eq_some_iff.mp hj
      obtain ⟨M4, g_M4, hj⟩ := Option.bind_eq_some_iff.mp hj
      refine f_V (k_V (b := s1) (As := [.double s0]) (n := 1) (rest := []) cx hl.1 hP hS (c_X6_gives l X g M s1 s0 M4 g_M4) o3 rfl mC_X6_gives mM_X6_94 mI_X6_gives mS_X6_gives mZ_X6 (by decide +kernel) ⟨Nat.le_of_ble_eq_true rfl, Nat.le_of_ble_eq_true rfl⟩ rfl rfl (Nat.le_of_ble_eq_true rfl) dX6_both_394 ⟨Nat.le_of_ble_eq_true rfl, Nat.le_of_ble_eq_true rfl⟩) hS (fun H locs hP hS => ?_)
      have hP : hp X M4 H := hP
      refine W.eq (g2 := F0 m 397 ls []) rfl ?_
      refine W.widen (k := 0) (n := 0) (Nat.le_of_ble_eq_true rfl) (Nat.le_of_ble_eq_true rfl) ?_
      refine lv_goto (tgt := 448) hx hb dX6_both_397 (by decide) ?_
      exact J_448 M4 H locs ls hj hP hS (lv_sub hl [] rfl)
    have J_372 : ∀ (M : hm) (s0 : UInt64) (s1 : Nat) (H : Heap) (locs : List Loc) (ls : Array Slot), j_X6_both_372 g M s0 s1 = some RR → hp X M H → va_S (hA X) s.heap H locs → lv_has ls 8 [] → W p l e ({ frames := 3, cells := 0, slots := 0, locals := 69 } : Room) s m _ below meth c H locs 0 0 (MQ below (qV X RR) _ s 0 0 (hA X)) (F0 m 372 ls [.double s0, .ref s1]) := by
      intro M s0 s1 H locs ls hj hP hS hl
      unfold j_X6_both_372 at hj
      obtain ⟨_, o5, hj⟩ := Option.bind_eq_some_iff.mp hj
      obtain ⟨M6, g_M6, hj⟩ := Option.bind_eq_some_iff.mp hj
      refine f_V (k_V (b := s1) (As := [.double s0]) (n := 1) (rest := []) cx hl.1 hP hS (c_X6_gives l X g M s1 s0 M6 g_M6) o5 rfl mC_X6_gives mM_X6_94 mI_X6_gives mS_X6_gives mZ_X6 (by decide +kernel) ⟨Nat.le_of_ble_eq_true rfl, Nat.le_of_ble_eq_true rfl⟩ rfl rfl (Nat.le_of_ble_eq_true rfl) dX6_both_372 ⟨Nat.le_of_ble_eq_true rfl, Nat.le_of_ble_eq_true rfl⟩) hS (fun H locs hP hS => ?_)
      have hP : hp X M6 H := hP
      refine W.eq (g2 := F0 m 375 ls []) rfl ?_
      refine W.widen (k := 0) (n := 0) (Nat.le_of_ble_eq_true rfl) (Nat.le_of_ble_eq_true rfl) ?_
      refine lv_goto (tgt := 448) hx hb dX6_both_375 (by decide) ?_
      exact J_448 M6 H locs ls hj hP hS (lv_sub hl [] rfl)
    have J_350 : ∀ (M : hm) (s0 : UInt64) (s1 : Nat) (H : Heap) (locs : List Loc) (ls : Array Slot), j_X6_both_350 g M s0 s1 = some RR → hp X M H → va_S (hA X) s.heap H locs → lv_has ls 8 [] → W p l e ({ frames := 3, cells := 0, slots := 0, locals := 69 } : Room) s m _ below meth c H locs 0 0 (MQ below (qV X RR) _ s 0 0 (hA X)) (F0 m 350 ls [.double s0, .ref s1]) := by
      intro M s0 s1 H locs ls hj hP hS hl
      unfold j_X6_both_350 at hj
      obtain ⟨_, o7, hj⟩ := Option.bind_eq_some_iff.mp hj
      obtain ⟨M8, g_M8, hj⟩ := Option.bind_eq_some_iff.mp hj
      refine f_V (k_V (b := s1) (As := [.double s0]) (n := 1) (rest := []) cx hl.1 hP hS (c_X6_gives l X g M s1 s0 M8 g_M8) o7 rfl mC_X6_gives mM_X6_94 mI_X6_gives mS_X6_gives mZ_X6 (by decide +kernel) ⟨Nat.le_of_ble_eq_true rfl, Nat.le_of_ble_eq_true rfl⟩ rfl rfl (Nat.le_of_ble_eq_true rfl) dX6_both_350 ⟨Nat.le_of_ble_eq_true rfl, Nat.le_of_ble_eq_true rfl⟩) hS (fun H locs hP hS => ?_)
      have hP : hp X M8 H := hP
      refine W.eq (g2 := F0 m 353 ls []) rfl ?_
      refine W.widen (k := 0) (n := 0) (Nat.le_of_ble_eq_true rfl) (Nat.le_of_ble_eq_true rfl) ?_
      refine lv_goto (tgt := 448) hx hb dX6_both_353 (by decide) ?_
      exact J_448 M8 H locs ls hj hP hS (lv_sub hl [] rfl)
    have J_218 : ∀ (M : hm) (p0 : Nat) (p1 : Int32) (p2 : UInt64) (p4 : UInt64) (p6 : Int32) (p7 : Int32) (H : Heap) (locs : List Loc) (ls : Array Slot), j_X6_both_218 g M p0 p1 p2 p4 p6 p7 = some RR → hp X M H → va_S (hA X) s.heap H locs → lv_has ls 8 [(0, .ref p0), (1, .int p1), (2, .double p2), (4, .double p4), (6, .int p6), (7, .int p7)] → W p l e ({ frames := 3, cells := 0, slots := 0, locals := 69 } : Room) s m _ below meth c H locs 0 0 (MQ below (qV X RR) _ s 0 0 (hA X)) (F0 m 218 ls []) := by
      intro M p0 p1 p2 p4 p6 p7 H locs ls hj hP hS hl
      unfold j_X6_both_218 at hj
      refine lv_iload hx hb dX6_both_218 (lv_at hl 5 rfl) ?_
      refine lv_if_eq (tgt := 228) hx hb dX6_both_220 (by decide) (fun c9 => ?_) (fun c9 => ?_)
      · have hj := if_t c9 hj
        refine lv_iload_n hx hb dX6_both_228 rfl (lv_at hl 1 rfl) ?_
        by_cases c10 : p1 = (9 : Int32)
        · have hj := if_t c10 hj
          refine lv_tableIn (off := 47) (tgt := 276) hx hb dX6_both_229 (by rw [c10]; decide) (by rw [c10]; decide) (by rw [c10]; decide) (by decide) ?_
          refine lv_aload_n hx hb dX6_both_276 rfl (lv_at hl 0 rfl) ?_
          refine lv_dload_n hx hb dX6_both_277 rfl (lv_at hl 2 rfl) ?_
          refine lv_dload hx hb dX6_both_278 (lv_at hl 3 rfl) ?_
          refine lv_iload hx hb dX6_both_280 (lv_at hl 4 rfl) ?_
          obtain ⟨v18, g_v18, hj⟩ := Option.bind_eq_some_iff.mp hj
          refine f_D (k_S (As := [.double p2, .double p4, .int p6]) (n := 3) (rest := [.ref p0]) cx hl.1 hP hS (c_X6_sum l X g M p2 p4 p6 v18 g_v18) mC_X6_sum mM_X6_117 mT_X6_sum mZ_X6 (by decide +kernel) ⟨Nat.le_of_ble_eq_true rfl, Nat.le_of_ble_eq_true rfl⟩ rfl rfl (Nat.le_of_ble_eq_true rfl) dX6_both_282 ⟨Nat.le_of_ble_eq_true rfl, Nat.le_of_ble_eq_true rfl⟩) hS (fun H locs hP hS => ?_)
          have hP : hp X M H := hP
          refine W.eq (g2 := F0 m 285 ls [.double v18, .ref p0]) rfl ?_
          refine W.widen (k := 0) (n := 0) (Nat.le_of_ble_eq_true rfl) (Nat.le_of_ble_eq_true rfl) ?_
          obtain ⟨_, o19, hj⟩ := Option.bind_eq_some_iff.mp hj
          obtain ⟨M20, g_M20, hj⟩ := Option.bind_eq_some_iff.mp hj
          refine f_V (k_V (b := p0) (As := [.double v18]) (n := 1) (rest := []) cx hl.1 hP hS (c_X6_gives l X g M p0 v18 M20 g_M20) o19 rfl mC_X6_gives mM_X6_94 mI_X6_gives mS_X6_gives mZ_X6 (by decide +kernel) ⟨Nat.le_of_ble_eq_true rfl, Nat.le_of_ble_eq_true rfl⟩ rfl rfl (Nat.le_of_ble_eq_true rfl) dX6_both_285 ⟨Nat.le_of_ble_eq_true rfl, Nat.le_of_ble_eq_true rfl⟩) hS (fun H locs hP hS => ?_)
          have hP : hp X M20 H := hP
          refine W.eq (g2 := F0 m 288 ls []) rfl ?_
          refine W.widen (k := 0) (n := 0) (Nat.le_of_ble_eq_true rfl) (Nat.le_of_ble_eq_true rfl) ?_
          refine lv_goto (tgt := 448) hx hb dX6_both_288 (by decide) ?_
          exact J_448 M20 H locs ls hj hP hS (lv_sub hl [] rfl)
        have hj := if_f c10 hj
        by_cases c11 : p1 = (10 : Int32)
        · have hj := if_t c11 hj
          refine lv_tableIn (off := 62) (tgt := 291) hx hb dX6_both_229 (by rw [c11]; decide) (by rw [c11]; decide) (by rw [c11]; decide) (by decide) ?_
          refine lv_aload_n hx hb dX6_both_291 rfl (lv_at hl 0 rfl) ?_
          refine lv_dload_n hx hb dX6_both_292 rfl (lv_at hl 2 rfl) ?_
          refine lv_dload hx hb dX6_both_293 (lv_at hl 3 rfl) ?_
          refine lv_iload hx hb dX6_both_295 (lv_at hl 4 rfl) ?_
          obtain ⟨_, o21, hj⟩ := Option.bind_eq_some_iff.mp hj
          obtain ⟨M22, g_M22, hj⟩ := Option.bind_eq_some_iff.mp hj
          refine f_V (k_V (b := p0) (As := [.double p2, .double p4, .int p6]) (n := 3) (rest := []) cx hl.1 hP hS (c_X6_difference l X g M p0 p2 p4 p6 M22 g_M22) o21 rfl mC_X6_difference mM_X6_120 mI_X6_difference mS_X6_difference mZ_X6 (by decide +kernel) ⟨Nat.le_of_ble_eq_true rfl, Nat.le_of_ble_eq_true rfl⟩ rfl rfl (Nat.le_of_ble_eq_true rfl) dX6_both_297 ⟨Nat.le_of_ble_eq_true rfl, Nat.le_of_ble_eq_true rfl⟩) hS (fun H locs hP hS => ?_)
          have hP : hp X M22 H := hP
          refine W.eq (g2 := F0 m 300 ls []) rfl ?_
          refine W.widen (k := 0) (n := 0) (Nat.le_of_ble_eq_true rfl) (Nat.le_of_ble_eq_true rfl) ?_
          refine lv_goto (tgt := 448) hx hb dX6_both_300 (by decide) ?_
          exact J_448 M22 H locs ls hj hP hS (lv_sub hl [] rfl)
        have hj := if_f c11 hj
        by_cases c12 : p1 = (11 : Int32)
        · have hj := if_t c12 hj
          refine lv_tableIn (off := 74) (tgt := 303) hx hb dX6_both_229 (by rw [c12]; decide) (by rw [c12]; decide) (by rw [c12]; decide) (by decide) ?_
          refine lv_aload_n hx hb dX6_both_303 rfl (lv_at hl 0 rfl) ?_
          refine lv_dload_n hx hb dX6_both_304 rfl (lv_at hl 2 rfl) ?_
          refine lv_dload hx hb dX6_both_305 (lv_at hl 3 rfl) ?_
          refine lv_iload hx hb dX6_both_307 (lv_at hl 4 rfl) ?_
          obtain ⟨v23, g_v23, hj⟩ := Option.bind_eq_some_iff.mp hj
          refine f_D (k_S (As := [.double p2, .double p4, .int p6]) (n := 3) (rest := [.ref p0]) cx hl.1 hP hS (c_X6_product l X g M p2 p4 p6 v23 g_v23) mC_X6_product mM_X6_108 mT_X6_product mZ_X6 (by decide +kernel) ⟨Nat.le_of_ble_eq_true rfl, Nat.le_of_ble_eq_true rfl⟩ rfl rfl (Nat.le_of_ble_eq_true rfl) dX6_both_309 ⟨Nat.le_of_ble_eq_true rfl, Nat.le_of_ble_eq_true rfl⟩) hS (fun H locs hP hS => ?_)
          have hP : hp X M H := hP
          refine W.eq (g2 := F0 m 312 ls [.double v23, .ref p0]) rfl ?_
          refine W.widen (k := 0) (n := 0) (Nat.le_of_ble_eq_true rfl) (Nat.le_of_ble_eq_true rfl) ?_
          obtain ⟨_, o24, hj⟩ := Option.bind_eq_some_iff.mp hj
          obtain ⟨M25, g_M25, hj⟩ := Option.bind_eq_some_iff.mp hj
          refine f_V (k_V (b := p0) (As := [.double v23]) (n := 1) (rest := []) cx hl.1 hP hS (c_X6_gives l X g M p0 v23 M25 g_M25) o24 rfl mC_X6_gives mM_X6_94 mI_X6_gives mS_X6_gives mZ_X6 (by decide +kernel) ⟨Nat.le_of_ble_eq_true rfl, Nat.le_of_ble_eq_true rfl⟩ rfl rfl (Nat.le_of_ble_eq_true rfl) dX6_both_312 ⟨Nat.le_of_ble_eq_true rfl, Nat.le_of_ble_eq_true rfl⟩) hS (fun H locs hP hS => ?_)
          have hP : hp X M25 H := hP
          refine W.eq (g2 := F0 m 315 ls []) rfl ?_
          refine W.widen (k := 0) (n := 0) (Nat.le_of_ble_eq_true rfl) (Nat.le_of_ble_eq_true rfl) ?_
          refine lv_goto (tgt := 448) hx hb dX6_both_315 (by decide) ?_
          exact J_448 M25 H locs ls hj hP hS (lv_sub hl [] rfl)
        have hj := if_f c12 hj
        by_cases c13 : p1 = (12 : Int32)
        · have hj := if_t c13 hj
          refine lv_tableIn (off := 89) (tgt := 318) hx hb dX6_both_229 (by rw [c13]; decide) (by rw [c13]; decide) (by rw [c13]; decide) (by decide) ?_
          refine lv_aload_n hx hb dX6_both_318 rfl (lv_at hl 0 rfl) ?_
          refine lv_dload_n hx hb dX6_both_319 rfl (lv_at hl 2 rfl) ?_
          refine lv_dload hx hb dX6_both_320 (lv_at hl 3 rfl) ?_
          refine lv_iload hx hb dX6_both_322 (lv_at hl 4 rfl) ?_
          obtain ⟨v26, g_v26, hj⟩ := Option.bind_eq_some_iff.mp hj
          refine f_D (k_S (As := [.double p2, .double p4, .int p6]) (n := 3) (rest := [.ref p0]) cx hl.1 hP hS (c_X6_quotient l X g M p2 p4 p6 v26 g_v26) mC_X6_quotient mM_X6_104 mT_X6_quotient mZ_X6 (by decide +kernel) ⟨Nat.le_of_ble_eq_true rfl, Nat.le_of_ble_eq_true rfl⟩ rfl rfl (Nat.le_of_ble_eq_true rfl) dX6_both_324 ⟨Nat.le_of_ble_eq_true rfl, Nat.le_of_ble_eq_true rfl⟩) hS (fun H locs hP hS => ?_)
          have hP : hp X M H := hP
          refine W.eq (g2 := F0 m 327 ls [.double v26, .ref p0]) rfl ?_
          refine W.widen (k := 0) (n := 0) (Nat.le_of_ble_eq_true rfl) (Nat.le_of_ble_eq_true rfl) ?_
          obtain ⟨_, o27, hj⟩ := Option.bind_eq_some_iff.mp hj
          obtain ⟨M28, g_M28, hj⟩ := Option.bind_eq_some_iff.mp hj
          refine f_V (k_V (b := p0) (As := [.double v26]) (n := 1) (rest := []) cx hl.1 hP hS (c_X6_gives l X g M p0 v26 M28 g_M28) o27 rfl mC_X6_gives mM_X6_94 mI_X6_gives mS_X6_gives mZ_X6 (by decide +kernel) ⟨Nat.le_of_ble_eq_true rfl, Nat.le_of_ble_eq_true rfl⟩ rfl rfl (Nat.le_of_ble_eq_true rfl) dX6_both_327 ⟨Nat.le_of_ble_eq_true rfl, Nat.le_of_ble_eq_true rfl⟩) hS (fun H locs hP hS => ?_)
          have hP : hp X M28 H := hP
          refine W.eq (g2 := F0 m 330 ls []) rfl ?_
          refine W.widen (k := 0) (n := 0) (Nat.le_of_ble_eq_true rfl) (Nat.le_of_ble_eq_true rfl) ?_
          refine lv_goto (tgt := 448) hx hb dX6_both_330 (by decide) ?_
          exact J_448 M28 H locs ls hj hP hS (lv_sub hl [] rfl)
        have hj := if_f c13 hj
        by_cases c14 : p1 = (13 : Int32)
        · have hj := if_t c14 hj
          refine lv_tableIn (off := 104) (tgt := 333) hx hb dX6_both_229 (by rw [c14]; decide) (by rw [c14]; decide) (by rw [c14]; decide) (by decide) ?_
          refine lv_aload_n hx hb dX6_both_333 rfl (lv_at hl 0 rfl) ?_
          refine lv_dload hx hb dX6_both_334 (lv_at hl 3 rfl) ?_
          obtain ⟨v29, g_v29, hj⟩ := Option.bind_eq_some_iff.mp hj
          refine f_I (k_S (As := [.double p4]) (n := 1) (rest := [.ref p0]) cx hl.1 hP hS (c_X6_isInfinite l X g M p4 v29 g_v29) mC_X6_isInfinite mM_X6_111 mT_X6_isInfinite mZ_X6 (by decide +kernel) ⟨Nat.le_of_ble_eq_true rfl, Nat.le_of_ble_eq_true rfl⟩ rfl rfl (Nat.le_of_ble_eq_true rfl) dX6_both_336 ⟨Nat.le_of_ble_eq_true rfl, Nat.le_of_ble_eq_true rfl⟩) hS (fun H locs hP hS => ?_)
          have hP : hp X M H := hP
          refine W.eq (g2 := F0 m 339 ls [.int v29, .ref p0]) rfl ?_
          refine W.widen (k := 0) (n := 0) (Nat.le_of_ble_eq_true rfl) (Nat.le_of_ble_eq_true rfl) ?_
          refine lv_if_eq (tgt := 346) hx hb dX6_both_339 (by decide) (fun c30 => ?_) (fun c30 => ?_)
          · have hj := if_t c30 hj
            refine lv_dload_n hx hb dX6_both_346 rfl (lv_at hl 2 rfl) ?_
            refine lv_dload hx hb dX6_both_347 (lv_at hl 3 rfl) ?_
            obtain ⟨v31, g_v31, hj⟩ := Option.bind_eq_some_iff.mp hj
            obtain ⟨n_v31, e_v31⟩ := n64_eq g_v31
            refine lv_drem hx hb dX6_both_349 n_v31 ?_
            rw [← e_v31]
            exact J_350 M v31 p0 H locs ls hj hP hS (lv_sub hl [] rfl)
          · have hj := if_f c30 hj
            refine lv_dload_n hx hb dX6_both_342 rfl (lv_at hl 2 rfl) ?_
            refine lv_goto (tgt := 350) hx hb dX6_both_343 (by decide) ?_
            exact J_350 M p2 p0 H locs ls hj hP hS (lv_sub hl [] rfl)
        have hj := if_f c14 hj
        by_cases c15 : p1 = (14 : Int32)
        · have hj := if_t c15 hj
          refine lv_tableIn (off := 127) (tgt := 356) hx hb dX6_both_229 (by rw [c15]; decide) (by rw [c15]; decide) (by rw [c15]; decide) (by decide) ?_
          refine lv_aload_n hx hb dX6_both_356 rfl (lv_at hl 0 rfl) ?_
          refine lv_dload hx hb dX6_both_357 (lv_at hl 3 rfl) ?_
          refine lv_dload_n hx hb dX6_both_359 rfl (lv_at hl 2 rfl) ?_
          obtain ⟨v32, g_v32, hj⟩ := Option.bind_eq_some_iff.mp hj
          refine f_I (k_S (As := [.double p4, .double p2]) (n := 2) (rest := [.ref p0]) cx hl.1 hP hS (c_X6_isLower l X g M p4 p2 v32 g_v32) mC_X6_isLower mM_X6_124 mT_X6_isLower mZ_X6 (by decide +kernel) ⟨Nat.le_of_ble_eq_true rfl, Nat.le_of_ble_eq_true rfl⟩ rfl rfl (Nat.le_of_ble_eq_true rfl) dX6_both_360 ⟨Nat.le_of_ble_eq_true rfl, Nat.le_of_ble_eq_true rfl⟩) hS (fun H locs hP hS => ?_)
          have hP : hp X M H := hP
          refine W.eq (g2 := F0 m 363 ls [.int v32, .ref p0]) rfl ?_
          refine W.widen (k := 0) (n := 0) (Nat.le_of_ble_eq_true rfl) (Nat.le_of_ble_eq_true rfl) ?_
          refine lv_if_eq (tgt := 371) hx hb dX6_both_363 (by decide) (fun c33 => ?_) (fun c33 => ?_)
          · have hj := if_t c33 hj
            refine lv_dload_n hx hb dX6_both_371 rfl (lv_at hl 2 rfl) ?_
            exact J_372 M p2 p0 H locs ls hj hP hS (lv_sub hl [] rfl)
          · have hj := if_f c33 hj
            refine lv_dload hx hb dX6_both_366 (lv_at hl 3 rfl) ?_
            refine lv_goto (tgt := 372) hx hb dX6_both_368 (by decide) ?_
            exact J_372 M p4 p0 H locs ls hj hP hS (lv_sub hl [] rfl)
        have hj := if_f c15 hj
        by_cases c16 : p1 = (15 : Int32)
        · have hj := if_t c16 hj
          refine lv_tableIn (off := 149) (tgt := 378) hx hb dX6_both_229 (by rw [c16]; decide) (by rw [c16]; decide) (by rw [c16]; decide) (by decide) ?_
          refine lv_aload_n hx hb dX6_both_378 rfl (lv_at hl 0 rfl) ?_
          refine lv_dload_n hx hb dX6_both_379 rfl (lv_at hl 2 rfl) ?_
          refine lv_dload hx hb dX6_both_380 (lv_at hl 3 rfl) ?_
          obtain ⟨v34, g_v34, hj⟩ := Option.bind_eq_some_iff.mp hj
          refine f_I (k_S (As := [.double p2, .double p4]) (n := 2) (rest := [.ref p0]) cx hl.1 hP hS (c_X6_isLower l X g M p2 p4 v34 g_v34) mC_X6_isLower mM_X6_124 mT_X6_isLower mZ_X6 (by decide +kernel) ⟨Nat.le_of_ble_eq_true rfl, Nat.le_of_ble_eq_true rfl⟩ rfl rfl (Nat.le_of_ble_eq_true rfl) dX6_both_382 ⟨Nat.le_of_ble_eq_true rfl, Nat.le_of_ble_eq_true rfl⟩) hS (fun H locs hP hS => ?_)
          have hP : hp X M H := hP
          refine W.eq (g2 := F0 m 385 ls [.int v34, .ref p0]) rfl ?_
          refine W.widen (k := 0) (n := 0) (Nat.le_of_ble_eq_true rfl) (Nat.le_of_ble_eq_true rfl) ?_
          refine lv_if_eq (tgt := 393) hx hb dX6_both_385 (by decide) (fun c35 => ?_) (fun c35 => ?_)
          · have hj := if_t c35 hj
            refine lv_dload_n hx hb dX6_both_393 rfl (lv_at hl 2 rfl) ?_
            exact J_394 M p2 p0 H locs ls hj hP hS (lv_sub hl [] rfl)
          · have hj := if_f c35 hj
            refine lv_dload hx hb dX6_both_388 (lv_at hl 3 rfl) ?_
            refine lv_goto (tgt := 394) hx hb dX6_both_390 (by decide) ?_
            exact J_394 M p4 p0 H locs ls hj hP hS (lv_sub hl [] rfl)
        have hj := if_f c16 hj
        by_cases c17 : p1 = (16 : Int32)
        · have hj := if_t c17 hj
          refine lv_tableIn (off := 171) (tgt := 400) hx hb dX6_both_229 (by rw [c17]; decide) (by rw [c17]; decide) (by rw [c17]; decide) (by decide) ?_
          refine lv_aload_n hx hb dX6_both_400 rfl (lv_at hl 0 rfl) ?_
          refine lv_dload_n hx hb dX6_both_401 rfl (lv_at hl 2 rfl) ?_
          obtain ⟨v36, g_v36, hj⟩ := Option.bind_eq_some_iff.mp hj
          refine f_I (k_S (As := [.double p2]) (n := 1) (rest := [.ref p0]) cx hl.1 hP hS (c_X6_hasMinus l X g M p2 v36 g_v36) mC_X6_hasMinus mM_X6_67 mT_X6_hasMinus mZ_X6 (by decide +kernel) ⟨Nat.le_of_ble_eq_true rfl, Nat.le_of_ble_eq_true rfl⟩ rfl rfl (Nat.le_of_ble_eq_true rfl) dX6_both_402 ⟨Nat.le_of_ble_eq_true rfl, Nat.le_of_ble_eq_true rfl⟩) hS (fun H locs hP hS => ?_)
          have hP : hp X M H := hP
          refine W.eq (g2 := F0 m 405 ls [.int v36, .ref p0]) rfl ?_
          refine W.widen (k := 0) (n := 0) (Nat.le_of_ble_eq_true rfl) (Nat.le_of_ble_eq_true rfl) ?_
          refine lv_dload hx hb dX6_both_405 (lv_at hl 3 rfl) ?_
          obtain ⟨v37, g_v37, hj⟩ := Option.bind_eq_some_iff.mp hj
          refine f_I (k_S (As := [.double p4]) (n := 1) (rest := [.int v36, .ref p0]) cx hl.1 hP hS (c_X6_hasMinus l X g M p4 v37 g_v37) mC_X6_hasMinus mM_X6_67 mT_X6_hasMinus mZ_X6 (by decide +kernel) ⟨Nat.le_of_ble_eq_true rfl, Nat.le_of_ble_eq_true rfl⟩ rfl rfl (Nat.le_of_ble_eq_true rfl) dX6_both_407 ⟨Nat.le_of_ble_eq_true rfl, Nat.le_of_ble_eq_true rfl⟩) hS (fun H locs hP hS => ?_)
          have hP : hp X M H := hP
          refine W.eq (g2 := F0 m 410 ls [.int v37, .int v36, .ref p0]) rfl ?_
          refine W.widen (k := 0) (n := 0) (Nat.le_of_ble_eq_true rfl) (Nat.le_of_ble_eq_true rfl) ?_
          refine lv_icmp_ne (tgt := 417) hx hb dX6_both_410 (by decide) (fun c38 => ?_) (fun c38 => ?_)
          · have hj := if_f c38 hj
            refine lv_dload_n hx hb dX6_both_417 rfl (lv_at hl 2 rfl) ?_
            refine lv_dneg hx hb dX6_both_418 ?_
            exact J_419 M (FP.dneg p2) p0 H locs ls hj hP hS (lv_sub hl [] rfl)
          · have hj := if_t c38 hj
            refine lv_dload_n hx hb dX6_both_413 rfl (lv_at hl 2 rfl) ?_
            refine lv_goto (tgt := 419) hx hb dX6_both_414 (by decide) ?_
            exact J_419 M p2 p0 H locs ls hj hP hS (lv_sub hl [] rfl)
        have hj := if_f c17 hj
        have sw : p1.toInt < 9 ∨ 16 < p1.toInt := by
          rcases Int.lt_or_ge p1.toInt 9 with q | q
          · exact Or.inl q
          have q := sw_step q (sw_ne c10 (by decide))
          have q := sw_step q (sw_ne c11 (by decide))
          have q := sw_step q (sw_ne c12 (by decide))
          have q := sw_step q (sw_ne c13 (by decide))
          have q := sw_step q (sw_ne c14 (by decide))
          have q := sw_step q (sw_ne c15 (by decide))
          have q := sw_step q (sw_ne c16 (by decide))
          have q := sw_step q (sw_ne c17 (by decide))
          exact Or.inr (by omega)
        refine lv_tableOut (tgt := 425) hx hb dX6_both_229 sw (by decide) ?_
        refine lv_aload_n hx hb dX6_both_425 rfl (lv_at hl 0 rfl) ?_
        refine lv_dload_n hx hb dX6_both_426 rfl (lv_at hl 2 rfl) ?_
        refine lv_dload hx hb dX6_both_427 (lv_at hl 3 rfl) ?_
        refine lv_iload hx hb dX6_both_429 (lv_at hl 4 rfl) ?_
        obtain ⟨v39, g_v39, hj⟩ := Option.bind_eq_some_iff.mp hj
        refine f_D (k_S (As := [.double p2, .double p4, .int p6]) (n := 3) (rest := [.ref p0]) cx hl.1 hP hS (c_X6_quotient l X g M p2 p4 p6 v39 g_v39) mC_X6_quotient mM_X6_104 mT_X6_quotient mZ_X6 (by decide +kernel) ⟨Nat.le_of_ble_eq_true rfl, Nat.le_of_ble_eq_true rfl⟩ rfl rfl (Nat.le_of_ble_eq_true rfl) dX6_both_431 ⟨Nat.le_of_ble_eq_true rfl, Nat.le_of_ble_eq_true rfl⟩) hS (fun H locs hP hS => ?_)
        have hP : hp X M H := hP
        refine W.eq (g2 := F0 m 434 ls [.double v39, .ref p0]) rfl ?_
        refine W.widen (k := 0) (n := 0) (Nat.le_of_ble_eq_true rfl) (Nat.le_of_ble_eq_true rfl) ?_
        refine lv_iconst (v := 2) hx hb dX6_both_434 (by decide) ?_
        obtain ⟨v40, g_v40, hj⟩ := Option.bind_eq_some_iff.mp hj
        refine f_D (k_S (As := [.double v39, .int (2 : Int32)]) (n := 2) (rest := [.ref p0]) cx hl.1 hP hS (c_X6_whole l X g M v39 (2 : Int32) v40 g_v40) mC_X6_whole mM_X6_98 mT_X6_whole mZ_X6 (by decide +kernel) ⟨Nat.le_of_ble_eq_true rfl, Nat.le_of_ble_eq_true rfl⟩ rfl rfl (Nat.le_of_ble_eq_true rfl) dX6_both_435 ⟨Nat.le_of_ble_eq_true rfl, Nat.le_of_ble_eq_true rfl⟩) hS (fun H locs hP hS => ?_)
        have hP : hp X M H := hP
        refine W.eq (g2 := F0 m 438 ls [.double v40, .ref p0]) rfl ?_
        refine W.widen (k := 0) (n := 0) (Nat.le_of_ble_eq_true rfl) (Nat.le_of_ble_eq_true rfl) ?_
        refine lv_dload hx hb dX6_both_438 (lv_at hl 3 rfl) ?_
        refine lv_iload hx hb dX6_both_440 (lv_at hl 4 rfl) ?_
        obtain ⟨v41, g_v41, hj⟩ := Option.bind_eq_some_iff.mp hj
        refine f_D (k_S (As := [.double v40, .double p4, .int p6]) (n := 3) (rest := [.ref p0]) cx hl.1 hP hS (c_X6_product l X g M v40 p4 p6 v41 g_v41) mC_X6_product mM_X6_108 mT_X6_product mZ_X6 (by decide +kernel) ⟨Nat.le_of_ble_eq_true rfl, Nat.le_of_ble_eq_true rfl⟩ rfl rfl (Nat.le_of_ble_eq_true rfl) dX6_both_442 ⟨Nat.le_of_ble_eq_true rfl, Nat.le_of_ble_eq_true rfl⟩) hS (fun H locs hP hS => ?_)
        have hP : hp X M H := hP
        refine W.eq (g2 := F0 m 445 ls [.double v41, .ref p0]) rfl ?_
        refine W.widen (k := 0) (n := 0) (Nat.le_of_ble_eq_true rfl) (Nat.le_of_ble_eq_true rfl) ?_
        obtain ⟨_, o42, hj⟩ := Option.bind_eq_some_iff.mp hj
        obtain ⟨M43, g_M43, hj⟩ := Option.bind_eq_some_iff.mp hj
        refine f_V (k_V (b := p0) (As := [.double v41]) (n := 1) (rest := []) cx hl.1 hP hS (c_X6_gives l X g M p0 v41 M43 g_M43) o42 rfl mC_X6_gives mM_X6_94 mI_X6_gives mS_X6_gives mZ_X6 (by decide +kernel) ⟨Nat.le_of_ble_eq_true rfl, Nat.le_of_ble_eq_true rfl⟩ rfl rfl (Nat.le_of_ble_eq_true rfl) dX6_both_445 ⟨Nat.le_of_ble_eq_true rfl, Nat.le_of_ble_eq_true rfl⟩) hS (fun H locs hP hS => ?_)
        have hP : hp X M43 H := hP
        refine W.eq (g2 := F0 m 448 ls []) rfl ?_
        refine W.widen (k := 0) (n := 0) (Nat.le_of_ble_eq_true rfl) (Nat.le_of_ble_eq_true rfl) ?_
        exact J_448 M43 H locs ls hj hP hS (lv_sub hl [] rfl)
      · have hj := if_f c9 hj
        refine lv_aload_n hx hb dX6_both_223 rfl (lv_at hl 0 rfl) ?_
        obtain ⟨_, o44, hj⟩ := Option.bind_eq_some_iff.mp hj
        obtain ⟨M45, g_M45, hj⟩ := Option.bind_eq_some_iff.mp hj
        refine f_V (k_V (b := p0) (As := []) (n := 0) (rest := []) cx hl.1 hP hS (c_X6_givesNothing l X g M p0 M45 g_M45) o44 rfl mC_X6_givesNothing mM_X6_114 mI_X6_givesNothing mS_X6_givesNothing mZ_X6 (by decide +kernel) ⟨Nat.le_of_ble_eq_true rfl, Nat.le_of_ble_eq_true rfl⟩ rfl rfl (Nat.le_of_ble_eq_true rfl) dX6_both_224 ⟨Nat.le_of_ble_eq_true rfl, Nat.le_of_ble_eq_true rfl⟩) hS (fun H locs hP hS => ?_)
        have hP : hp X M45 H := hP
        refine W.eq (g2 := F0 m 227 ls []) rfl ?_
        refine W.widen (k := 0) (n := 0) (Nat.le_of_ble_eq_true rfl) (Nat.le_of_ble_eq_true rfl) ?_
        exact t_V cx hr hlocks hP hS (Option.some.inj hj) (Nat.le_of_ble_eq_true rfl) (Nat.le_of_ble_eq_true rfl) dX6_both_227
    have J_210 : ∀ (M : hm) (p0 : Nat) (p1 : Int32) (p2 : UInt64) (p4 : UInt64) (p6 : Int32) (s0 : Int32) (H : Heap) (locs : List Loc) (ls : Array Slot), j_X6_both_210 g M p0 p1 p2 p4 p6 s0 = some RR → hp X M H → va_S (hA X) s.heap H locs → lv_has ls 8 [(0, .ref p0), (1, .int p1), (2, .double p2), (4, .double p4), (6, .int p6)] → W p l e ({ frames := 3, cells := 0, slots := 0, locals := 69 } : Room) s m _ below meth c H locs 0 0 (MQ below (qV X RR) _ s 0 0 (hA X)) (F0 m 210 ls [.int s0]) := by
      intro M p0 p1 p2 p4 p6 s0 H locs ls hj hP hS hl
      unfold j_X6_both_210 at hj
      refine lv_istore (lv' := [(7, .int s0), (0, .ref p0), (1, .int p1), (2, .double p2), (4, .double p4), (6, .int p6)]) hx hb dX6_both_210 hl (by decide) rfl (fun ls hl => ?_)
      refine lv_goto (tgt := 218) hx hb dX6_both_212 (by decide) ?_
      exact J_218 M p0 p1 p2 p4 p6 s0 H locs ls hj hP hS (lv_sub hl [1, 2, 3, 4, 5, 0] rfl)
    have J_205 : ∀ (M : hm) (p0 : Nat) (p1 : Int32) (p2 : UInt64) (p4 : UInt64) (p6 : Int32) (H : Heap) (locs : List Loc) (ls : Array Slot), j_X6_both_205 g M p0 p1 p2 p4 p6 = some RR → hp X M H → va_S (hA X) s.heap H locs → lv_has ls 8 [(0, .ref p0), (1, .int p1), (2, .double p2), (4, .double p4), (6, .int p6)] → W p l e ({ frames := 3, cells := 0, slots := 0, locals := 69 } : Room) s m _ below meth c H locs 0 0 (MQ below (qV X RR) _ s 0 0 (hA X)) (F0 m 205 ls []) := by
      intro M p0 p1 p2 p4 p6 H locs ls hj hP hS hl
      unfold j_X6_both_205 at hj
      refine lv_iconst (v := 1) hx hb dX6_both_205 (by decide) ?_
      refine lv_goto (tgt := 210) hx hb dX6_both_206 (by decide) ?_
      exact J_210 M p0 p1 p2 p4 p6 (1 : Int32) H locs ls hj hP hS (lv_sub hl [0, 1, 2, 3, 4] rfl)
    have J_184 : ∀ (M : hm) (p0 : Nat) (p1 : Int32) (p2 : UInt64) (p4 : UInt64) (p6 : Int32) (s0 : Int32) (H : Heap) (locs : List Loc) (ls : Array Slot), j_X6_both_184 g M p0 p1 p2 p4 p6 s0 = some RR → hp X M H → va_S (hA X) s.heap H locs → lv_has ls 8 [(0, .ref p0), (1, .int p1), (2, .double p2), (4, .double p4), (6, .int p6)] → W p l e ({ frames := 3, cells := 0, slots := 0, locals := 69 } : Room) s m _ below meth c H locs 0 0 (MQ below (qV X RR) _ s 0 0 (hA X)) (F0 m 184 ls [.int s0]) := by
      intro M p0 p1 p2 p4 p6 s0 H locs ls hj hP hS hl
      unfold j_X6_both_184 at hj
      refine lv_istore (lv' := [(7, .int s0), (0, .ref p0), (1, .int p1), (2, .double p2), (4, .double p4), (6, .int p6)]) hx hb dX6_both_184 hl (by decide) rfl (fun ls hl => ?_)
      refine lv_goto (tgt := 218) hx hb dX6_both_186 (by decide) ?_
      exact J_218 M p0 p1 p2 p4 p6 s0 H locs ls hj hP hS (lv_sub hl [1, 2, 3, 4, 5, 0] rfl)
    have J_179 : ∀ (M : hm) (p0 : Nat) (p1 : Int32) (p2 : UInt64) (p4 : UInt64) (p6 : Int32) (H : Heap) (locs : List Loc) (ls : Array Slot), j_X6_both_179 g M p0 p1 p2 p4 p6 = some RR → hp X M H → va_S (hA X) s.heap H locs → lv_has ls 8 [(0, .ref p0), (1, .int p1), (2, .double p2), (4, .double p4), (6, .int p6)] → W p l e ({ frames := 3, cells := 0, slots := 0, locals := 69 } : Room) s m _ below meth c H locs 0 0 (MQ below (qV X RR) _ s 0 0 (hA X)) (F0 m 179 ls []) := by
      intro M p0 p1 p2 p4 p6 H locs ls hj hP hS hl
      unfold j_X6_both_179 at hj
      refine lv_iconst (v := 1) hx hb dX6_both_179 (by decide) ?_
      refine lv_goto (tgt := 184) hx hb dX6_both_180 (by decide) ?_
      exact J_184 M p0 p1 p2 p4 p6 (1 : Int32) H locs ls hj hP hS (lv_sub hl [0, 1, 2, 3, 4] rfl)
    have J_159 : ∀ (M : hm) (p0 : Nat) (p1 : Int32) (p2 : UInt64) (p4 : UInt64) (p6 : Int32) (s0 : Int32) (H : Heap) (locs : List Loc) (ls : Array Slot), j_X6_both_159 g M p0 p1 p2 p4 p6 s0 = some RR → hp X M H → va_S (hA X) s.heap H locs → lv_has ls 8 [(0, .ref p0), (1, .int p1), (2, .double p2), (4, .double p4), (6, .int p6)] → W p l e ({ frames := 3, cells := 0, slots := 0, locals := 69 } : Room) s m _ below meth c H locs 0 0 (MQ below (qV X RR) _ s 0 0 (hA X)) (F0 m 159 ls [.int s0]) := by
      intro M p0 p1 p2 p4 p6 s0 H locs ls hj hP hS hl
      unfold j_X6_both_159 at hj
      refine lv_istore (lv' := [(7, .int s0), (0, .ref p0), (1, .int p1), (2, .double p2), (4, .double p4), (6, .int p6)]) hx hb dX6_both_159 hl (by decide) rfl (fun ls hl => ?_)
      refine lv_goto (tgt := 218) hx hb dX6_both_161 (by decide) ?_
      exact J_218 M p0 p1 p2 p4 p6 s0 H locs ls hj hP hS (lv_sub hl [1, 2, 3, 4, 5, 0] rfl)
    have J_158 : ∀ (M : hm) (p0 : Nat) (p1 : Int32) (p2 : UInt64) (p4 : UInt64) (p6 : Int32) (H : Heap) (locs : List Loc) (ls : Array Slot), j_X6_both_158 g M p0 p1 p2 p4 p6 = some RR → hp X M H → va_S (hA X) s.heap H locs → lv_has ls 8 [(0, .ref p0), (1, .int p1), (2, .double p2), (4, .double p4), (6, .int p6)] → W p l e ({ frames := 3, cells := 0, slots := 0, locals := 69 } : Room) s m _ below meth c H locs 0 0 (MQ below (qV X RR) _ s 0 0 (hA X)) (F0 m 158 ls []) := by
      intro M p0 p1 p2 p4 p6 H locs ls hj hP hS hl
      unfold j_X6_both_158 at hj
      refine lv_iconst (v := 0) hx hb dX6_both_158 (by decide) ?_
      exact J_159 M p0 p1 p2 p4 p6 (0 : Int32) H locs ls hj hP hS (lv_sub hl [0, 1, 2, 3, 4] rfl)
    have J_154 : ∀ (M : hm) (p0 : Nat) (p1 : Int32) (p2 : UInt64) (p4 : UInt64) (p6 : Int32) (H : Heap) (locs : List Loc) (ls : Array Slot), j_X6_both_154 g M p0 p1 p2 p4 p6 = some RR → hp X M H → va_S (hA X) s.heap H locs → lv_has ls 8 [(0, .ref p0), (1, .int p1), (2, .double p2), (4, .double p4), (6, .int p6)] → W p l e ({ frames := 3, cells := 0, slots := 0, locals := 69 } : Room) s m _ below meth c H locs 0 0 (MQ below (qV X RR) _ s 0 0 (hA X)) (F0 m 154 ls []) := by
      intro M p0 p1 p2 p4 p6 H locs ls hj hP hS hl
      unfold j_X6_both_154 at hj
      refine lv_iconst (v := 1) hx hb dX6_both_154 (by decide) ?_
      refine lv_goto (tgt := 159) hx hb dX6_both_155 (by decide) ?_
      exact J_159 M p0 p1 p2 p4 p6 (1 : Int32) H locs ls hj hP hS (lv_sub hl [0, 1, 2, 3, 4] rfl)
    have J_139 : ∀ (M : hm) (p0 : Nat) (p1 : Int32) (p2 : UInt64) (p4 : UInt64) (p6 : Int32) (H : Heap) (locs : List Loc) (ls : Array Slot), j_X6_both_139 g M p0 p1 p2 p4 p6 = some RR → hp X M H → va_S (hA X) s.heap H locs → lv_has ls 8 [(0, .ref p0), (1, .int p1), (2, .double p2), (4, .double p4), (6, .int p6)] → W p l e ({ frames := 3, cells := 0, slots := 0, locals := 69 } : Room) s m _ below meth c H locs 0 0 (MQ below (qV X RR) _ s 0 0 (hA X)) (F0 m 139 ls []) := by
      intro M p0 p1 p2 p4 p6 H locs ls hj hP hS hl
      unfold j_X6_both_139 at hj
      refine lv_dload_n hx hb dX6_both_139 rfl (lv_at hl 2 rfl) ?_
      obtain ⟨v46, g_v46, hj⟩ := Option.bind_eq_some_iff.mp hj
      refine f_I (k_S (As := [.double p2]) (n := 1) (rest := []) cx hl.1 hP hS (c_X6_isInfinite l X g M p2 v46 g_v46) mC_X6_isInfinite mM_X6_111 mT_X6_isInfinite mZ_X6 (by decide +kernel) ⟨Nat.le_of_ble_eq_true rfl, Nat.le_of_ble_eq_true rfl⟩ rfl rfl (Nat.le_of_ble_eq_true rfl) dX6_both_140 ⟨Nat.le_of_ble_eq_true rfl, Nat.le_of_ble_eq_true rfl⟩) hS (fun H locs hP hS => ?_)
      have hP : hp X M H := hP
      refine W.eq (g2 := F0 m 143 ls [.int v46]) rfl ?_
      refine W.widen (k := 0) (n := 0) (Nat.le_of_ble_eq_true rfl) (Nat.le_of_ble_eq_true rfl) ?_
      refine lv_if_eq (tgt := 158) hx hb dX6_both_143 (by decide) (fun c47 => ?_) (fun c47 => ?_)
      · have hj := if_t c47 hj
        exact J_158 M p0 p1 p2 p4 p6 H locs ls hj hP hS (lv_sub hl [0, 1, 2, 3, 4] rfl)
      · have hj := if_f c47 hj
        refine lv_dload hx hb dX6_both_146 (lv_at hl 3 rfl) ?_
        obtain ⟨v48, g_v48, hj⟩ := Option.bind_eq_some_iff.mp hj
        refine f_I (k_S (As := [.double p4]) (n := 1) (rest := []) cx hl.1 hP hS (c_X6_isInfinite l X g M p4 v48 g_v48) mC_X6_isInfinite mM_X6_111 mT_X6_isInfinite mZ_X6 (by decide +kernel) ⟨Nat.le_of_ble_eq_true rfl, Nat.le_of_ble_eq_true rfl⟩ rfl rfl (Nat.le_of_ble_eq_true rfl) dX6_both_148 ⟨Nat.le_of_ble_eq_true rfl, Nat.le_of_ble_eq_true rfl⟩) hS (fun H locs hP hS => ?_)
        have hP : hp X M H := hP
        refine W.eq (g2 := F0 m 151 ls [.int v48]) rfl ?_
        refine W.widen (k := 0) (n := 0) (Nat.le_of_ble_eq_true rfl) (Nat.le_of_ble_eq_true rfl) ?_
        refine lv_if_eq (tgt := 158) hx hb dX6_both_151 (by decide) (fun c49 => ?_) (fun c49 => ?_)
        · have hj := if_t c49 hj
          exact J_158 M p0 p1 p2 p4 p6 H locs ls hj hP hS (lv_sub hl [0, 1, 2, 3, 4] rfl)
        · have hj := if_f c49 hj
          exact J_154 M p0 p1 p2 p4 p6 H locs ls hj hP hS (lv_sub hl [0, 1, 2, 3, 4] rfl)
    have J_119 : ∀ (M : hm) (p0 : Nat) (p1 : Int32) (p2 : UInt64) (p4 : UInt64) (p6 : Int32) (s0 : Int32) (H : Heap) (locs : List Loc) (ls : Array Slot), j_X6_both_119 g M p0 p1 p2 p4 p6 s0 = some RR → hp X M H → va_S (hA X) s.heap H locs → lv_has ls 8 [(0, .ref p0), (1, .int p1), (2, .double p2), (4, .double p4), (6, .int p6)] → W p l e ({ frames := 3, cells := 0, slots := 0, locals := 69 } : Room) s m _ below meth c H locs 0 0 (MQ below (qV X RR) _ s 0 0 (hA X)) (F0 m 119 ls [.int s0]) := by
      intro M p0 p1 p2 p4 p6 s0 H locs ls hj hP hS hl
      unfold j_X6_both_119 at hj
      refine lv_istore (lv' := [(7, .int s0), (0, .ref p0), (1, .int p1), (2, .double p2), (4, .double p4), (6, .int p6)]) hx hb dX6_both_119 hl (by decide) rfl (fun ls hl => ?_)
      refine lv_goto (tgt := 218) hx hb dX6_both_121 (by decide) ?_
      exact J_218 M p0 p1 p2 p4 p6 s0 H locs ls hj hP hS (lv_sub hl [1, 2, 3, 4, 5, 0] rfl)
    have J_118 : ∀ (M : hm) (p0 : Nat) (p1 : Int32) (p2 : UInt64) (p4 : UInt64) (p6 : Int32) (H : Heap) (locs : List Loc) (ls : Array Slot), j_X6_both_118 g M p0 p1 p2 p4 p6 = some RR → hp X M H → va_S (hA X) s.heap H locs → lv_has ls 8 [(0, .ref p0), (1, .int p1), (2, .double p2), (4, .double p4), (6, .int p6)] → W p l e ({ frames := 3, cells := 0, slots := 0, locals := 69 } : Room) s m _ below meth c H locs 0 0 (MQ below (qV X RR) _ s 0 0 (hA X)) (F0 m 118 ls []) := by
      intro M p0 p1 p2 p4 p6 H locs ls hj hP hS hl
      unfold j_X6_both_118 at hj
      refine lv_iconst (v := 0) hx hb dX6_both_118 (by decide) ?_
      exact J_119 M p0 p1 p2 p4 p6 (0 : Int32) H locs ls hj hP hS (lv_sub hl [0, 1, 2, 3, 4] rfl)
    have J_114 : ∀ (M : hm) (p0 : Nat) (p1 : Int32) (p2 : UInt64) (p4 : UInt64) (p6 : Int32) (H : Heap) (locs : List Loc) (ls : Array Slot), j_X6_both_114 g M p0 p1 p2 p4 p6 = some RR → hp X M H → va_S (hA X) s.heap H locs → lv_has ls 8 [(0, .ref p0), (1, .int p1), (2, .double p2), (4, .double p4), (6, .int p6)] → W p l e ({ frames := 3, cells := 0, slots := 0, locals := 69 } : Room) s m _ below meth c H locs 0 0 (MQ below (qV X RR) _ s 0 0 (hA X)) (F0 m 114 ls []) := by
      intro M p0 p1 p2 p4 p6 H locs ls hj hP hS hl
      unfold j_X6_both_114 at hj
      refine lv_iconst (v := 1) hx hb dX6_both_114 (by decide) ?_
      refine lv_goto (tgt := 119) hx hb dX6_both_115 (by decide) ?_
      exact J_119 M p0 p1 p2 p4 p6 (1 : Int32) H locs ls hj hP hS (lv_sub hl [0, 1, 2, 3, 4] rfl)
    have J_99 : ∀ (M : hm) (p0 : Nat) (p1 : Int32) (p2 : UInt64) (p4 : UInt64) (p6 : Int32) (H : Heap) (locs : List Loc) (ls : Array Slot), j_X6_both_99 g M p0 p1 p2 p4 p6 = some RR → hp X M H → va_S (hA X) s.heap H locs → lv_has ls 8 [(0, .ref p0), (1, .int p1), (2, .double p2), (4, .double p4), (6, .int p6)] → W p l e ({ frames := 3, cells := 0, slots := 0, locals := 69 } : Room) s m _ below meth c H locs 0 0 (MQ below (qV X RR) _ s 0 0 (hA X)) (F0 m 99 ls []) := by
      intro M p0 p1 p2 p4 p6 H locs ls hj hP hS hl
      unfold j_X6_both_99 at hj
      refine lv_dload_n hx hb dX6_both_99 rfl (lv_at hl 2 rfl) ?_
      obtain ⟨v50, g_v50, hj⟩ := Option.bind_eq_some_iff.mp hj
      refine f_I (k_S (As := [.double p2]) (n := 1) (rest := []) cx hl.1 hP hS (c_X6_isInfinite l X g M p2 v50 g_v50) mC_X6_isInfinite mM_X6_111 mT_X6_isInfinite mZ_X6 (by decide +kernel) ⟨Nat.le_of_ble_eq_true rfl, Nat.le_of_ble_eq_true rfl⟩ rfl rfl (Nat.le_of_ble_eq_true rfl) dX6_both_100 ⟨Nat.le_of_ble_eq_true rfl, Nat.le_of_ble_eq_true rfl⟩) hS (fun H locs hP hS => ?_)
      have hP : hp X M H := hP
      refine W.eq (g2 := F0 m 103 ls [.int v50]) rfl ?_
      refine W.widen (k := 0) (n := 0) (Nat.le_of_ble_eq_true rfl) (Nat.le_of_ble_eq_true rfl) ?_
      refine lv_if_eq (tgt := 118) hx hb dX6_both_103 (by decide) (fun c51 => ?_) (fun c51 => ?_)
      · have hj := if_t c51 hj
        exact J_118 M p0 p1 p2 p4 p6 H locs ls hj hP hS (lv_sub hl [0, 1, 2, 3, 4] rfl)
      · have hj := if_f c51 hj
        refine lv_dload hx hb dX6_both_106 (lv_at hl 3 rfl) ?_
        obtain ⟨v52, g_v52, hj⟩ := Option.bind_eq_some_iff.mp hj
        refine f_I (k_S (As := [.double p4]) (n := 1) (rest := []) cx hl.1 hP hS (c_X6_isZero l X g M p4 v52 g_v52) mC_X6_isZero mM_X6_61 mT_X6_isZero mZ_X6 (by decide +kernel) ⟨Nat.le_of_ble_eq_true rfl, Nat.le_of_ble_eq_true rfl⟩ rfl rfl (Nat.le_of_ble_eq_true rfl) dX6_both_108 ⟨Nat.le_of_ble_eq_true rfl, Nat.le_of_ble_eq_true rfl⟩) hS (fun H locs hP hS => ?_)
        have hP : hp X M H := hP
        refine W.eq (g2 := F0 m 111 ls [.int v52]) rfl ?_
        refine W.widen (k := 0) (n := 0) (Nat.le_of_ble_eq_true rfl) (Nat.le_of_ble_eq_true rfl) ?_
        refine lv_if_eq (tgt := 118) hx hb dX6_both_111 (by decide) (fun c53 => ?_) (fun c53 => ?_)
        · have hj := if_t c53 hj
          exact J_118 M p0 p1 p2 p4 p6 H locs ls hj hP hS (lv_sub hl [0, 1, 2, 3, 4] rfl)
        · have hj := if_f c53 hj
          exact J_114 M p0 p1 p2 p4 p6 H locs ls hj hP hS (lv_sub hl [0, 1, 2, 3, 4] rfl)
    have J_79 : ∀ (M : hm) (p0 : Nat) (p1 : Int32) (p2 : UInt64) (p4 : UInt64) (p6 : Int32) (s0 : Int32) (H : Heap) (locs : List Loc) (ls : Array Slot), j_X6_both_79 g M p0 p1 p2 p4 p6 s0 = some RR → hp X M H → va_S (hA X) s.heap H locs → lv_has ls 8 [(0, .ref p0), (1, .int p1), (2, .double p2), (4, .double p4), (6, .int p6)] → W p l e ({ frames := 3, cells := 0, slots := 0, locals := 69 } : Room) s m _ below meth c H locs 0 0 (MQ below (qV X RR) _ s 0 0 (hA X)) (F0 m 79 ls [.int s0]) := by
      intro M p0 p1 p2 p4 p6 s0 H locs ls hj hP hS hl
      unfold j_X6_both_79 at hj
      refine lv_istore (lv' := [(7, .int s0), (0, .ref p0), (1, .int p1), (2, .double p2), (4, .double p4), (6, .int p6)]) hx hb dX6_both_79 hl (by decide) rfl (fun ls hl => ?_)
      refine lv_goto (tgt := 218) hx hb dX6_both_81 (by decide) ?_
      exact J_218 M p0 p1 p2 p4 p6 s0 H locs ls hj hP hS (lv_sub hl [1, 2, 3, 4, 5, 0] rfl)
    have J_78 : ∀ (M : hm) (p0 : Nat) (p1 : Int32) (p2 : UInt64) (p4 : UInt64) (p6 : Int32) (H : Heap) (locs : List Loc) (ls : Array Slot), j_X6_both_78 g M p0 p1 p2 p4 p6 = some RR → hp X M H → va_S (hA X) s.heap H locs → lv_has ls 8 [(0, .ref p0), (1, .int p1), (2, .double p2), (4, .double p4), (6, .int p6)] → W p l e ({ frames := 3, cells := 0, slots := 0, locals := 69 } : Room) s m _ below meth c H locs 0 0 (MQ below (qV X RR) _ s 0 0 (hA X)) (F0 m 78 ls []) := by
      intro M p0 p1 p2 p4 p6 H locs ls hj hP hS hl
      unfold j_X6_both_78 at hj
      refine lv_iconst (v := 0) hx hb dX6_both_78 (by decide) ?_
      exact J_79 M p0 p1 p2 p4 p6 (0 : Int32) H locs ls hj hP hS (lv_sub hl [0, 1, 2, 3, 4] rfl)
    intro H locs hP hS
    refine lv_iload_n hx hb dX6_both_0 rfl (lv_at hl 1 rfl) ?_
    by_cases c54 : a1 = (9 : Int32)
    · have hj := if_t c54 hj
      refine lv_lookup (off := 51) (tgt := 52) hx hb dX6_both_1 (by decide) (by rw [c54]; decide) (by decide) ?_
      refine lv_dload_n hx hb dX6_both_52 rfl (lv_at hl 2 rfl) ?_
      obtain ⟨v59, g_v59, hj⟩ := Option.bind_eq_some_iff.mp hj
      refine f_I (k_S (As := [.double a2]) (n := 1) (rest := []) cx hl.1 hP hS (c_X6_isInfinite l X g M a2 v59 g_v59) mC_X6_isInfinite mM_X6_111 mT_X6_isInfinite mZ_X6 (by decide +kernel) ⟨Nat.le_of_ble_eq_true rfl, Nat.le_of_ble_eq_true rfl⟩ rfl rfl (Nat.le_of_ble_eq_true rfl) dX6_both_53 ⟨Nat.le_of_ble_eq_true rfl, Nat.le_of_ble_eq_true rfl⟩) hS (fun H locs hP hS => ?_)
      have hP : hp X M H := hP
      refine W.eq (g2 := F0 m 56 ls [.int v59]) rfl ?_
      refine W.widen (k := 0) (n := 0) (Nat.le_of_ble_eq_true rfl) (Nat.le_of_ble_eq_true rfl) ?_
      refine lv_if_eq (tgt := 78) hx hb dX6_both_56 (by decide) (fun c60 => ?_) (fun c60 => ?_)
      · have hj := if_t c60 hj
        exact J_78 M a0 a1 a2 a4 a6 H locs ls hj hP hS (lv_sub hl [0, 1, 2, 3, 4] rfl)
      · have hj := if_f c60 hj
        refine lv_dload hx hb dX6_both_59 (lv_at hl 3 rfl) ?_
        obtain ⟨v61, g_v61, hj⟩ := Option.bind_eq_some_iff.mp hj
        refine f_I (k_S (As := [.double a4]) (n := 1) (rest := []) cx hl.1 hP hS (c_X6_isInfinite l X g M a4 v61 g_v61) mC_X6_isInfinite mM_X6_111 mT_X6_isInfinite mZ_X6 (by decide +kernel) ⟨Nat.le_of_ble_eq_true rfl, Nat.le_of_ble_eq_true rfl⟩ rfl rfl (Nat.le_of_ble_eq_true rfl) dX6_both_61 ⟨Nat.le_of_ble_eq_true rfl, Nat.le_of_ble_eq_true rfl⟩) hS (fun H locs hP hS => ?_)
        have hP : hp X M H := hP
        refine W.eq (g2 := F0 m 64 ls [.int v61]) rfl ?_
        refine W.widen (k := 0) (n := 0) (Nat.le_of_ble_eq_true rfl) (Nat.le_of_ble_eq_true rfl) ?_
        refine lv_if_eq (tgt := 78) hx hb dX6_both_64 (by decide) (fun c62 => ?_) (fun c62 => ?_)
        · have hj := if_t c62 hj
          exact J_78 M a0 a1 a2 a4 a6 H locs ls hj hP hS (lv_sub hl [0, 1, 2, 3, 4] rfl)
        · have hj := if_f c62 hj
          refine lv_dload_n hx hb dX6_both_67 rfl (lv_at hl 2 rfl) ?_
          refine lv_dload hx hb dX6_both_68 (lv_at hl 3 rfl) ?_
          refine lv_dcmp hx hb dX6_both_70 ?_
          refine lv_if_eq (tgt := 78) hx hb dX6_both_71 (by decide) (fun c63 => ?_) (fun c63 => ?_)
          · have hj := if_t c63 hj
            exact J_78 M a0 a1 a2 a4 a6 H locs ls hj hP hS (lv_sub hl [0, 1, 2, 3, 4] rfl)
          · have hj := if_f c63 hj
            refine lv_iconst (v := 1) hx hb dX6_both_74 (by decide) ?_
            refine lv_goto (tgt := 79) hx hb dX6_both_75 (by decide) ?_
            exact J_79 M a0 a1 a2 a4 a6 (1 : Int32) H locs ls hj hP hS (lv_sub hl [0, 1, 2, 3, 4] rfl)
    have hj := if_f c54 hj
    by_cases c55 : a1 = (11 : Int32)
    · have hj := if_t c55 hj
      refine lv_lookup (off := 83) (tgt := 84) hx hb dX6_both_1 (by decide) (by rw [c55]; decide) (by decide) ?_
      refine lv_dload_n hx hb dX6_both_84 rfl (lv_at hl 2 rfl) ?_
      obtain ⟨v64, g_v64, hj⟩ := Option.bind_eq_some_iff.mp hj
      refine f_I (k_S (As := [.double a2]) (n := 1) (rest := []) cx hl.1 hP hS (c_X6_isZero l X g M a2 v64 g_v64) mC_X6_isZero mM_X6_61 mT_X6_isZero mZ_X6 (by decide +kernel) ⟨Nat.le_of_ble_eq_true rfl, Nat.le_of_ble_eq_true rfl⟩ rfl rfl (Nat.le_of_ble_eq_true rfl) dX6_both_85 ⟨Nat.le_of_ble_eq_true rfl, Nat.le_of_ble_eq_true rfl⟩) hS (fun H locs hP hS => ?_)
      have hP : hp X M H := hP
      refine W.eq (g2 := F0 m 88 ls [.int v64]) rfl ?_
      refine W.widen (k := 0) (n := 0) (Nat.le_of_ble_eq_true rfl) (Nat.le_of_ble_eq_true rfl) ?_
      refine lv_if_eq (tgt := 99) hx hb dX6_both_88 (by decide) (fun c65 => ?_) (fun c65 => ?_)
      · have hj := if_t c65 hj
        exact J_99 M a0 a1 a2 a4 a6 H locs ls hj hP hS (lv_sub hl [0, 1, 2, 3, 4] rfl)
      · have hj := if_f c65 hj
        refine lv_dload hx hb dX6_both_91 (lv_at hl 3 rfl) ?_
        obtain ⟨v66, g_v66, hj⟩ := Option.bind_eq_some_iff.mp hj
        refine f_I (k_S (As := [.double a4]) (n := 1) (rest := []) cx hl.1 hP hS (c_X6_isInfinite l X g M a4 v66 g_v66) mC_X6_isInfinite mM_X6_111 mT_X6_isInfinite mZ_X6 (by decide +kernel) ⟨Nat.le_of_ble_eq_true rfl, Nat.le_of_ble_eq_true rfl⟩ rfl rfl (Nat.le_of_ble_eq_true rfl) dX6_both_93 ⟨Nat.le_of_ble_eq_true rfl, Nat.le_of_ble_eq_true rfl⟩) hS (fun H locs hP hS => ?_)
        have hP : hp X M H := hP
        refine W.eq (g2 := F0 m 96 ls [.int v66]) rfl ?_
        refine W.widen (k := 0) (n := 0) (Nat.le_of_ble_eq_true rfl) (Nat.le_of_ble_eq_true rfl) ?_
        refine lv_if_ne (tgt := 114) hx hb dX6_both_96 (by decide) (fun c67 => ?_) (fun c67 => ?_)
        · have hj := if_f c67 hj
          exact J_114 M a0 a1 a2 a4 a6 H locs ls hj hP hS (lv_sub hl [0, 1, 2, 3, 4] rfl)
        · have hj := if_t c67 hj
          exact J_99 M a0 a1 a2 a4 a6 H locs ls hj hP hS (lv_sub hl [0, 1, 2, 3, 4] rfl)
    have hj := if_f c55 hj
    by_cases c56 : a1 = (12 : Int32)
    · have hj := if_t c56 hj
      refine lv_lookup (off := 123) (tgt := 124) hx hb dX6_both_1 (by decide) (by rw [c56]; decide) (by decide) ?_
      refine lv_dload_n hx hb dX6_both_124 rfl (lv_at hl 2 rfl) ?_
      obtain ⟨v68, g_v68, hj⟩ := Option.bind_eq_some_iff.mp hj
      refine f_I (k_S (As := [.double a2]) (n := 1) (rest := []) cx hl.1 hP hS (c_X6_isZero l X g M a2 v68 g_v68) mC_X6_isZero mM_X6_61 mT_X6_isZero mZ_X6 (by decide +kernel) ⟨Nat.le_of_ble_eq_true rfl, Nat.le_of_ble_eq_true rfl⟩ rfl rfl (Nat.le_of_ble_eq_true rfl) dX6_both_125 ⟨Nat.le_of_ble_eq_true rfl, Nat.le_of_ble_eq_true rfl⟩) hS (fun H locs hP hS => ?_)
      have hP : hp X M H := hP
      refine W.eq (g2 := F0 m 128 ls [.int v68]) rfl ?_
      refine W.widen (k := 0) (n := 0) (Nat.le_of_ble_eq_true rfl) (Nat.le_of_ble_eq_true rfl) ?_
      refine lv_if_eq (tgt := 139) hx hb dX6_both_128 (by decide) (fun c69 => ?_) (fun c69 => ?_)
      · have hj := if_t c69 hj
        exact J_139 M a0 a1 a2 a4 a6 H locs ls hj hP hS (lv_sub hl [0, 1, 2, 3, 4] rfl)
      · have hj := if_f c69 hj
        refine lv_dload hx hb dX6_both_131 (lv_at hl 3 rfl) ?_
        obtain ⟨v70, g_v70, hj⟩ := Option.bind_eq_some_iff.mp hj
        refine f_I (k_S (As := [.double a4]) (n := 1) (rest := []) cx hl.1 hP hS (c_X6_isZero l X g M a4 v70 g_v70) mC_X6_isZero mM_X6_61 mT_X6_isZero mZ_X6 (by decide +kernel) ⟨Nat.le_of_ble_eq_true rfl, Nat.le_of_ble_eq_true rfl⟩ rfl rfl (Nat.le_of_ble_eq_true rfl) dX6_both_133 ⟨Nat.le_of_ble_eq_true rfl, Nat.le_of_ble_eq_true rfl⟩) hS (fun H locs hP hS => ?_)
        have hP : hp X M H := hP
        refine W.eq (g2 := F0 m 136 ls [.int v70]) rfl ?_
        refine W.widen (k := 0) (n := 0) (Nat.le_of_ble_eq_true rfl) (Nat.le_of_ble_eq_true rfl) ?_
        refine lv_if_ne (tgt := 154) hx hb dX6_both_136 (by decide) (fun c71 => ?_) (fun c71 => ?_)
        · have hj := if_f c71 hj
          exact J_154 M a0 a1 a2 a4 a6 H locs ls hj hP hS (lv_sub hl [0, 1, 2, 3, 4] rfl)
        · have hj := if_t c71 hj
          exact J_139 M a0 a1 a2 a4 a6 H locs ls hj hP hS (lv_sub hl [0, 1, 2, 3, 4] rfl)
    have hj := if_f c56 hj
    by_cases c57 : a1 = (13 : Int32)
    · have hj := if_t c57 hj
      refine lv_lookup (off := 163) (tgt := 164) hx hb dX6_both_1 (by decide) (by rw [c57]; decide) (by decide) ?_
      refine lv_dload hx hb dX6_both_164 (lv_at hl 3 rfl) ?_
      obtain ⟨v72, g_v72, hj⟩ := Option.bind_eq_some_iff.mp hj
      refine f_I (k_S (As := [.double a4]) (n := 1) (rest := []) cx hl.1 hP hS (c_X6_isZero l X g M a4 v72 g_v72) mC_X6_isZero mM_X6_61 mT_X6_isZero mZ_X6 (by decide +kernel) ⟨Nat.le_of_ble_eq_true rfl, Nat.le_of_ble_eq_true rfl⟩ rfl rfl (Nat.le_of_ble_eq_true rfl) dX6_both_166 ⟨Nat.le_of_ble_eq_true rfl, Nat.le_of_ble_eq_true rfl⟩) hS (fun H locs hP hS => ?_)
      have hP : hp X M H := hP
      refine W.eq (g2 := F0 m 169 ls [.int v72]) rfl ?_
      refine W.widen (k := 0) (n := 0) (Nat.le_of_ble_eq_true rfl) (Nat.le_of_ble_eq_true rfl) ?_
      refine lv_if_ne (tgt := 179) hx hb dX6_both_169 (by decide) (fun c73 => ?_) (fun c73 => ?_)
      · have hj := if_f c73 hj
        exact J_179 M a0 a1 a2 a4 a6 H locs ls hj hP hS (lv_sub hl [0, 1, 2, 3, 4] rfl)
      · have hj := if_t c73 hj
        refine lv_dload_n hx hb dX6_both_172 rfl (lv_at hl 2 rfl) ?_
        obtain ⟨v74, g_v74, hj⟩ := Option.bind_eq_some_iff.mp hj
        refine f_I (k_S (As := [.double a2]) (n := 1) (rest := []) cx hl.1 hP hS (c_X6_isInfinite l X g M a2 v74 g_v74) mC_X6_isInfinite mM_X6_111 mT_X6_isInfinite mZ_X6 (by decide +kernel) ⟨Nat.le_of_ble_eq_true rfl, Nat.le_of_ble_eq_true rfl⟩ rfl rfl (Nat.le_of_ble_eq_true rfl) dX6_both_173 ⟨Nat.le_of_ble_eq_true rfl, Nat.le_of_ble_eq_true rfl⟩) hS (fun H locs hP hS => ?_)
        have hP : hp X M H := hP
        refine W.eq (g2 := F0 m 176 ls [.int v74]) rfl ?_
        refine W.widen (k := 0) (n := 0) (Nat.le_of_ble_eq_true rfl) (Nat.le_of_ble_eq_true rfl) ?_
        refine lv_if_eq (tgt := 183) hx hb dX6_both_176 (by decide) (fun c75 => ?_) (fun c75 => ?_)
        · have hj := if_t c75 hj
          refine lv_iconst (v := 0) hx hb dX6_both_183 (by decide) ?_
          exact J_184 M a0 a1 a2 a4 a6 (0 : Int32) H locs ls hj hP hS (lv_sub hl [0, 1, 2, 3, 4] rfl)
        · have hj := if_f c75 hj
          exact J_179 M a0 a1 a2 a4 a6 H locs ls hj hP hS (lv_sub hl [0, 1, 2, 3, 4] rfl)
    have hj := if_f c57 hj
    by_cases c58 : a1 = (26 : Int32)
    · have hj := if_t c58 hj
      refine lv_lookup (off := 188) (tgt := 189) hx hb dX6_both_1 (by decide) (by rw [c58]; decide) (by decide) ?_
      refine lv_dload hx hb dX6_both_189 (lv_at hl 3 rfl) ?_
      obtain ⟨v76, g_v76, hj⟩ := Option.bind_eq_some_iff.mp hj
      refine f_I (k_S (As := [.double a4]) (n := 1) (rest := []) cx hl.1 hP hS (c_X6_isZero l X g M a4 v76 g_v76) mC_X6_isZero mM_X6_61 mT_X6_isZero mZ_X6 (by decide +kernel) ⟨Nat.le_of_ble_eq_true rfl, Nat.le_of_ble_eq_true rfl⟩ rfl rfl (Nat.le_of_ble_eq_true rfl) dX6_both_191 ⟨Nat.le_of_ble_eq_true rfl, Nat.le_of_ble_eq_true rfl⟩) hS (fun H locs hP hS => ?_)
      have hP : hp X M H := hP
      refine W.eq (g2 := F0 m 194 ls [.int v76]) rfl ?_
      refine W.widen (k := 0) (n := 0) (Nat.le_of_ble_eq_true rfl) (Nat.le_of_ble_eq_true rfl) ?_
      refine lv_if_ne (tgt := 205) hx hb dX6_both_194 (by decide) (fun c77 => ?_) (fun c77 => ?_)
      · have hj := if_f c77 hj
        exact J_205 M a0 a1 a2 a4 a6 H locs ls hj hP hS (lv_sub hl [0, 1, 2, 3, 4] rfl)
      · have hj := if_t c77 hj
        refine lv_dload hx hb dX6_both_197 (lv_at hl 3 rfl) ?_
        obtain ⟨v78, g_v78, hj⟩ := Option.bind_eq_some_iff.mp hj
        refine f_I (k_S (As := [.double a4]) (n := 1) (rest := []) cx hl.1 hP hS (c_X6_isInfinite l X g M a4 v78 g_v78) mC_X6_isInfinite mM_X6_111 mT_X6_isInfinite mZ_X6 (by decide +kernel) ⟨Nat.le_of_ble_eq_true rfl, Nat.le_of_ble_eq_true rfl⟩ rfl rfl (Nat.le_of_ble_eq_true rfl) dX6_both_199 ⟨Nat.le_of_ble_eq_true rfl, Nat.le_of_ble_eq_true rfl⟩) hS (fun H locs hP hS => ?_)
        have hP : hp X M H := hP
        refine W.eq (g2 := F0 m 202 ls [.int v78]) rfl ?_
        refine W.widen (k := 0) (n := 0) (Nat.le_of_ble_eq_true rfl) (Nat.le_of_ble_eq_true rfl) ?_
        refine lv_if_eq (tgt := 209) hx hb dX6_both_202 (by decide) (fun c79 => ?_) (fun c79 => ?_)
        · have hj := if_t c79 hj
          refine lv_iconst (v := 0) hx hb dX6_both_209 (by decide) ?_
          exact J_210 M a0 a1 a2 a4 a6 (0 : Int32) H locs ls hj hP hS (lv_sub hl [0, 1, 2, 3, 4] rfl)
        · have hj := if_f c79 hj
          exact J_205 M a0 a1 a2 a4 a6 H locs ls hj hP hS (lv_sub hl [0, 1, 2, 3, 4] rfl)
    have hj := if_f c58 hj
    refine lv_lookup (off := 214) (tgt := 215) hx hb dX6_both_1 (by decide) (by simp [Op.lookupswitch.offset, sw_nt c54 (by decide), sw_nt c55 (by decide), sw_nt c56 (by decide), sw_nt c57 (by decide), sw_nt c58 (by decide)]) (by decide) ?_
    refine lv_iconst (v := 0) hx hb dX6_both_215 (by decide) ?_
    refine lv_istore (lv' := [(7, .int (0 : Int32)), (0, .ref a0), (1, .int a1), (2, .double a2), (4, .double a4), (6, .int a6)]) hx hb dX6_both_216 hl (by decide) rfl (fun ls hl => ?_)
    exact J_218 M a0 a1 a2 a4 a6 (0 : Int32) H locs ls hj hP hS (lv_sub hl [1, 2, 3, 4, 5, 0] rfl)
  exact hgo _ _ hP hS
set_option maxHeartbeats 4000000 in
set_option maxRecDepth 100000 in
theorem c_X6_isSo (l : Launch) (X : hX) (g : Nat) (M : hm) (a0 : Int32) (a1 : UInt64) (a3 : Int32) (a4 : UInt64) (a6 : Int32) (RR : Int32) (hj : j_X6_isSo g a0 a1 a3 a4 a6 = some RR) : Ct l X yX6_isSo cX6_isSo 9 (some .boolean) { frames := 0, cells := 0, slots := 0, locals := 0 } [.int a0, .double a1, .int a3, .double a4, .int a6] M (qI X (M, RR)) := by
  refine h_enter (own := RX6) (by decide) rfl (Nat.le_of_ble_eq_true rfl) ?_
  intro p e s m below meth c ls cx hr hlocks hnm hP hS hl
  have hx := cx.1
  have hb := cx.2.1
  have hl : lv_has ls 9 [(0, .int a0), (1, .double a1), (3, .int a3), (4, .double a4), (6, .int a6)] := hl
  unfold j_X6_isSo at hj
  have hgo : ∀ (H : Heap) (locs : List Loc), hp X M H → va_S (hA X) s.heap H locs → W p l e ({ frames := 0, cells := 0, slots := 0, locals := 0 } : Room) s m _ below meth c H locs 0 0 (MQ below (qI X (M, RR)) _ s 0 0 (hA X)) (F0 m 0 ls []) := by
    have J_170 : ∀ (s0 : Int32) (H : Heap) (locs : List Loc) (ls : Array Slot), j_X6_isSo_170 g s0 = some RR → hp X M H → va_S (hA X) s.heap H locs → lv_has ls 9 [] → W p l e ({ frames := 0, cells := 0, slots := 0, locals := 0 } : Room) s m _ below meth c H locs 0 0 (MQ below (qI X (M, RR)) _ s 0 0 (hA X)) (F0 m 170 ls [.int s0]) := by
      intro s0 H locs ls hj hP hS hl
      unfold j_X6_isSo_170 at hj
      obtain ⟨z1, g_z1, hj⟩ := Option.bind_eq_some_iff.mp hj
      exact t_Z cx hr hlocks hP hS (zb_eq g_z1).1 (congrArg (Prod.mk M) (Option.some.inj hj)) (Nat.le_of_ble_eq_true rfl) (Nat.le_of_ble_eq_true rfl) dX6_isSo_170
    have J_149 : ∀ (p0 : Int32) (p8 : Int32) (H : Heap) (locs : List Loc) (ls : Array Slot), j_X6_isSo_149 g p0 p8 = some RR → hp X M H → va_S (hA X) s.heap H locs → lv_has ls 9 [(0, .int p0), (8, .int p8)] → W p l e ({ frames := 0, cells := 0, slots := 0, locals := 0 } : Room) s m _ below meth c H locs 0 0 (MQ below (qI X (M, RR)) _ s 0 0 (hA X)) (F0 m 149 ls []) := by
      intro p0 p8 H locs ls hj hP hS hl
      unfold j_X6_isSo_149 at hj
      refine lv_iload_n hx hb dX6_isSo_149 rfl (lv_at hl 0 rfl) ?_
      refine lv_bipush (v := 6) hx hb dX6_isSo_150 (by decide) ?_
      refine lv_icmp_ge (tgt := 160) hx hb dX6_isSo_152 (by decide) (fun c2 => ?_) (fun c2 => ?_)
      · have hj := if_t c2 hj
        refine lv_iload hx hb dX6_isSo_160 (lv_at hl 1 rfl) ?_
        refine lv_if_ne (tgt := 169) hx hb dX6_isSo_162 (by decide) (fun c3 => ?_) (fun c3 => ?_)
        · have hj := if_f c3 hj
          refine lv_iconst (v := 0) hx hb dX6_isSo_169 (by decide) ?_
          exact J_170 (0 : Int32) H locs ls hj hP hS (lv_sub hl [] rfl)
        · have hj := if_t c3 hj
          refine lv_iconst (v := 1) hx hb dX6_isSo_165 (by decide) ?_
          refine lv_goto (tgt := 170) hx hb dX6_isSo_166 (by decide) ?_
          exact J_170 (1 : Int32) H locs ls hj hP hS (lv_sub hl [] rfl)
      · have hj := if_f c2 hj
        refine lv_iload hx hb dX6_isSo_155 (lv_at hl 1 rfl) ?_
        refine lv_goto (tgt := 170) hx hb dX6_isSo_157 (by decide) ?_
        exact J_170 p8 H locs ls hj hP hS (lv_sub hl [] rfl)
    have J_147 : ∀ (p0 : Int32) (s0 : Int32) (H : Heap) (locs : List Loc) (ls : Array Slot), j_X6_isSo_147 g p0 s0 = some RR → hp X M H → va_S (hA X) s.heap H locs → lv_has ls 9 [(0, .int p0)] → W p l e ({ frames := 0, cells := 0, slots := 0, locals := 0 } : Room) s m _ below meth c H locs 0 0 (MQ below (qI X (M, RR)) _ s 0 0 (hA X)) (F0 m 147 ls [.int s0]) := by
      intro p0 s0 H locs ls hj hP hS hl
      unfold j_X6_isSo_147 at hj
      refine lv_istore (lv' := [(8, .int s0), (0, .int p0)]) hx hb dX6_isSo_147 hl (by decide) rfl (fun ls hl => ?_)
      exact J_149 p0 s0 H locs ls hj hP hS (lv_sub hl [1, 0] rfl)
    have J_26 : ∀ (p0 : Int32) (s0 : Int32) (H : Heap) (locs : List Loc) (ls : Array Slot), j_X6_isSo_26 g p0 s0 = some RR → hp X M H → va_S (hA X) s.heap H locs → lv_has ls 9 [(0, .int p0)] → W p l e ({ frames := 0, cells := 0, slots := 0, locals := 0 } : Room) s m _ below meth c H locs 0 0 (MQ below (qI X (M, RR)) _ s 0 0 (hA X)) (F0 m 26 ls [.int s0]) := by
      intro p0 s0 H locs ls hj hP hS hl
      unfold j_X6_isSo_26 at hj
      refine lv_istore (lv' := [(8, .int s0), (0, .int p0)]) hx hb dX6_isSo_26 hl (by decide) rfl (fun ls hl => ?_)
      refine lv_goto (tgt := 149) hx hb dX6_isSo_28 (by decide) ?_
      exact J_149 p0 s0 H locs ls hj hP hS (lv_sub hl [1, 0] rfl)
    have J_15 : ∀ (p0 : Int32) (p7 : Int32) (H : Heap) (locs : List Loc) (ls : Array Slot), j_X6_isSo_15 g p0 p7 = some RR → hp X M H → va_S (hA X) s.heap H locs → lv_has ls 9 [(0, .int p0), (7, .int p7)] → W p l e ({ frames := 0, cells := 0, slots := 0, locals := 0 } : Room) s m _ below meth c H locs 0 0 (MQ below (qI X (M, RR)) _ s 0 0 (hA X)) (F0 m 15 ls []) := by
      intro p0 p7 H locs ls hj hP hS hl
      unfold j_X6_isSo_15 at hj
      refine lv_iload hx hb dX6_isSo_15 (lv_at hl 1 rfl) ?_
      refine lv_iconst (v := 5) hx hb dX6_isSo_17 (by decide) ?_
      refine lv_icmp_ne (tgt := 25) hx hb dX6_isSo_18 (by decide) (fun c4 => ?_) (fun c4 => ?_)
      · have hj := if_f c4 hj
        refine lv_iconst (v := 0) hx hb dX6_isSo_25 (by decide) ?_
        exact J_26 p0 (0 : Int32) H locs ls hj hP hS (lv_sub hl [0] rfl)
      · have hj := if_t c4 hj
        refine lv_iconst (v := 1) hx hb dX6_isSo_21 (by decide) ?_
        refine lv_goto (tgt := 26) hx hb dX6_isSo_22 (by decide) ?_
        exact J_26 p0 (1 : Int32) H locs ls hj hP hS (lv_sub hl [0] rfl)
    intro H locs hP hS
    refine lv_iload_n hx hb dX6_isSo_0 rfl (lv_at hl 0 rfl) ?_
    refine lv_bipush (v := 6) hx hb dX6_isSo_1 (by decide) ?_
    refine lv_irem hx hb dX6_isSo_3 (by decide) ?_
    refine lv_istore (lv' := [(7, .int (a0 - a0 / (6 : Int32) * (6 : Int32))), (0, .int a0), (1, .double a1), (3, .int a3), (4, .double a4), (6, .int a6)]) hx hb dX6_isSo_4 hl (by decide) rfl (fun ls hl => ?_)
    refine lv_iload_n hx hb dX6_isSo_6 rfl (lv_at hl 3 rfl) ?_
    refine lv_if_ne (tgt := 15) hx hb dX6_isSo_7 (by decide) (fun c5 => ?_) (fun c5 => ?_)
    · have hj := if_f c5 hj
      exact J_15 a0 (a0 - a0 / (6 : Int32) * (6 : Int32)) H locs ls hj hP hS (lv_sub hl [1, 0] rfl)
    · have hj := if_t c5 hj
      refine lv_iload hx hb dX6_isSo_10 (lv_at hl 5 rfl) ?_
      refine lv_if_eq (tgt := 31) hx hb dX6_isSo_12 (by decide) (fun c6 => ?_) (fun c6 => ?_)
      · have hj := if_t c6 hj
        refine lv_iload hx hb dX6_isSo_31 (lv_at hl 0 rfl) ?_
        refine lv_if_ne (tgt := 51) hx hb dX6_isSo_33 (by decide) (fun c7 => ?_) (fun c7 => ?_)
        · have hj := if_f c7 hj
          refine lv_iload hx hb dX6_isSo_51 (lv_at hl 0 rfl) ?_
          refine lv_iconst (v := 1) hx hb dX6_isSo_53 (by decide) ?_
          refine lv_icmp_ne (tgt := 72) hx hb dX6_isSo_54 (by decide) (fun c8 => ?_) (fun c8 => ?_)
          · have hj := if_f c8 hj
            refine lv_iload hx hb dX6_isSo_72 (lv_at hl 0 rfl) ?_
            refine lv_iconst (v := 2) hx hb dX6_isSo_74 (by decide) ?_
            refine lv_icmp_ne (tgt := 93) hx hb dX6_isSo_75 (by decide) (fun c9 => ?_) (fun c9 => ?_)
            · have hj := if_f c9 hj
              refine lv_iload hx hb dX6_isSo_93 (lv_at hl 0 rfl) ?_
              refine lv_iconst (v := 3) hx hb dX6_isSo_95 (by decide) ?_
              refine lv_icmp_ne (tgt := 114) hx hb dX6_isSo_96 (by decide) (fun c10 => ?_) (fun c10 => ?_)
              · have hj := if_f c10 hj
                refine lv_iload hx hb dX6_isSo_114 (lv_at hl 0 rfl) ?_
                refine lv_iconst (v := 4) hx hb dX6_isSo_116 (by decide) ?_
                refine lv_icmp_ne (tgt := 135) hx hb dX6_isSo_117 (by decide) (fun c11 => ?_) (fun c11 => ?_)
                · have hj := if_f c11 hj
                  refine lv_dload_n hx hb dX6_isSo_135 rfl (lv_at hl 2 rfl) ?_
                  refine lv_dload hx hb dX6_isSo_136 (lv_at hl 4 rfl) ?_
                  refine lv_dcmp hx hb dX6_isSo_138 ?_
                  refine lv_if_eq (tgt := 146) hx hb dX6_isSo_139 (by decide) (fun c12 => ?_) (fun c12 => ?_)
                  · have hj := if_t c12 hj
                    refine lv_iconst (v := 0) hx hb dX6_isSo_146 (by decide) ?_
                    exact J_147 a0 (0 : Int32) H locs ls hj hP hS (lv_sub hl [1] rfl)
                  · have hj := if_f c12 hj
                    refine lv_iconst (v := 1) hx hb dX6_isSo_142 (by decide) ?_
                    refine lv_goto (tgt := 147) hx hb dX6_isSo_143 (by decide) ?_
                    exact J_147 a0 (1 : Int32) H locs ls hj hP hS (lv_sub hl [1] rfl)
                · have hj := if_t c11 hj
                  refine lv_dload_n hx hb dX6_isSo_120 rfl (lv_at hl 2 rfl) ?_
                  refine lv_dload hx hb dX6_isSo_121 (lv_at hl 4 rfl) ?_
                  refine lv_dcmp hx hb dX6_isSo_123 ?_
                  refine lv_if_ne (tgt := 131) hx hb dX6_isSo_124 (by decide) (fun c13 => ?_) (fun c13 => ?_)
                  · have hj := if_f c13 hj
                    refine lv_iconst (v := 0) hx hb dX6_isSo_131 (by decide) ?_
                    refine lv_goto (tgt := 147) hx hb dX6_isSo_132 (by decide) ?_
                    exact J_147 a0 (0 : Int32) H locs ls hj hP hS (lv_sub hl [1] rfl)
                  · have hj := if_t c13 hj
                    refine lv_iconst (v := 1) hx hb dX6_isSo_127 (by decide) ?_
                    refine lv_goto (tgt := 147) hx hb dX6_isSo_128 (by decide) ?_
                    exact J_147 a0 (1 : Int32) H locs ls hj hP hS (lv_sub hl [1] rfl)
              · have hj := if_t c10 hj
                refine lv_dload_n hx hb dX6_isSo_99 rfl (lv_at hl 2 rfl) ?_
                refine lv_dload hx hb dX6_isSo_100 (lv_at hl 4 rfl) ?_
                refine lv_dcmp hx hb dX6_isSo_102 ?_
                refine lv_if_lt (tgt := 110) hx hb dX6_isSo_103 (by decide) (fun c14 => ?_) (fun c14 => ?_)
                · have hj := if_t c14 hj
                  refine lv_iconst (v := 0) hx hb dX6_isSo_110 (by decide) ?_
                  refine lv_goto (tgt := 147) hx hb dX6_isSo_111 (by decide) ?_
                  exact J_147 a0 (0 : Int32) H locs ls hj hP hS (lv_sub hl [1] rfl)
                · have hj := if_f c14 hj
                  refine lv_iconst (v := 1) hx hb dX6_isSo_106 (by decide) ?_
                  refine lv_goto (tgt := 147) hx hb dX6_isSo_107 (by decide) ?_
                  exact J_147 a0 (1 : Int32) H locs ls hj hP hS (lv_sub hl [1] rfl)
            · have hj := if_t c9 hj
              refine lv_dload_n hx hb dX6_isSo_78 rfl (lv_at hl 2 rfl) ?_
              refine lv_dload hx hb dX6_isSo_79 (lv_at hl 4 rfl) ?_
              refine lv_dcmp hx hb dX6_isSo_81 ?_
              refine lv_if_le (tgt := 89) hx hb dX6_isSo_82 (by decide) (fun c15 => ?_) (fun c15 => ?_)
              · have hj := if_t c15 hj
                refine lv_iconst (v := 0) hx hb dX6_isSo_89 (by decide) ?_
                refine lv_goto (tgt := 147) hx hb dX6_isSo_90 (by decide) ?_
                exact J_147 a0 (0 : Int32) H locs ls hj hP hS (lv_sub hl [1] rfl)
              · have hj := if_f c15 hj
                refine lv_iconst (v := 1) hx hb dX6_isSo_85 (by decide) ?_
                refine lv_goto (tgt := 147) hx hb dX6_isSo_86 (by decide) ?_
                exact J_147 a0 (1 : Int32) H locs ls hj hP hS (lv_sub hl [1] rfl)
          · have hj := if_t c8 hj
            refine lv_dload_n hx hb dX6_isSo_57 rfl (lv_at hl 2 rfl) ?_
            refine lv_dload hx hb dX6_isSo_58 (lv_at hl 4 rfl) ?_
            refine lv_dcmp hx hb dX6_isSo_60 ?_
            refine lv_if_gt (tgt := 68) hx hb dX6_isSo_61 (by decide) (fun c16 => ?_) (fun c16 => ?_)
            · have hj := if_t c16 hj
              refine lv_iconst (v := 0) hx hb dX6_isSo_68 (by decide) ?_
              refine lv_goto (tgt := 147) hx hb dX6_isSo_69 (by decide) ?_
              exact J_147 a0 (0 : Int32) H locs ls hj hP hS (lv_sub hl [1] rfl)
            · have hj := if_f c16 hj
              refine lv_iconst (v := 1) hx hb dX6_isSo_64 (by decide) ?_
              refine lv_goto (tgt := 147) hx hb dX6_isSo_65 (by decide) ?_
              exact J_147 a0 (1 : Int32) H locs ls hj hP hS (lv_sub hl [1] rfl)
        · have hj := if_t c7 hj
          refine lv_dload_n hx hb dX6_isSo_36 rfl (lv_at hl 2 rfl) ?_
          refine lv_dload hx hb dX6_isSo_37 (lv_at hl 4 rfl) ?_
          refine lv_dcmp hx hb dX6_isSo_39 ?_
          refine lv_if_ge (tgt := 47) hx hb dX6_isSo_40 (by decide) (fun c17 => ?_) (fun c17 => ?_)
          · have hj := if_t c17 hj
            refine lv_iconst (v := 0) hx hb dX6_isSo_47 (by decide) ?_
            refine lv_goto (tgt := 147) hx hb dX6_isSo_48 (by decide) ?_
            exact J_147 a0 (0 : Int32) H locs ls hj hP hS (lv_sub hl [1] rfl)
          · have hj := if_f c17 hj
            refine lv_iconst (v := 1) hx hb dX6_isSo_43 (by decide) ?_
            refine lv_goto (tgt := 147) hx hb dX6_isSo_44 (by decide) ?_
            exact J_147 a0 (1 : Int32) H locs ls hj hP hS (lv_sub hl [1] rfl)
      · have hj := if_f c6 hj
        exact J_15 a0 (a0 - a0 / (6 : Int32) * (6 : Int32)) H locs ls hj hP hS (lv_sub hl [1, 0] rfl)
  exact hgo _ _ hP hS
set_option maxHeartbeats 4000000 in
set_option maxRecDepth 100000 in
theorem c_X6_compares (l : Launch) (X : hX) (g : Nat) (M : hm) (a0 : Nat) (a1 : Int32) (a2 : Int32) (RR : Int32) (hj : j_X6_compares g M a0 a1 a2 = some RR) : Ct l X yX6_compares cX6_compares 3 (some .boolean) { frames := 2, cells := 0, slots := 0, locals := 44 } [.ref a0, .int a1, .int a2] M (qI X (M, RR)) := by
  refine h_enter (own := RX6) (by decide) rfl (Nat.le_of_ble_eq_true rfl) ?_
  intro p e s m below meth c ls cx hr hlocks hnm hP hS hl
  have hx := cx.1
  have hb := cx.2.1
  have hl : lv_has ls 3 [(0, .ref a0), (1, .int a1), (2, .int a2)] := hl
  unfold j_X6_compares at hj
  have hgo : ∀ (H : Heap) (locs : List Loc), hp X M H → va_S (hA X) s.heap H locs → W p l e ({ frames := 2, cells := 0, slots := 0, locals := 44 } : Room) s m _ below meth c H locs 0 0 (MQ below (qI X (M, RR)) _ s 0 0 (hA X)) (F0 m 0 ls []) := by
    intro H locs hP hS
    refine lv_aload_n hx hb dX6_compares_0 rfl (lv_at hl 0 rfl) ?_
    obtain ⟨v1, g_v1, hj⟩ := Option.bind_eq_some_iff.mp hj
    refine r_getR cx hP g_v1 iX6 rfl (by decide) mF_X6_22 dX6_compares_1 ?_
    refine lv_iconst (v := 4) hx hb dX6_compares_4 (by decide) ?_
    refine lv_iload_n hx hb dX6_compares_5 rfl (lv_at hl 1 rfl) ?_
    refine lv_imul hx hb dX6_compares_6 ?_
    refine lv_iconst (v := 3) hx hb dX6_compares_7 (by decide) ?_
    refine lv_iadd hx hb dX6_compares_8 ?_
    obtain ⟨b2, e_b2, hj⟩ := Option.bind_eq_some_iff.mp hj
    subst e_b2
    obtain ⟨v3, g_v3, hj⟩ := Option.bind_eq_some_iff.mp hj
    refine r_aldI cx hP g_v3 dX6_compares_9 ?_
    refine lv_aload_n hx hb dX6_compares_10 rfl (lv_at hl 0 rfl) ?_
    refine lv_iload_n hx hb dX6_compares_11 rfl (lv_at hl 1 rfl) ?_
    refine lv_iload_n hx hb dX6_compares_12 rfl (lv_at hl 2 rfl) ?_
    obtain ⟨_, o4, hj⟩ := Option.bind_eq_some_iff.mp hj
    obtain ⟨v5, g_v5, hj⟩ := Option.bind_eq_some_iff.mp hj
    refine f_D (k_V (b := a0) (As := [.int a1, .int a2]) (n := 2) (rest := [.int v3]) cx hl.1 hP hS (c_X6_x l X g M a0 a1 a2 v5 g_v5) o4 rfl mC_X6_x mM_X6_136 mI_X6_x mS_X6_x mZ_X6 (by decide +kernel) ⟨Nat.le_of_ble_eq_true rfl, Nat.le_of_ble_eq_true rfl⟩ rfl rfl (Nat.le_of_ble_eq_true rfl) dX6_compares_13 ⟨Nat.le_of_ble_eq_true rfl, Nat.le_of_ble_eq_true rfl⟩) hS (fun H locs hP hS => ?_)
    have hP : hp X M H := hP
    refine W.eq (g2 := F0 m 16 ls [.double v5, .int v3]) rfl ?_
    refine W.widen (k := 0) (n := 0) (Nat.le_of_ble_eq_true rfl) (Nat.le_of_ble_eq_true rfl) ?_
    refine lv_aload_n hx hb dX6_compares_16 rfl (lv_at hl 0 rfl) ?_
    refine lv_iload_n hx hb dX6_compares_17 rfl (lv_at hl 1 rfl) ?_
    refine lv_iload_n hx hb dX6_compares_18 rfl (lv_at hl 2 rfl) ?_
    obtain ⟨_, o6, hj⟩ := Option.bind_eq_some_iff.mp hj
    obtain ⟨v7, g_v7, hj⟩ := Option.bind_eq_some_iff.mp hj
    refine f_I (k_V (b := a0) (As := [.int a1, .int a2]) (n := 2) (rest := [.double v5, .int v3]) cx hl.1 hP hS (c_X6_noX l X g M a0 a1 a2 v7 g_v7) o6 rfl mC_X6_noX mM_X6_140 mI_X6_noX mS_X6_noX mZ_X6 (by decide +kernel) ⟨Nat.le_of_ble_eq_true rfl, Nat.le_of_ble_eq_true rfl⟩ rfl rfl (Nat.le_of_ble_eq_true rfl) dX6_compares_19 ⟨Nat.le_of_ble_eq_true rfl, Nat.le_of_ble_eq_true rfl⟩) hS (fun H locs hP hS => ?_)
    have hP : hp X M H := hP
    refine W.eq (g2 := F0 m 22 ls [.int v7, .double v5, .int v3]) rfl ?_
    refine W.widen (k := 0) (n := 0) (Nat.le_of_ble_eq_true rfl) (Nat.le_of_ble_eq_true rfl) ?_
    refine lv_aload_n hx hb dX6_compares_22 rfl (lv_at hl 0 rfl) ?_
    refine lv_iload_n hx hb dX6_compares_23 rfl (lv_at hl 1 rfl) ?_
    refine lv_iload_n hx hb dX6_compares_24 rfl (lv_at hl 2 rfl) ?_
    obtain ⟨_, o8, hj⟩ := Option.bind_eq_some_iff.mp hj
    obtain ⟨v9, g_v9, hj⟩ := Option.bind_eq_some_iff.mp hj
    refine f_D (k_V (b := a0) (As := [.int a1, .int a2]) (n := 2) (rest := [.int v7, .double v5, .int v3]) cx hl.1 hP hS (c_X6_y l X g M a0 a1 a2 v9 g_v9) o8 rfl mC_X6_y mM_X6_144 mI_X6_y mS_X6_y mZ_X6 (by decide +kernel) ⟨Nat.le_of_ble_eq_true rfl, Nat.le_of_ble_eq_true rfl⟩ rfl rfl (Nat.le_of_ble_eq_true rfl) dX6_compares_25 ⟨Nat.le_of_ble_eq_true rfl, Nat.le_of_ble_eq_true rfl⟩) hS (fun H locs hP hS => ?_)
    have hP : hp X M H := hP
    refine W.eq (g2 := F0 m 28 ls [.double v9, .int v7, .double v5, .int v3]) rfl ?_
    refine W.widen (k := 0) (n := 0) (Nat.le_of_ble_eq_true rfl) (Nat.le_of_ble_eq_true rfl) ?_
    refine lv_aload_n hx hb dX6_compares_28 rfl (lv_at hl 0 rfl) ?_
    refine lv_iload_n hx hb dX6_compares_29 rfl (lv_at hl 1 rfl) ?_
    refine lv_iload_n hx hb dX6_compares_30 rfl (lv_at hl 2 rfl) ?_
    obtain ⟨_, o10, hj⟩ := Option.bind_eq_some_iff.mp hj
    obtain ⟨v11, g_v11, hj⟩ := Option.bind_eq_some_iff.mp hj
    refine f_I (k_V (b := a0) (As := [.int a1, .int a2]) (n := 2) (rest := [.double v9, .int v7, .double v5, .int v3]) cx hl.1 hP hS (c_X6_noY l X g M a0 a1 a2 v11 g_v11) o10 rfl mC_X6_noY mM_X6_147 mI_X6_noY mS_X6_noY mZ_X6 (by decide +kernel) ⟨Nat.le_of_ble_eq_true rfl, Nat.le_of_ble_eq_true rfl⟩ rfl rfl (Nat.le_of_ble_eq_true rfl) dX6_compares_31 ⟨Nat.le_of_ble_eq_true rfl, Nat.le_of_ble_eq_true rfl⟩) hS (fun H locs hP hS => ?_)
    have hP : hp X M H := hP
    refine W.eq (g2 := F0 m 34 ls [.int v11, .double v9, .int v7, .double v5, .int v3]) rfl ?_
    refine W.widen (k := 0) (n := 0) (Nat.le_of_ble_eq_true rfl) (Nat.le_of_ble_eq_true rfl) ?_
    obtain ⟨v12, g_v12, hj⟩ := Option.bind_eq_some_iff.mp hj
    refine f_I (k_S (As := [.int v3, .double v5, .int v7, .double v9, .int v11]) (n := 5) (rest := []) cx hl.1 hP hS (c_X6_isSo l X g M v3 v5 v7 v9 v11 v12 g_v12) mC_X6_isSo mM_X6_150 mT_X6_isSo mZ_X6 (by decide +kernel) ⟨Nat.le_of_ble_eq_true rfl, Nat.le_of_ble_eq_true rfl⟩ rfl rfl (Nat.le_of_ble_eq_true rfl) dX6_compares_34 ⟨Nat.le_of_ble_eq_true rfl, Nat.le_of_ble_eq_true rfl⟩) hS (fun H locs hP hS => ?_)
    have hP : hp X M H := hP
    refine W.eq (g2 := F0 m 37 ls [.int v12]) rfl ?_
    refine W.widen (k := 0) (n := 0) (Nat.le_of_ble_eq_true rfl) (Nat.le_of_ble_eq_true rfl) ?_
    obtain ⟨z13, g_z13, hj⟩ := Option.bind_eq_some_iff.mp hj
    exact t_Z cx hr hlocks hP hS (zb_eq g_z13).1 (congrArg (Prod.mk M) (Option.some.inj hj)) (Nat.le_of_ble_eq_true rfl) (Nat.le_of_ble_eq_true rfl) dX6_compares_37
  exact hgo _ _ hP hS
set_option maxHeartbeats 4000000 in
set_option maxRecDepth 100000 in
theorem c_X6_manyX (l : Launch) (X : hX) (g : Nat) (M : hm) (a0 : Nat) (a1 : Int32) (a2 : Int32) (a3 : Int32) (RR : Int32) (hj : j_X6_manyX g M a0 a1 a2 a3 = some RR) : Ct l X yX6_manyX cX6_manyX 6 (some .int) { frames := 2, cells := 0, slots := 0, locals := 43 } [.ref a0, .int a1, .int a2, .int a3] M (qI X (M, RR)) := by
  refine h_enter (own := RX6) (by decide) rfl (Nat.le_of_ble_eq_true rfl) ?_
  intro p e s m below meth c ls cx hr hlocks hnm hP hS hl
  have hx := cx.1
  have hb := cx.2.1
  have hl : lv_has ls 6 [(0, .ref a0), (1, .int a1), (2, .int a2), (3, .int a3)] := hl
  unfold j_X6_manyX at hj
  have hgo : ∀ (H : Heap) (locs : List Loc), hp X M H → va_S (hA X) s.heap H locs → W p l e ({ frames := 2, cells := 0, slots := 0, locals := 43 } : Room) s m _ below meth c H locs 0 0 (MQ below (qI X (M, RR)) _ s 0 0 (hA X)) (F0 m 0 ls []) := by
    have J_38 : ∀ (p4 : Int32) (H : Heap) (locs : List Loc) (ls : Array Slot), j_X6_manyX_38 g M p4 = some RR → hp X M H → va_S (hA X) s.heap H locs → lv_has ls 6 [(4, .int p4)] → W p l e ({ frames := 2, cells := 0, slots := 0, locals := 43 } : Room) s m _ below meth c H locs 0 0 (MQ below (qI X (M, RR)) _ s 0 0 (hA X)) (F0 m 38 ls []) := by
      intro p4 H locs ls hj hP hS hl
      unfold j_X6_manyX_38 at hj
      refine lv_iload hx hb dX6_manyX_38 (lv_at hl 0 rfl) ?_
      exact t_I cx hr hlocks hP hS (congrArg (Prod.mk M) (Option.some.inj hj)) (Nat.le_of_ble_eq_true rfl) (Nat.le_of_ble_eq_true rfl) dX6_manyX_40
    have L_6 : ∀ (n6 : Nat) (p0 : Nat) (p1 : Int32) (p3 : Int32) (p4 : Int32) (p5 : Int32) (H : Heap) (locs : List Loc) (ls : Array Slot), j_X6_manyX_6 g M n6 p0 p1 p3 p4 p5 = some RR → hp X M H → va_S (hA X) s.heap H locs → lv_has ls 6 [(0, .ref p0), (1, .int p1), (3, .int p3), (4, .int p4), (5, .int p5)] → W p l e ({ frames := 2, cells := 0, slots := 0, locals := 43 } : Room) s m _ below meth c H locs 0 0 (MQ below (qI X (M, RR)) _ s 0 0 (hA X)) (F0 m 6 ls []) := by
      intro n6
      induction n6 with
      | zero =>
        intro p0 p1 p3 p4 p5 H locs ls hj
        exact no_zero hj
      | succ n6 ih_6 =>
        have J_29 : ∀ (p0 : Nat) (p1 : Int32) (p3 : Int32) (p5 : Int32) (s0 : Int32) (s1 : Int32) (H : Heap) (locs : List Loc) (ls : Array Slot), j_X6_manyX_29 g (fun p0 p1 p3 p4 p5 => j_X6_manyX_6 g M n6 p0 p1 p3 p4 p5) M p0 p1 p3 p5 s0 s1 = some RR → hp X M H → va_S (hA X) s.heap H locs → lv_has ls 6 [(0, .ref p0), (1, .int p1), (3, .int p3), (5, .int p5)] → W p l e ({ frames := 2, cells := 0, slots := 0, locals := 43 } : Room) s m _ below meth c H locs 0 0 (MQ below (qI X (M, RR)) _ s 0 0 (hA X)) (F0 m 29 ls [.int s0, .int s1]) := by
          intro p0 p1 p3 p5 s0 s1 H locs ls hj hP hS hl
          unfold j_X6_manyX_29 at hj
          refine lv_iadd hx hb dX6_manyX_29 ?_
          refine lv_istore (lv' := [(4, .int (s1 + s0)), (0, .ref p0), (1, .int p1), (3, .int p3), (5, .int p5)]) hx hb dX6_manyX_30 hl (by decide) rfl (fun ls hl => ?_)
          refine lv_iinc (v := (p5 + (1 : Int32))) (lv' := [(5, .int (p5 + (1 : Int32))), (4, .int (s1 + s0)), (0, .ref p0), (1, .int p1), (3, .int p3)]) hx hb dX6_manyX_32 hl (k := 4) rfl rfl (by decide) rfl (fun ls hl => ?_)
          refine lv_goto (tgt := 6) hx hb dX6_manyX_35 (by decide) ?_
          exact ih_6 p0 p1 p3 (s1 + s0) (p5 + (1 : Int32)) H locs ls hj hP hS (lv_sub hl [2, 3, 4, 1, 0] rfl)
        intro p0 p1 p3 p4 p5 H locs ls hj hP hS hl
        rw [j_X6_manyX_6_s] at hj
        refine lv_iload hx hb dX6_manyX_6 (lv_at hl 4 rfl) ?_
        refine lv_iload_n hx hb dX6_manyX_8 rfl (lv_at hl 2 rfl) ?_
        refine lv_icmp_gt (tgt := 38) hx hb dX6_manyX_9 (by decide) (fun c1 => ?_) (fun c1 => ?_)
        · have hj := if_t c1 hj
          exact J_38 p4 H locs ls hj hP hS (lv_sub hl [3] rfl)
        · have hj := if_f c1 hj
          refine lv_iload hx hb dX6_manyX_12 (lv_at hl 3 rfl) ?_
          refine lv_aload_n hx hb dX6_manyX_14 rfl (lv_at hl 0 rfl) ?_
          refine lv_iload_n hx hb dX6_manyX_15 rfl (lv_at hl 1 rfl) ?_
          refine lv_iload hx hb dX6_manyX_16 (lv_at hl 4 rfl) ?_
          obtain ⟨_, o2, hj⟩ := Option.bind_eq_some_iff.mp hj
          obtain ⟨v3, g_v3, hj⟩ := Option.bind_eq_some_iff.mp hj
          refine f_I (k_V (b := p0) (As := [.int p1, .int p5]) (n := 2) (rest := [.int p4]) cx hl.1 hP hS (c_X6_noX l X g M p0 p1 p5 v3 g_v3) o2 rfl mC_X6_noX mM_X6_140 mI_X6_noX mS_X6_noX mZ_X6 (by decide +kernel) ⟨Nat.le_of_ble_eq_true rfl, Nat.le_of_ble_eq_true rfl⟩ rfl rfl (Nat.le_of_ble_eq_true rfl) dX6_manyX_18 ⟨Nat.le_of_ble_eq_true rfl, Nat.le_of_ble_eq_true rfl⟩) hS (fun H locs hP hS => ?_)
          have hP : hp X M H := hP
          refine W.eq (g2 := F0 m 21 ls [.int v3, .int p4]) rfl ?_
          refine W.widen (k := 0) (n := 0) (Nat.le_of_ble_eq_true rfl) (Nat.le_of_ble_eq_true rfl) ?_
          refine lv_if_eq (tgt := 28) hx hb dX6_manyX_21 (by decide) (fun c4 => ?_) (fun c4 => ?_)
          · have hj := if_t c4 hj
            refine lv_iconst (v := 1) hx hb dX6_manyX_28 (by decide) ?_
            exact J_29 p0 p1 p3 p5 (1 : Int32) p4 H locs ls hj hP hS (lv_sub hl [0, 1, 2, 4] rfl)
          · have hj := if_f c4 hj
            refine lv_iconst (v := 0) hx hb dX6_manyX_24 (by decide) ?_
            refine lv_goto (tgt := 29) hx hb dX6_manyX_25 (by decide) ?_
            exact J_29 p0 p1 p3 p5 (0 : Int32) p4 H locs ls hj hP hS (lv_sub hl [0, 1, 2, 4] rfl)
    intro H locs hP hS
    refine lv_iconst (v := 0) hx hb dX6_manyX_0 (by decide) ?_
    refine lv_istore (lv' := [(4, .int (0 : Int32)), (0, .ref a0), (1, .int a1), (2, .int a2), (3, .int a3)]) hx hb dX6_manyX_1 hl (by decide) rfl (fun ls hl => ?_)
    refine lv_iload_n hx hb dX6_manyX_3 rfl (lv_at hl 3 rfl) ?_
    refine lv_istore (lv' := [(5, .int a2), (4, .int (0 : Int32)), (0, .ref a0), (1, .int a1), (2, .int a2), (3, .int a3)]) hx hb dX6_manyX_4 hl (by decide) rfl (fun ls hl => ?_)
    exact L_6 g a0 a1 a3 (0 : Int32) a2 H locs ls hj hP hS (lv_sub hl [2, 3, 5, 1, 0] rfl)
  exact hgo _ _ hP hS
