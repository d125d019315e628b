set_option maxHeartbeats 4000000 in
set_option maxRecDepth 100000 in
theorem c_X6_reckon (l : Launch) (X : hX) (g : Nat) (M : hm) (a0 : Nat) (a1 : Int32) (a2 : Int32) (RR : hm) (hj : j_X6_reckon g M a0 a1 a2 = some RR) : Ct l X yX6_reckon cX6_reckon 6 none { frames := 5, cells := 0, slots := 0, locals := 120 } [.ref a0, .int a1, .int a2] M (qV X RR) := by
  refine h_enter (own := RX6) (by decide) rfl (Nat.le_of_ble_eq_true rfl) ?_
  intro p e s m below meth c ls cx hr hlocks hnm hP hS hl
  have hx := cx.1
  have hb := cx.2.1
  have hl : lv_has ls 6 [(0, .ref a0), (1, .int a1), (2, .int a2)] := hl
  unfold j_X6_reckon at hj
  have hgo : ∀ (H : Heap) (locs : List Loc), hp X M H → va_S (hA X) s.heap H locs → W p l e ({ frames := 5, cells := 0, slots := 0, locals := 120 } : Room) s m _ below meth c H locs 0 0 (MQ below (qV X RR) _ s 0 0 (hA X)) (F0 m 0 ls []) := by
    have J_409 : ∀ (M : hm) (H : Heap) (locs : List Loc) (ls : Array Slot), j_X6_reckon_409 g M = some RR → hp X M H → va_S (hA X) s.heap H locs → lv_has ls 6 [] → W p l e ({ frames := 5, cells := 0, slots := 0, locals := 120 } : Room) s m _ below meth c H locs 0 0 (MQ below (qV X RR) _ s 0 0 (hA X)) (F0 m 409 ls []) := by
      intro M H locs ls hj hP hS hl
      unfold j_X6_reckon_409 at hj
      exact t_V cx hr hlocks hP hS (Option.some.inj hj) (Nat.le_of_ble_eq_true rfl) (Nat.le_of_ble_eq_true rfl) dX6_reckon_409
    have J_368 : ∀ (M : hm) (p0 : Nat) (H : Heap) (locs : List Loc) (ls : Array Slot), j_X6_reckon_368 g M p0 = some RR → hp X M H → va_S (hA X) s.heap H locs → lv_has ls 6 [(0, .ref p0)] → W p l e ({ frames := 5, cells := 0, slots := 0, locals := 120 } : Room) s m _ below meth c H locs 0 0 (MQ below (qV X RR) _ s 0 0 (hA X)) (F0 m 368 ls []) := by
      intro M p0 H locs ls hj hP hS hl
      unfold j_X6_reckon_368 at hj
      refine lv_aload_n hx hb dX6_reckon_368 rfl (lv_at hl 0 rfl) ?_
      obtain ⟨_, o1, hj⟩ := Option.bind_eq_some_iff.mp hj
      obtain ⟨M2, g_M2, hj⟩ := Option.bind_eq_some_iff.mp hj
      refine f_V (k_V (b := p0) (As := []) (n := 0) (rest := []) cx hl.1 hP hS (c_X6_givesNothing l X g M p0 M2 g_M2) o1 rfl mC_X6_givesNothing mM_X6_114 mI_X6_givesNothing mS_X6_givesNothing mZ_X6 (by decide +kernel) ⟨Nat.le_of_ble_eq_true rfl, Nat.le_of_ble_eq_true rfl⟩ rfl rfl (Nat.le_of_ble_eq_true rfl) dX6_reckon_369 ⟨Nat.le_of_ble_eq_true rfl, Nat.le_of_ble_eq_true rfl⟩) hS (fun H locs hP hS => ?_)
      have hP : hp X M2 H := hP
      refine W.eq (g2 := F0 m 372 ls []) rfl ?_
      refine W.widen (k := 0) (n := 0) (Nat.le_of_ble_eq_true rfl) (Nat.le_of_ble_eq_true rfl) ?_
      refine lv_goto (tgt := 409) hx hb dX6_reckon_372 (by decide) ?_
      exact J_409 M2 H locs ls hj hP hS (lv_sub hl [] rfl)
    have J_258 : ∀ (M : hm) (p0 : Nat) (H : Heap) (locs : List Loc) (ls : Array Slot), j_X6_reckon_258 g M p0 = some RR → hp X M H → va_S (hA X) s.heap H locs → lv_has ls 6 [(0, .ref p0)] → W p l e ({ frames := 5, cells := 0, slots := 0, locals := 120 } : Room) s m _ below meth c H locs 0 0 (MQ below (qV X RR) _ s 0 0 (hA X)) (F0 m 258 ls []) := by
      intro M p0 H locs ls hj hP hS hl
      unfold j_X6_reckon_258 at hj
      refine lv_aload_n hx hb dX6_reckon_258 rfl (lv_at hl 0 rfl) ?_
      obtain ⟨_, o3, hj⟩ := Option.bind_eq_some_iff.mp hj
      obtain ⟨M4, g_M4, hj⟩ := Option.bind_eq_some_iff.mp hj
      refine f_V (k_V (b := p0) (As := []) (n := 0) (rest := []) cx hl.1 hP hS (c_X6_givesNothing l X g M p0 M4 g_M4) o3 rfl mC_X6_givesNothing mM_X6_114 mI_X6_givesNothing mS_X6_givesNothing mZ_X6 (by decide +kernel) ⟨Nat.le_of_ble_eq_true rfl, Nat.le_of_ble_eq_true rfl⟩ rfl rfl (Nat.le_of_ble_eq_true rfl) dX6_reckon_259 ⟨Nat.le_of_ble_eq_true rfl, Nat.le_of_ble_eq_true rfl⟩) hS (fun H locs hP hS => ?_)
      have hP : hp X M4 H := hP
      refine W.eq (g2 := F0 m 262 ls []) rfl ?_
      refine W.widen (k := 0) (n := 0) (Nat.le_of_ble_eq_true rfl) (Nat.le_of_ble_eq_true rfl) ?_
      refine lv_goto (tgt := 409) hx hb dX6_reckon_262 (by decide) ?_
      exact J_409 M4 H locs ls hj hP hS (lv_sub hl [] rfl)
    have J_166 : ∀ (M : hm) (p0 : Nat) (H : Heap) (locs : List Loc) (ls : Array Slot), j_X6_reckon_166 g M p0 = some RR → hp X M H → va_S (hA X) s.heap H locs → lv_has ls 6 [(0, .ref p0)] → W p l e ({ frames := 5, cells := 0, slots := 0, locals := 120 } : Room) s m _ below meth c H locs 0 0 (MQ below (qV X RR) _ s 0 0 (hA X)) (F0 m 166 ls []) := by
      intro M p0 H locs ls hj hP hS hl
      unfold j_X6_reckon_166 at hj
      refine lv_aload_n hx hb dX6_reckon_166 rfl (lv_at hl 0 rfl) ?_
      obtain ⟨_, o5, hj⟩ := Option.bind_eq_some_iff.mp hj
      obtain ⟨M6, g_M6, hj⟩ := Option.bind_eq_some_iff.mp hj
      refine f_V (k_V (b := p0) (As := []) (n := 0) (rest := []) cx hl.1 hP hS (c_X6_givesNothing l X g M p0 M6 g_M6) o5 rfl mC_X6_givesNothing mM_X6_114 mI_X6_givesNothing mS_X6_givesNothing mZ_X6 (by decide +kernel) ⟨Nat.le_of_ble_eq_true rfl, Nat.le_of_ble_eq_true rfl⟩ rfl rfl (Nat.le_of_ble_eq_true rfl) dX6_reckon_167 ⟨Nat.le_of_ble_eq_true rfl, Nat.le_of_ble_eq_true rfl⟩) hS (fun H locs hP hS => ?_)
      have hP : hp X M6 H := hP
      refine W.eq (g2 := F0 m 170 ls []) rfl ?_
      refine W.widen (k := 0) (n := 0) (Nat.le_of_ble_eq_true rfl) (Nat.le_of_ble_eq_true rfl) ?_
      refine lv_goto (tgt := 409) hx hb dX6_reckon_170 (by decide) ?_
      exact J_409 M6 H locs ls hj hP hS (lv_sub hl [] rfl)
    have J_105 : ∀ (M : hm) (H : Heap) (locs : List Loc) (ls : Array Slot), j_X6_reckon_105 g M = some RR → hp X M H → va_S (hA X) s.heap H locs → lv_has ls 6 [] → W p l e ({ frames := 5, cells := 0, slots := 0, locals := 120 } : Room) s m _ below meth c H locs 0 0 (MQ below (qV X RR) _ s 0 0 (hA X)) (F0 m 105 ls []) := by
      intro M H locs ls hj hP hS hl
      unfold j_X6_reckon_105 at hj
      exact t_V cx hr hlocks hP hS (Option.some.inj hj) (Nat.le_of_ble_eq_true rfl) (Nat.le_of_ble_eq_true rfl) dX6_reckon_105
    have J_64 : ∀ (M : hm) (p0 : Nat) (p1 : Int32) (p2 : Int32) (p3 : Int32) (p4 : Int32) (H : Heap) (locs : List Loc) (ls : Array Slot), j_X6_reckon_64 g M p0 p1 p2 p3 p4 = some RR → hp X M H → va_S (hA X) s.heap H locs → lv_has ls 6 [(0, .ref p0), (1, .int p1), (2, .int p2), (3, .int p3), (4, .int p4)] → W p l e ({ frames := 5, cells := 0, slots := 0, locals := 120 } : Room) s m _ below meth c H locs 0 0 (MQ below (qV X RR) _ s 0 0 (hA X)) (F0 m 64 ls []) := by
      intro M p0 p1 p2 p3 p4 H locs ls hj hP hS hl
      unfold j_X6_reckon_64 at hj
      refine lv_iload_n hx hb dX6_reckon_64 rfl (lv_at hl 3 rfl) ?_
      refine lv_bipush (v := 8) hx hb dX6_reckon_65 (by decide) ?_
      refine lv_icmp_gt (tgt := 86) hx hb dX6_reckon_67 (by decide) (fun c7 => ?_) (fun c7 => ?_)
      · have hj := if_t c7 hj
        refine lv_aload_n hx hb dX6_reckon_86 rfl (lv_at hl 0 rfl) ?_
        refine lv_iload_n hx hb dX6_reckon_87 rfl (lv_at hl 3 rfl) ?_
        refine lv_aload_n hx hb dX6_reckon_88 rfl (lv_at hl 0 rfl) ?_
        refine lv_iload_n hx hb dX6_reckon_89 rfl (lv_at hl 1 rfl) ?_
        refine lv_iload_n hx hb dX6_reckon_90 rfl (lv_at hl 2 rfl) ?_
        obtain ⟨_, o8, hj⟩ := Option.bind_eq_some_iff.mp hj
        obtain ⟨v9, g_v9, hj⟩ := Option.bind_eq_some_iff.mp hj
        refine f_D (k_V (b := p0) (As := [.int p1, .int p2]) (n := 2) (rest := [.int p3, .ref p0]) cx hl.1 hP hS (c_X6_x l X g M p0 p1 p2 v9 g_v9) o8 rfl mC_X6_x mM_X6_136 mI_X6_x mS_X6_x mZ_X6 (by decide +kernel) ⟨Nat.le_of_ble_eq_true rfl, Nat.le_of_ble_eq_true rfl⟩ rfl rfl (Nat.le_of_ble_eq_true rfl) dX6_reckon_91 ⟨Nat.le_of_ble_eq_true rfl, Nat.le_of_ble_eq_true rfl⟩) hS (fun H locs hP hS => ?_)
        have hP : hp X M H := hP
        refine W.eq (g2 := F0 m 94 ls [.double v9, .int p3, .ref p0]) rfl ?_
        refine W.widen (k := 0) (n := 0) (Nat.le_of_ble_eq_true rfl) (Nat.le_of_ble_eq_true rfl) ?_
        refine lv_aload_n hx hb dX6_reckon_94 rfl (lv_at hl 0 rfl) ?_
        refine lv_iload_n hx hb dX6_reckon_95 rfl (lv_at hl 1 rfl) ?_
        refine lv_iload_n hx hb dX6_reckon_96 rfl (lv_at hl 2 rfl) ?_
        obtain ⟨_, o10, hj⟩ := Option.bind_eq_some_iff.mp hj
        obtain ⟨v11, g_v11, hj⟩ := Option.bind_eq_some_iff.mp hj
        refine f_D (k_V (b := p0) (As := [.int p1, .int p2]) (n := 2) (rest := [.double v9, .int p3, .ref p0]) cx hl.1 hP hS (c_X6_y l X g M p0 p1 p2 v11 g_v11) o10 rfl mC_X6_y mM_X6_144 mI_X6_y mS_X6_y mZ_X6 (by decide +kernel) ⟨Nat.le_of_ble_eq_true rfl, Nat.le_of_ble_eq_true rfl⟩ rfl rfl (Nat.le_of_ble_eq_true rfl) dX6_reckon_97 ⟨Nat.le_of_ble_eq_true rfl, Nat.le_of_ble_eq_true rfl⟩) hS (fun H locs hP hS => ?_)
        have hP : hp X M H := hP
        refine W.eq (g2 := F0 m 100 ls [.double v11, .double v9, .int p3, .ref p0]) rfl ?_
        refine W.widen (k := 0) (n := 0) (Nat.le_of_ble_eq_true rfl) (Nat.le_of_ble_eq_true rfl) ?_
        refine lv_iload hx hb dX6_reckon_100 (lv_at hl 4 rfl) ?_
        obtain ⟨_, o12, hj⟩ := Option.bind_eq_some_iff.mp hj
        obtain ⟨M13, g_M13, hj⟩ := Option.bind_eq_some_iff.mp hj
        refine f_V (k_V (b := p0) (As := [.int p3, .double v9, .double v11, .int p4]) (n := 4) (rest := []) cx hl.1 hP hS (c_X6_both l X g M p0 p3 v9 v11 p4 M13 g_M13) o12 rfl mC_X6_both mM_X6_165 mI_X6_both mS_X6_both mZ_X6 (by decide +kernel) ⟨Nat.le_of_ble_eq_true rfl, Nat.le_of_ble_eq_true rfl⟩ rfl rfl (Nat.le_of_ble_eq_true rfl) dX6_reckon_102 ⟨Nat.le_of_ble_eq_true rfl, Nat.le_of_ble_eq_true rfl⟩) hS (fun H locs hP hS => ?_)
        have hP : hp X M13 H := hP
        refine W.eq (g2 := F0 m 105 ls []) rfl ?_
        refine W.widen (k := 0) (n := 0) (Nat.le_of_ble_eq_true rfl) (Nat.le_of_ble_eq_true rfl) ?_
        exact J_105 M13 H locs ls hj hP hS (lv_sub hl [] rfl)
      · have hj := if_f c7 hj
        refine lv_aload_n hx hb dX6_reckon_70 rfl (lv_at hl 0 rfl) ?_
        refine lv_iload_n hx hb dX6_reckon_71 rfl (lv_at hl 3 rfl) ?_
        refine lv_aload_n hx hb dX6_reckon_72 rfl (lv_at hl 0 rfl) ?_
        refine lv_iload_n hx hb dX6_reckon_73 rfl (lv_at hl 1 rfl) ?_
        refine lv_iload_n hx hb dX6_reckon_74 rfl (lv_at hl 2 rfl) ?_
        obtain ⟨_, o14, hj⟩ := Option.bind_eq_some_iff.mp hj
        obtain ⟨v15, g_v15, hj⟩ := Option.bind_eq_some_iff.mp hj
        refine f_D (k_V (b := p0) (As := [.int p1, .int p2]) (n := 2) (rest := [.int p3, .ref p0]) cx hl.1 hP hS (c_X6_x l X g M p0 p1 p2 v15 g_v15) o14 rfl mC_X6_x mM_X6_136 mI_X6_x mS_X6_x mZ_X6 (by decide +kernel) ⟨Nat.le_of_ble_eq_true rfl, Nat.le_of_ble_eq_true rfl⟩ rfl rfl (Nat.le_of_ble_eq_true rfl) dX6_reckon_75 ⟨Nat.le_of_ble_eq_true rfl, Nat.le_of_ble_eq_true rfl⟩) hS (fun H locs hP hS => ?_)
        have hP : hp X M H := hP
        refine W.eq (g2 := F0 m 78 ls [.double v15, .int p3, .ref p0]) rfl ?_
        refine W.widen (k := 0) (n := 0) (Nat.le_of_ble_eq_true rfl) (Nat.le_of_ble_eq_true rfl) ?_
        refine lv_iload hx hb dX6_reckon_78 (lv_at hl 4 rfl) ?_
        obtain ⟨_, o16, hj⟩ := Option.bind_eq_some_iff.mp hj
        obtain ⟨M17, g_M17, hj⟩ := Option.bind_eq_some_iff.mp hj
        refine f_V (k_V (b := p0) (As := [.int p3, .double v15, .int p4]) (n := 3) (rest := []) cx hl.1 hP hS (c_X6_single l X g M p0 p3 v15 p4 M17 g_M17) o16 rfl mC_X6_single mM_X6_161 mI_X6_single mS_X6_single mZ_X6 (by decide +kernel) ⟨Nat.le_of_ble_eq_true rfl, Nat.le_of_ble_eq_true rfl⟩ rfl rfl (Nat.le_of_ble_eq_true rfl) dX6_reckon_80 ⟨Nat.le_of_ble_eq_true rfl, Nat.le_of_ble_eq_true rfl⟩) hS (fun H locs hP hS => ?_)
        have hP : hp X M17 H := hP
        refine W.eq (g2 := F0 m 83 ls []) rfl ?_
        refine W.widen (k := 0) (n := 0) (Nat.le_of_ble_eq_true rfl) (Nat.le_of_ble_eq_true rfl) ?_
        refine lv_goto (tgt := 105) hx hb dX6_reckon_83 (by decide) ?_
        exact J_105 M17 H locs ls hj hP hS (lv_sub hl [] rfl)
    have J_57 : ∀ (M : hm) (p0 : Nat) (H : Heap) (locs : List Loc) (ls : Array Slot), j_X6_reckon_57 g M p0 = some RR → hp X M H → va_S (hA X) s.heap H locs → lv_has ls 6 [(0, .ref p0)] → W p l e ({ frames := 5, cells := 0, slots := 0, locals := 120 } : Room) s m _ below meth c H locs 0 0 (MQ below (qV X RR) _ s 0 0 (hA X)) (F0 m 57 ls []) := by
      intro M p0 H locs ls hj hP hS hl
      unfold j_X6_reckon_57 at hj
      refine lv_aload_n hx hb dX6_reckon_57 rfl (lv_at hl 0 rfl) ?_
      obtain ⟨_, o18, hj⟩ := Option.bind_eq_some_iff.mp hj
      obtain ⟨M19, g_M19, hj⟩ := Option.bind_eq_some_iff.mp hj
      refine f_V (k_V (b := p0) (As := []) (n := 0) (rest := []) cx hl.1 hP hS (c_X6_givesNothing l X g M p0 M19 g_M19) o18 rfl mC_X6_givesNothing mM_X6_114 mI_X6_givesNothing mS_X6_givesNothing mZ_X6 (by decide +kernel) ⟨Nat.le_of_ble_eq_true rfl, Nat.le_of_ble_eq_true rfl⟩ rfl rfl (Nat.le_of_ble_eq_true rfl) dX6_reckon_58 ⟨Nat.le_of_ble_eq_true rfl, Nat.le_of_ble_eq_true rfl⟩) hS (fun H locs hP hS => ?_)
      have hP : hp X M19 H := hP
      refine W.eq (g2 := F0 m 61 ls []) rfl ?_
      refine W.widen (k := 0) (n := 0) (Nat.le_of_ble_eq_true rfl) (Nat.le_of_ble_eq_true rfl) ?_
      refine lv_goto (tgt := 105) hx hb dX6_reckon_61 (by decide) ?_
      exact J_105 M19 H locs ls hj hP hS (lv_sub hl [] rfl)
    have J_37 : ∀ (M : hm) (p0 : Nat) (p1 : Int32) (p2 : Int32) (p3 : Int32) (p4 : Int32) (p5 : Int32) (H : Heap) (locs : List Loc) (ls : Array Slot), j_X6_reckon_37 g M p0 p1 p2 p3 p4 p5 = some RR → hp X M H → va_S (hA X) s.heap H locs → lv_has ls 6 [(0, .ref p0), (1, .int p1), (2, .int p2), (3, .int p3), (4, .int p4), (5, .int p5)] → W p l e ({ frames := 5, cells := 0, slots := 0, locals := 120 } : Room) s m _ below meth c H locs 0 0 (MQ below (qV X RR) _ s 0 0 (hA X)) (F0 m 37 ls []) := by
      intro M p0 p1 p2 p3 p4 p5 H locs ls hj hP hS hl
      unfold j_X6_reckon_37 at hj
      refine lv_iload hx hb dX6_reckon_37 (lv_at hl 5 rfl) ?_
      refine lv_if_ne (tgt := 57) hx hb dX6_reckon_39 (by decide) (fun c20 => ?_) (fun c20 => ?_)
      · have hj := if_f c20 hj
        exact J_57 M p0 H locs ls hj hP hS (lv_sub hl [0] rfl)
      · have hj := if_t c20 hj
        refine lv_iload_n hx hb dX6_reckon_42 rfl (lv_at hl 3 rfl) ?_
        refine lv_bipush (v := 9) hx hb dX6_reckon_43 (by decide) ?_
        refine lv_icmp_lt (tgt := 64) hx hb dX6_reckon_45 (by decide) (fun c21 => ?_) (fun c21 => ?_)
        · have hj := if_t c21 hj
          exact J_64 M p0 p1 p2 p3 p4 H locs ls hj hP hS (lv_sub hl [0, 1, 2, 3, 4] rfl)
        · have hj := if_f c21 hj
          refine lv_aload_n hx hb dX6_reckon_48 rfl (lv_at hl 0 rfl) ?_
          refine lv_iload_n hx hb dX6_reckon_49 rfl (lv_at hl 1 rfl) ?_
          refine lv_iload_n hx hb dX6_reckon_50 rfl (lv_at hl 2 rfl) ?_
          obtain ⟨_, o22, hj⟩ := Option.bind_eq_some_iff.mp hj
          obtain ⟨v23, g_v23, hj⟩ := Option.bind_eq_some_iff.mp hj
          refine f_I (k_V (b := p0) (As := [.int p1, .int p2]) (n := 2) (rest := []) cx hl.1 hP hS (c_X6_noY l X g M p0 p1 p2 v23 g_v23) o22 rfl mC_X6_noY mM_X6_147 mI_X6_noY mS_X6_noY mZ_X6 (by decide +kernel) ⟨Nat.le_of_ble_eq_true rfl, Nat.le_of_ble_eq_true rfl⟩ rfl rfl (Nat.le_of_ble_eq_true rfl) dX6_reckon_51 ⟨Nat.le_of_ble_eq_true rfl, Nat.le_of_ble_eq_true rfl⟩) hS (fun H locs hP hS => ?_)
          have hP : hp X M H := hP
          refine W.eq (g2 := F0 m 54 ls [.int v23]) rfl ?_
          refine W.widen (k := 0) (n := 0) (Nat.le_of_ble_eq_true rfl) (Nat.le_of_ble_eq_true rfl) ?_
          refine lv_if_eq (tgt := 64) hx hb dX6_reckon_54 (by decide) (fun c24 => ?_) (fun c24 => ?_)
          · have hj := if_t c24 hj
            exact J_64 M p0 p1 p2 p3 p4 H locs ls hj hP hS (lv_sub hl [0, 1, 2, 3, 4] rfl)
          · have hj := if_f c24 hj
            exact J_57 M p0 H locs ls hj hP hS (lv_sub hl [0] rfl)
    intro H locs hP hS
    refine lv_aload_n hx hb dX6_reckon_0 rfl (lv_at hl 0 rfl) ?_
    obtain ⟨v25, g_v25, hj⟩ := Option.bind_eq_some_iff.mp hj
    refine r_getR cx hP g_v25 iX6 rfl (by decide) mF_X6_22 dX6_reckon_1 ?_
    refine lv_iconst (v := 4) hx hb dX6_reckon_4 (by decide) ?_
    refine lv_iload_n hx hb dX6_reckon_5 rfl (lv_at hl 1 rfl) ?_
    refine lv_imul hx hb dX6_reckon_6 ?_
    obtain ⟨b26, e_b26, hj⟩ := Option.bind_eq_some_iff.mp hj
    subst e_b26
    obtain ⟨v27, g_v27, hj⟩ := Option.bind_eq_some_iff.mp hj
    refine r_aldI cx hP g_v27 dX6_reckon_7 ?_
    refine lv_istore_n (lv' := [(3, .int v27), (0, .ref a0), (1, .int a1), (2, .int a2)]) hx hb dX6_reckon_8 rfl hl (by decide) rfl (fun ls hl => ?_)
    refine lv_aload_n hx hb dX6_reckon_9 rfl (lv_at hl 1 rfl) ?_
    obtain ⟨v28, g_v28, hj⟩ := Option.bind_eq_some_iff.mp hj
    refine r_getR cx hP g_v28 iX6 rfl (by decide) mF_X6_19 dX6_reckon_10 ?_
    refine lv_iload_n hx hb dX6_reckon_13 rfl (lv_at hl 2 rfl) ?_
    obtain ⟨b29, e_b29, hj⟩ := Option.bind_eq_some_iff.mp hj
    subst e_b29
    obtain ⟨v30, g_v30, hj⟩ := Option.bind_eq_some_iff.mp hj
    refine r_aldZ cx hP g_v30 dX6_reckon_14 ?_
    refine lv_istore (lv' := [(4, .int v30), (3, .int v27), (0, .ref a0), (1, .int a1), (2, .int a2)]) hx hb dX6_reckon_15 hl (by decide) rfl (fun ls hl => ?_)
    refine lv_aload_n hx hb dX6_reckon_17 rfl (lv_at hl 2 rfl) ?_
    refine lv_iload_n hx hb dX6_reckon_18 rfl (lv_at hl 3 rfl) ?_
    refine lv_iload_n hx hb dX6_reckon_19 rfl (lv_at hl 4 rfl) ?_
    obtain ⟨_, o31, hj⟩ := Option.bind_eq_some_iff.mp hj
    obtain ⟨v32, g_v32, hj⟩ := Option.bind_eq_some_iff.mp hj
    refine f_I (k_V (b := a0) (As := [.int a1, .int a2]) (n := 2) (rest := []) cx hl.1 hP hS (c_X6_noX l X g M a0 a1 a2 v32 g_v32) o31 rfl mC_X6_noX mM_X6_140 mI_X6_noX mS_X6_noX mZ_X6 (by decide +kernel) ⟨Nat.le_of_ble_eq_true rfl, Nat.le_of_ble_eq_true rfl⟩ rfl rfl (Nat.le_of_ble_eq_true rfl) dX6_reckon_20 ⟨Nat.le_of_ble_eq_true rfl, Nat.le_of_ble_eq_true rfl⟩) hS (fun H locs hP hS => ?_)
    have hP : hp X M H := hP
    refine W.eq (g2 := F0 m 23 ls [.int v32]) rfl ?_
    refine W.widen (k := 0) (n := 0) (Nat.le_of_ble_eq_true rfl) (Nat.le_of_ble_eq_true rfl) ?_
    refine lv_istore (lv' := [(5, .int v32), (4, .int v30), (3, .int v27), (0, .ref a0), (1, .int a1), (2, .int a2)]) hx hb dX6_reckon_23 hl (by decide) rfl (fun ls hl => ?_)
    refine lv_iload_n hx hb dX6_reckon_25 rfl (lv_at hl 2 rfl) ?_
    refine lv_bipush (v := 16) hx hb dX6_reckon_26 (by decide) ?_
    refine lv_icmp_le (tgt := 37) hx hb dX6_reckon_28 (by decide) (fun c33 => ?_) (fun c33 => ?_)
    · have hj := if_t c33 hj
      exact J_37 M a0 a1 a2 v27 v30 v32 H locs ls hj hP hS (lv_sub hl [3, 4, 5, 2, 1, 0] rfl)
    · have hj := if_f c33 hj
      refine lv_iload_n hx hb dX6_reckon_31 rfl (lv_at hl 2 rfl) ?_
      refine lv_bipush (v := 26) hx hb dX6_reckon_32 (by decide) ?_
      refine lv_icmp_ne (tgt := 106) hx hb dX6_reckon_34 (by decide) (fun c34 => ?_) (fun c34 => ?_)
      · have hj := if_f c34 hj
        refine lv_iload_n hx hb dX6_reckon_106 rfl (lv_at hl 2 rfl) ?_
        by_cases c35 : v27 = (17 : Int32)
        · have hj := if_t c35 hj
          refine lv_tableIn (off := 45) (tgt := 152) hx hb dX6_reckon_107 (by rw [c35]; decide) (by rw [c35]; decide) (by rw [c35]; decide) (by decide) ?_
          refine lv_iload hx hb dX6_reckon_152 (lv_at hl 0 rfl) ?_
          refine lv_if_ne (tgt := 166) hx hb dX6_reckon_154 (by decide) (fun c43 => ?_) (fun c43 => ?_)
          · have hj := if_f c43 hj
            exact J_166 M a0 H locs ls hj hP hS (lv_sub hl [3] rfl)
          · have hj := if_t c43 hj
            refine lv_aload_n hx hb dX6_reckon_157 rfl (lv_at hl 3 rfl) ?_
            refine lv_iload_n hx hb dX6_reckon_158 rfl (lv_at hl 4 rfl) ?_
            refine lv_iload_n hx hb dX6_reckon_159 rfl (lv_at hl 5 rfl) ?_
            obtain ⟨_, o44, hj⟩ := Option.bind_eq_some_iff.mp hj
            obtain ⟨v45, g_v45, hj⟩ := Option.bind_eq_some_iff.mp hj
            refine f_I (k_V (b := a0) (As := [.int a1, .int a2]) (n := 2) (rest := []) cx hl.1 hP hS (c_X6_compares l X g M a0 a1 a2 v45 g_v45) o44 rfl mC_X6_compares mM_X6_158 mI_X6_compares mS_X6_compares mZ_X6 (by decide +kernel) ⟨Nat.le_of_ble_eq_true rfl, Nat.le_of_ble_eq_true rfl⟩ rfl rfl (Nat.le_of_ble_eq_true rfl) dX6_reckon_160 ⟨Nat.le_of_ble_eq_true rfl, Nat.le_of_ble_eq_true rfl⟩) hS (fun H locs hP hS => ?_)
            have hP : hp X M H := hP
            refine W.eq (g2 := F0 m 163 ls [.int v45]) rfl ?_
            refine W.widen (k := 0) (n := 0) (Nat.le_of_ble_eq_true rfl) (Nat.le_of_ble_eq_true rfl) ?_
            refine lv_if_ne (tgt := 173) hx hb dX6_reckon_163 (by decide) (fun c46 => ?_) (fun c46 => ?_)
            · have hj := if_f c46 hj
              refine lv_aload_n hx hb dX6_reckon_173 rfl (lv_at hl 3 rfl) ?_
              refine lv_aload_n hx hb dX6_reckon_174 rfl (lv_at hl 3 rfl) ?_
              refine lv_iload_n hx hb dX6_reckon_175 rfl (lv_at hl 4 rfl) ?_
              refine lv_iload_n hx hb dX6_reckon_176 rfl (lv_at hl 5 rfl) ?_
              obtain ⟨_, o47, hj⟩ := Option.bind_eq_some_iff.mp hj
              obtain ⟨v48, g_v48, hj⟩ := Option.bind_eq_some_iff.mp hj
              refine f_D (k_V (b := a0) (As := [.int a1, .int a2]) (n := 2) (rest := [.ref a0]) cx hl.1 hP hS (c_X6_x l X g M a0 a1 a2 v48 g_v48) o47 rfl mC_X6_x mM_X6_136 mI_X6_x mS_X6_x mZ_X6 (by decide +kernel) ⟨Nat.le_of_ble_eq_true rfl, Nat.le_of_ble_eq_true rfl⟩ rfl rfl (Nat.le_of_ble_eq_true rfl) dX6_reckon_177 ⟨Nat.le_of_ble_eq_true rfl, Nat.le_of_ble_eq_true rfl⟩) hS (fun H locs hP hS => ?_)
              have hP : hp X M H := hP
              refine W.eq (g2 := F0 m 180 ls [.double v48, .ref a0]) rfl ?_
              refine W.widen (k := 0) (n := 0) (Nat.le_of_ble_eq_true rfl) (Nat.le_of_ble_eq_true rfl) ?_
              obtain ⟨_, o49, hj⟩ := Option.bind_eq_some_iff.mp hj
              obtain ⟨M50, g_M50, hj⟩ := Option.bind_eq_some_iff.mp hj
              refine f_V (k_V (b := a0) (As := [.double v48]) (n := 1) (rest := []) cx hl.1 hP hS (c_X6_gives l X g M a0 v48 M50 g_M50) o49 rfl mC_X6_gives mM_X6_94 mI_X6_gives mS_X6_gives mZ_X6 (by decide +kernel) ⟨Nat.le_of_ble_eq_true rfl, Nat.le_of_ble_eq_true rfl⟩ rfl rfl (Nat.le_of_ble_eq_true rfl) dX6_reckon_180 ⟨Nat.le_of_ble_eq_true rfl, Nat.le_of_ble_eq_true rfl⟩) hS (fun H locs hP hS => ?_)
              have hP : hp X M50 H := hP
              refine W.eq (g2 := F0 m 183 ls []) rfl ?_
              refine W.widen (k := 0) (n := 0) (Nat.le_of_ble_eq_true rfl) (Nat.le_of_ble_eq_true rfl) ?_
              refine lv_goto (tgt := 409) hx hb dX6_reckon_183 (by decide) ?_
              exact J_409 M50 H locs ls hj hP hS (lv_sub hl [] rfl)
            · have hj := if_t c46 hj
              exact J_166 M a0 H locs ls hj hP hS (lv_sub hl [3] rfl)
        have hj := if_f c35 hj
        by_cases c36 : v27 = (18 : Int32)
        · have hj := if_t c36 hj
          refine lv_tableIn (off := 79) (tgt := 186) hx hb dX6_reckon_107 (by rw [c36]; decide) (by rw [c36]; decide) (by rw [c36]; decide) (by decide) ?_
          refine lv_iload hx hb dX6_reckon_186 (lv_at hl 0 rfl) ?_
          refine lv_if_ne (tgt := 204) hx hb dX6_reckon_188 (by decide) (fun c51 => ?_) (fun c51 => ?_)
          · have hj := if_f c51 hj
            refine lv_aload_n hx hb dX6_reckon_204 rfl (lv_at hl 3 rfl) ?_
            refine lv_iload_n hx hb dX6_reckon_205 rfl (lv_at hl 4 rfl) ?_
            refine lv_iload_n hx hb dX6_reckon_206 rfl (lv_at hl 5 rfl) ?_
            obtain ⟨_, o52, hj⟩ := Option.bind_eq_some_iff.mp hj
            obtain ⟨v53, g_v53, hj⟩ := Option.bind_eq_some_iff.mp hj
            refine f_I (k_V (b := a0) (As := [.int a1, .int a2]) (n := 2) (rest := []) cx hl.1 hP hS (c_X6_noY l X g M a0 a1 a2 v53 g_v53) o52 rfl mC_X6_noY mM_X6_147 mI_X6_noY mS_X6_noY mZ_X6 (by decide +kernel) ⟨Nat.le_of_ble_eq_true rfl, Nat.le_of_ble_eq_true rfl⟩ rfl rfl (Nat.le_of_ble_eq_true rfl) dX6_reckon_207 ⟨Nat.le_of_ble_eq_true rfl, Nat.le_of_ble_eq_true rfl⟩) hS (fun H locs hP hS => ?_)
            have hP : hp X M H := hP
            refine W.eq (g2 := F0 m 210 ls [.int v53]) rfl ?_
            refine W.widen (k := 0) (n := 0) (Nat.le_of_ble_eq_true rfl) (Nat.le_of_ble_eq_true rfl) ?_
            refine lv_if_eq (tgt := 220) hx hb dX6_reckon_210 (by decide) (fun c54 => ?_) (fun c54 => ?_)
            · have hj := if_t c54 hj
              refine lv_aload_n hx hb dX6_reckon_220 rfl (lv_at hl 3 rfl) ?_
              refine lv_aload_n hx hb dX6_reckon_221 rfl (lv_at hl 3 rfl) ?_
              refine lv_iload_n hx hb dX6_reckon_222 rfl (lv_at hl 4 rfl) ?_
              refine lv_iload_n hx hb dX6_reckon_223 rfl (lv_at hl 5 rfl) ?_
              obtain ⟨_, o55, hj⟩ := Option.bind_eq_some_iff.mp hj
              obtain ⟨v56, g_v56, hj⟩ := Option.bind_eq_some_iff.mp hj
              refine f_D (k_V (b := a0) (As := [.int a1, .int a2]) (n := 2) (rest := [.ref a0]) cx hl.1 hP hS (c_X6_y l X g M a0 a1 a2 v56 g_v56) o55 rfl mC_X6_y mM_X6_144 mI_X6_y mS_X6_y mZ_X6 (by decide +kernel) ⟨Nat.le_of_ble_eq_true rfl, Nat.le_of_ble_eq_true rfl⟩ rfl rfl (Nat.le_of_ble_eq_true rfl) dX6_reckon_224 ⟨Nat.le_of_ble_eq_true rfl, Nat.le_of_ble_eq_true rfl⟩) hS (fun H locs hP hS => ?_)
              have hP : hp X M H := hP
              refine W.eq (g2 := F0 m 227 ls [.double v56, .ref a0]) rfl ?_
              refine W.widen (k := 0) (n := 0) (Nat.le_of_ble_eq_true rfl) (Nat.le_of_ble_eq_true rfl) ?_
              obtain ⟨_, o57, hj⟩ := Option.bind_eq_some_iff.mp hj
              obtain ⟨M58, g_M58, hj⟩ := Option.bind_eq_some_iff.mp hj
              refine f_V (k_V (b := a0) (As := [.double v56]) (n := 1) (rest := []) cx hl.1 hP hS (c_X6_gives l X g M a0 v56 M58 g_M58) o57 rfl mC_X6_gives mM_X6_94 mI_X6_gives mS_X6_gives mZ_X6 (by decide +kernel) ⟨Nat.le_of_ble_eq_true rfl, Nat.le_of_ble_eq_true rfl⟩ rfl rfl (Nat.le_of_ble_eq_true rfl) dX6_reckon_227 ⟨Nat.le_of_ble_eq_true rfl, Nat.le_of_ble_eq_true rfl⟩) hS (fun H locs hP hS => ?_)
              have hP : hp X M58 H := hP
              refine W.eq (g2 := F0 m 230 ls []) rfl ?_
              refine W.widen (k := 0) (n := 0) (Nat.le_of_ble_eq_true rfl) (Nat.le_of_ble_eq_true rfl) ?_
              refine lv_goto (tgt := 409) hx hb dX6_reckon_230 (by decide) ?_
              exact J_409 M58 H locs ls hj hP hS (lv_sub hl [] rfl)
            · have hj := if_f c54 hj
              refine lv_aload_n hx hb dX6_reckon_213 rfl (lv_at hl 3 rfl) ?_
              obtain ⟨_, o59, hj⟩ := Option.bind_eq_some_iff.mp hj
              obtain ⟨M60, g_M60, hj⟩ := Option.bind_eq_some_iff.mp hj
              refine f_V (k_V (b := a0) (As := []) (n := 0) (rest := []) cx hl.1 hP hS (c_X6_givesNothing l X g M a0 M60 g_M60) o59 rfl mC_X6_givesNothing mM_X6_114 mI_X6_givesNothing mS_X6_givesNothing mZ_X6 (by decide +kernel) ⟨Nat.le_of_ble_eq_true rfl, Nat.le_of_ble_eq_true rfl⟩ rfl rfl (Nat.le_of_ble_eq_true rfl) dX6_reckon_214 ⟨Nat.le_of_ble_eq_true rfl, Nat.le_of_ble_eq_true rfl⟩) hS (fun H locs hP hS => ?_)
              have hP : hp X M60 H := hP
              refine W.eq (g2 := F0 m 217 ls []) rfl ?_
              refine W.widen (k := 0) (n := 0) (Nat.le_of_ble_eq_true rfl) (Nat.le_of_ble_eq_true rfl) ?_
              refine lv_goto (tgt := 409) hx hb dX6_reckon_217 (by decide) ?_
              exact J_409 M60 H locs ls hj hP hS (lv_sub hl [] rfl)
          · have hj := if_t c51 hj
            refine lv_aload_n hx hb dX6_reckon_191 rfl (lv_at hl 3 rfl) ?_
            refine lv_aload_n hx hb dX6_reckon_192 rfl (lv_at hl 3 rfl) ?_
            refine lv_iload_n hx hb dX6_reckon_193 rfl (lv_at hl 4 rfl) ?_
            refine lv_iload_n hx hb dX6_reckon_194 rfl (lv_at hl 5 rfl) ?_
            obtain ⟨_, o61, hj⟩ := Option.bind_eq_some_iff.mp hj
            obtain ⟨v62, g_v62, hj⟩ := Option.bind_eq_some_iff.mp hj
            refine f_D (k_V (b := a0) (As := [.int a1, .int a2]) (n := 2) (rest := [.ref a0]) cx hl.1 hP hS (c_X6_x l X g M a0 a1 a2 v62 g_v62) o61 rfl mC_X6_x mM_X6_136 mI_X6_x mS_X6_x mZ_X6 (by decide +kernel) ⟨Nat.le_of_ble_eq_true rfl, Nat.le_of_ble_eq_true rfl⟩ rfl rfl (Nat.le_of_ble_eq_true rfl) dX6_reckon_195 ⟨Nat.le_of_ble_eq_true rfl, Nat.le_of_ble_eq_true rfl⟩) hS (fun H locs hP hS => ?_)
            have hP : hp X M H := hP
            refine W.eq (g2 := F0 m 198 ls [.double v62, .ref a0]) rfl ?_
            refine W.widen (k := 0) (n := 0) (Nat.le_of_ble_eq_true rfl) (Nat.le_of_ble_eq_true rfl) ?_
            obtain ⟨_, o63, hj⟩ := Option.bind_eq_some_iff.mp hj
            obtain ⟨M64, g_M64, hj⟩ := Option.bind_eq_some_iff.mp hj
            refine f_V (k_V (b := a0) (As := [.double v62]) (n := 1) (rest := []) cx hl.1 hP hS (c_X6_gives l X g M a0 v62 M64 g_M64) o63 rfl mC_X6_gives mM_X6_94 mI_X6_gives mS_X6_gives mZ_X6 (by decide +kernel) ⟨Nat.le_of_ble_eq_true rfl, Nat.le_of_ble_eq_true rfl⟩ rfl rfl (Nat.le_of_ble_eq_true rfl) dX6_reckon_198 ⟨Nat.le_of_ble_eq_true rfl, Nat.le_of_ble_eq_true rfl⟩) hS (fun H locs hP hS => ?_)
            have hP : hp X M64 H := hP
            refine W.eq (g2 := F0 m 201 ls []) rfl ?_
            refine W.widen (k := 0) (n := 0) (Nat.le_of_ble_eq_true rfl) (Nat.le_of_ble_eq_true rfl) ?_
            refine lv_goto (tgt := 409) hx hb dX6_reckon_201 (by decide) ?_
            exact J_409 M64 H locs ls hj hP hS (lv_sub hl [] rfl)
        have hj := if_f c36 hj
        by_cases c37 : v27 = (19 : Int32)
        · have hj := if_t c37 hj
          refine lv_tableIn (off := 126) (tgt := 233) hx hb dX6_reckon_107 (by rw [c37]; decide) (by rw [c37]; decide) (by rw [c37]; decide) (by decide) ?_
          refine lv_iload_n hx hb dX6_reckon_233 rfl (lv_at hl 5 rfl) ?_
          refine lv_if_eq (tgt := 258) hx hb dX6_reckon_234 (by decide) (fun c65 => ?_) (fun c65 => ?_)
          · have hj := if_t c65 hj
            exact J_258 M a0 H locs ls hj hP hS (lv_sub hl [3] rfl)
          · have hj := if_f c65 hj
            refine lv_iload_n hx hb dX6_reckon_237 rfl (lv_at hl 5 rfl) ?_
            refine lv_bipush (v := 15) hx hb dX6_reckon_238 (by decide) ?_
            refine lv_icmp_eq (tgt := 258) hx hb dX6_reckon_240 (by decide) (fun c66 => ?_) (fun c66 => ?_)
            · have hj := if_t c66 hj
              exact J_258 M a0 H locs ls hj hP hS (lv_sub hl [3] rfl)
            · have hj := if_f c66 hj
              refine lv_aload_n hx hb dX6_reckon_243 rfl (lv_at hl 3 rfl) ?_
              refine lv_iload_n hx hb dX6_reckon_244 rfl (lv_at hl 4 rfl) ?_
              refine lv_iload_n hx hb dX6_reckon_245 rfl (lv_at hl 5 rfl) ?_
              refine lv_iconst (v := 1) hx hb dX6_reckon_246 (by decide) ?_
              refine lv_isub hx hb dX6_reckon_247 ?_
              refine lv_iload_n hx hb dX6_reckon_248 rfl (lv_at hl 5 rfl) ?_
              refine lv_iconst (v := 1) hx hb dX6_reckon_249 (by decide) ?_
              refine lv_iadd hx hb dX6_reckon_250 ?_
              obtain ⟨_, o67, hj⟩ := Option.bind_eq_some_iff.mp hj
              obtain ⟨v68, g_v68, hj⟩ := Option.bind_eq_some_iff.mp hj
              refine f_I (k_V (b := a0) (As := [.int a1, .int (a2 - (1 : Int32)), .int (a2 + (1 : Int32))]) (n := 3) (rest := []) cx hl.1 hP hS (c_X6_manyX l X g M a0 a1 (a2 - (1 : Int32)) (a2 + (1 : Int32)) v68 g_v68) o67 rfl mC_X6_manyX mM_X6_169 mI_X6_manyX mS_X6_manyX mZ_X6 (by decide +kernel) ⟨Nat.le_of_ble_eq_true rfl, Nat.le_of_ble_eq_true rfl⟩ rfl rfl (Nat.le_of_ble_eq_true rfl) dX6_reckon_251 ⟨Nat.le_of_ble_eq_true rfl, Nat.le_of_ble_eq_true rfl⟩) hS (fun H locs hP hS => ?_)
              have hP : hp X M H := hP
              refine W.eq (g2 := F0 m 254 ls [.int v68]) rfl ?_
              refine W.widen (k := 0) (n := 0) (Nat.le_of_ble_eq_true rfl) (Nat.le_of_ble_eq_true rfl) ?_
              refine lv_iconst (v := 3) hx hb dX6_reckon_254 (by decide) ?_
              refine lv_icmp_ge (tgt := 265) hx hb dX6_reckon_255 (by decide) (fun c69 => ?_) (fun c69 => ?_)
              · have hj := if_t c69 hj
                refine lv_aload_n hx hb dX6_reckon_265 rfl (lv_at hl 3 rfl) ?_
                refine lv_iload_n hx hb dX6_reckon_266 rfl (lv_at hl 4 rfl) ?_
                refine lv_iload_n hx hb dX6_reckon_267 rfl (lv_at hl 5 rfl) ?_
                refine lv_iconst (v := 1) hx hb dX6_reckon_268 (by decide) ?_
                refine lv_isub hx hb dX6_reckon_269 ?_
                refine lv_iload_n hx hb dX6_reckon_270 rfl (lv_at hl 5 rfl) ?_
                refine lv_iconst (v := 1) hx hb dX6_reckon_271 (by decide) ?_
                refine lv_iadd hx hb dX6_reckon_272 ?_
                refine lv_iconst (v := 1) hx hb dX6_reckon_273 (by decide) ?_
                obtain ⟨_, o70, hj⟩ := Option.bind_eq_some_iff.mp hj
                obtain ⟨M71, g_M71, hj⟩ := Option.bind_eq_some_iff.mp hj
                refine f_V (k_V (b := a0) (As := [.int a1, .int (a2 - (1 : Int32)), .int (a2 + (1 : Int32)), .int (1 : Int32)]) (n := 4) (rest := []) cx hl.1 hP hS (c_X6_ranked l X g M a0 a1 (a2 - (1 : Int32)) (a2 + (1 : Int32)) (1 : Int32) M71 g_M71) o70 rfl mC_X6_ranked mM_X6_173 mI_X6_ranked mS_X6_ranked mZ_X6 (by decide +kernel) ⟨Nat.le_of_ble_eq_true rfl, Nat.le_of_ble_eq_true rfl⟩ rfl rfl (Nat.le_of_ble_eq_true rfl) dX6_reckon_274 ⟨Nat.le_of_ble_eq_true rfl, Nat.le_of_ble_eq_true rfl⟩) hS (fun H locs hP hS => ?_)
                have hP : hp X M71 H := hP
                refine W.eq (g2 := F0 m 277 ls []) rfl ?_
                refine W.widen (k := 0) (n := 0) (Nat.le_of_ble_eq_true rfl) (Nat.le_of_ble_eq_true rfl) ?_
                refine lv_goto (tgt := 409) hx hb dX6_reckon_277 (by decide) ?_
                exact J_409 M71 H locs ls hj hP hS (lv_sub hl [] rfl)
              · have hj := if_f c69 hj
                exact J_258 M a0 H locs ls hj hP hS (lv_sub hl [3] rfl)
        have hj := if_f c37 hj
        by_cases c38 : v27 = (20 : Int32)
        · have hj := if_t c38 hj
          refine lv_tableIn (off := 173) (tgt := 280) hx hb dX6_reckon_107 (by rw [c38]; decide) (by rw [c38]; decide) (by rw [c38]; decide) (by decide) ?_
          refine lv_aload_n hx hb dX6_reckon_280 rfl (lv_at hl 3 rfl) ?_
          refine lv_iload_n hx hb dX6_reckon_281 rfl (lv_at hl 4 rfl) ?_
          refine lv_iconst (v := 0) hx hb dX6_reckon_282 (by decide) ?_
          refine lv_iload_n hx hb dX6_reckon_283 rfl (lv_at hl 5 rfl) ?_
          refine lv_aload_n hx hb dX6_reckon_284 rfl (lv_at hl 3 rfl) ?_
          refine lv_iload_n hx hb dX6_reckon_285 rfl (lv_at hl 4 rfl) ?_
          refine lv_iconst (v := 0) hx hb dX6_reckon_286 (by decide) ?_
          refine lv_iload_n hx hb dX6_reckon_287 rfl (lv_at hl 5 rfl) ?_
          obtain ⟨_, o72, hj⟩ := Option.bind_eq_some_iff.mp hj
          obtain ⟨v73, g_v73, hj⟩ := Option.bind_eq_some_iff.mp hj
          refine f_I (k_V (b := a0) (As := [.int a1, .int (0 : Int32), .int a2]) (n := 3) (rest := [.int a2, .int (0 : Int32), .int a1, .ref a0]) cx hl.1 hP hS (c_X6_manyX l X g M a0 a1 (0 : Int32) a2 v73 g_v73) o72 rfl mC_X6_manyX mM_X6_169 mI_X6_manyX mS_X6_manyX mZ_X6 (by decide +kernel) ⟨Nat.le_of_ble_eq_true rfl, Nat.le_of_ble_eq_true rfl⟩ rfl rfl (Nat.le_of_ble_eq_true rfl) dX6_reckon_288 ⟨Nat.le_of_ble_eq_true rfl, Nat.le_of_ble_eq_true rfl⟩) hS (fun H locs hP hS => ?_)
          have hP : hp X M H := hP
          refine W.eq (g2 := F0 m 291 ls [.int v73, .int a2, .int (0 : Int32), .int a1, .ref a0]) rfl ?_
          refine W.widen (k := 0) (n := 0) (Nat.le_of_ble_eq_true rfl) (Nat.le_of_ble_eq_true rfl) ?_
          refine lv_iconst (v := 1) hx hb dX6_reckon_291 (by decide) ?_
          refine lv_isub hx hb dX6_reckon_292 ?_
          obtain ⟨_, o74, hj⟩ := Option.bind_eq_some_iff.mp hj
          obtain ⟨M75, g_M75, hj⟩ := Option.bind_eq_some_iff.mp hj
          refine f_V (k_V (b := a0) (As := [.int a1, .int (0 : Int32), .int a2, .int (v73 - (1 : Int32))]) (n := 4) (rest := []) cx hl.1 hP hS (c_X6_ranked l X g M a0 a1 (0 : Int32) a2 (v73 - (1 : Int32)) M75 g_M75) o74 rfl mC_X6_ranked mM_X6_173 mI_X6_ranked mS_X6_ranked mZ_X6 (by decide +kernel) ⟨Nat.le_of_ble_eq_true rfl, Nat.le_of_ble_eq_true rfl⟩ rfl rfl (Nat.le_of_ble_eq_true rfl) dX6_reckon_293 ⟨Nat.le_of_ble_eq_true rfl, Nat.le_of_ble_eq_true rfl⟩) hS (fun H locs hP hS => ?_)
          have hP : hp X M75 H := hP
          refine W.eq (g2 := F0 m 296 ls []) rfl ?_
          refine W.widen (k := 0) (n := 0) (Nat.le_of_ble_eq_true rfl) (Nat.le_of_ble_eq_true rfl) ?_
          refine lv_goto (tgt := 409) hx hb dX6_reckon_296 (by decide) ?_
          exact J_409 M75 H locs ls hj hP hS (lv_sub hl [] rfl)
        have hj := if_f c38 hj
        by_cases c39 : v27 = (21 : Int32)
        · have hj := if_t c39 hj
          refine lv_tableIn (off := 192) (tgt := 299) hx hb dX6_reckon_107 (by rw [c39]; decide) (by rw [c39]; decide) (by rw [c39]; decide) (by decide) ?_
          refine lv_aload_n hx hb dX6_reckon_299 rfl (lv_at hl 3 rfl) ?_
          refine lv_iload_n hx hb dX6_reckon_300 rfl (lv_at hl 4 rfl) ?_
          refine lv_iconst (v := 0) hx hb dX6_reckon_301 (by decide) ?_
          refine lv_iload_n hx hb dX6_reckon_302 rfl (lv_at hl 5 rfl) ?_
          refine lv_iconst (v := 0) hx hb dX6_reckon_303 (by decide) ?_
          obtain ⟨_, o76, hj⟩ := Option.bind_eq_some_iff.mp hj
          obtain ⟨M77, g_M77, hj⟩ := Option.bind_eq_some_iff.mp hj
          refine f_V (k_V (b := a0) (As := [.int a1, .int (0 : Int32), .int a2, .int (0 : Int32)]) (n := 4) (rest := []) cx hl.1 hP hS (c_X6_ranked l X g M a0 a1 (0 : Int32) a2 (0 : Int32) M77 g_M77) o76 rfl mC_X6_ranked mM_X6_173 mI_X6_ranked mS_X6_ranked mZ_X6 (by decide +kernel) ⟨Nat.le_of_ble_eq_true rfl, Nat.le_of_ble_eq_true rfl⟩ rfl rfl (Nat.le_of_ble_eq_true rfl) dX6_reckon_304 ⟨Nat.le_of_ble_eq_true rfl, Nat.le_of_ble_eq_true rfl⟩) hS (fun H locs hP hS => ?_)
          have hP : hp X M77 H := hP
          refine W.eq (g2 := F0 m 307 ls []) rfl ?_
          refine W.widen (k := 0) (n := 0) (Nat.le_of_ble_eq_true rfl) (Nat.le_of_ble_eq_true rfl) ?_
          refine lv_goto (tgt := 409) hx hb dX6_reckon_307 (by decide) ?_
          exact J_409 M77 H locs ls hj hP hS (lv_sub hl [] rfl)
        have hj := if_f c39 hj
        by_cases c40 : v27 = (22 : Int32)
        · have hj := if_t c40 hj
          refine lv_tableIn (off := 203) (tgt := 310) hx hb dX6_reckon_107 (by rw [c40]; decide) (by rw [c40]; decide) (by rw [c40]; decide) (by decide) ?_
          refine lv_aload_n hx hb dX6_reckon_310 rfl (lv_at hl 3 rfl) ?_
          refine lv_iload_n hx hb dX6_reckon_311 rfl (lv_at hl 4 rfl) ?_
          refine lv_iconst (v := 0) hx hb dX6_reckon_312 (by decide) ?_
          refine lv_bipush (v := 15) hx hb dX6_reckon_313 (by decide) ?_
          refine lv_iload_n hx hb dX6_reckon_315 rfl (lv_at hl 5 rfl) ?_
          obtain ⟨_, o78, hj⟩ := Option.bind_eq_some_iff.mp hj
          obtain ⟨M79, g_M79, hj⟩ := Option.bind_eq_some_iff.mp hj
          refine f_V (k_V (b := a0) (As := [.int a1, .int (0 : Int32), .int (15 : Int32), .int a2]) (n := 4) (rest := []) cx hl.1 hP hS (c_X6_ranked l X g M a0 a1 (0 : Int32) (15 : Int32) a2 M79 g_M79) o78 rfl mC_X6_ranked mM_X6_173 mI_X6_ranked mS_X6_ranked mZ_X6 (by decide +kernel) ⟨Nat.le_of_ble_eq_true rfl, Nat.le_of_ble_eq_true rfl⟩ rfl rfl (Nat.le_of_ble_eq_true rfl) dX6_reckon_316 ⟨Nat.le_of_ble_eq_true rfl, Nat.le_of_ble_eq_true rfl⟩) hS (fun H locs hP hS => ?_)
          have hP : hp X M79 H := hP
          refine W.eq (g2 := F0 m 319 ls []) rfl ?_
          refine W.widen (k := 0) (n := 0) (Nat.le_of_ble_eq_true rfl) (Nat.le_of_ble_eq_true rfl) ?_
          refine lv_goto (tgt := 409) hx hb dX6_reckon_319 (by decide) ?_
          exact J_409 M79 H locs ls hj hP hS (lv_sub hl [] rfl)
        have hj := if_f c40 hj
        by_cases c41 : v27 = (23 : Int32)
        · have hj := if_t c41 hj
          refine lv_tableIn (off := 215) (tgt := 322) hx hb dX6_reckon_107 (by rw [c41]; decide) (by rw [c41]; decide) (by rw [c41]; decide) (by decide) ?_
          refine lv_iload hx hb dX6_reckon_322 (lv_at hl 0 rfl) ?_
          refine lv_if_eq (tgt := 334) hx hb dX6_reckon_324 (by decide) (fun c80 => ?_) (fun c80 => ?_)
          · have hj := if_t c80 hj
            refine lv_aload_n hx hb dX6_reckon_334 rfl (lv_at hl 3 rfl) ?_
            refine lv_aload_n hx hb dX6_reckon_335 rfl (lv_at hl 3 rfl) ?_
            refine lv_iload_n hx hb dX6_reckon_336 rfl (lv_at hl 4 rfl) ?_
            refine lv_iload_n hx hb dX6_reckon_337 rfl (lv_at hl 5 rfl) ?_
            obtain ⟨_, o81, hj⟩ := Option.bind_eq_some_iff.mp hj
            obtain ⟨v82, g_v82, hj⟩ := Option.bind_eq_some_iff.mp hj
            refine f_I (k_V (b := a0) (As := [.int a1, .int a2]) (n := 2) (rest := [.ref a0]) cx hl.1 hP hS (c_X6_lessThan l X g M a0 a1 a2 v82 g_v82) o81 rfl mC_X6_lessThan mM_X6_177 mI_X6_lessThan mS_X6_lessThan mZ_X6 (by decide +kernel) ⟨Nat.le_of_ble_eq_true rfl, Nat.le_of_ble_eq_true rfl⟩ rfl rfl (Nat.le_of_ble_eq_true rfl) dX6_reckon_338 ⟨Nat.le_of_ble_eq_true rfl, Nat.le_of_ble_eq_true rfl⟩) hS (fun H locs hP hS => ?_)
            have hP : hp X M H := hP
            refine W.eq (g2 := F0 m 341 ls [.int v82, .ref a0]) rfl ?_
            refine W.widen (k := 0) (n := 0) (Nat.le_of_ble_eq_true rfl) (Nat.le_of_ble_eq_true rfl) ?_
            refine lv_i2d hx hb dX6_reckon_341 ?_
            obtain ⟨_, o83, hj⟩ := Option.bind_eq_some_iff.mp hj
            obtain ⟨M84, g_M84, hj⟩ := Option.bind_eq_some_iff.mp hj
            refine f_V (k_V (b := a0) (As := [.double (FP.i2d v82)]) (n := 1) (rest := []) cx hl.1 hP hS (c_X6_gives l X g M a0 (FP.i2d v82) M84 g_M84) o83 rfl mC_X6_gives mM_X6_94 mI_X6_gives mS_X6_gives mZ_X6 (by decide +kernel) ⟨Nat.le_of_ble_eq_true rfl, Nat.le_of_ble_eq_true rfl⟩ rfl rfl (Nat.le_of_ble_eq_true rfl) dX6_reckon_342 ⟨Nat.le_of_ble_eq_true rfl, Nat.le_of_ble_eq_true rfl⟩) hS (fun H locs hP hS => ?_)
            have hP : hp X M84 H := hP
            refine W.eq (g2 := F0 m 345 ls []) rfl ?_
            refine W.widen (k := 0) (n := 0) (Nat.le_of_ble_eq_true rfl) (Nat.le_of_ble_eq_true rfl) ?_
            refine lv_goto (tgt := 409) hx hb dX6_reckon_345 (by decide) ?_
            exact J_409 M84 H locs ls hj hP hS (lv_sub hl [] rfl)
          · have hj := if_f c80 hj
            refine lv_aload_n hx hb dX6_reckon_327 rfl (lv_at hl 3 rfl) ?_
            obtain ⟨_, o85, hj⟩ := Option.bind_eq_some_iff.mp hj
            obtain ⟨M86, g_M86, hj⟩ := Option.bind_eq_some_iff.mp hj
            refine f_V (k_V (b := a0) (As := []) (n := 0) (rest := []) cx hl.1 hP hS (c_X6_givesNothing l X g M a0 M86 g_M86) o85 rfl mC_X6_givesNothing mM_X6_114 mI_X6_givesNothing mS_X6_givesNothing mZ_X6 (by decide +kernel) ⟨Nat.le_of_ble_eq_true rfl, Nat.le_of_ble_eq_true rfl⟩ rfl rfl (Nat.le_of_ble_eq_true rfl) dX6_reckon_328 ⟨Nat.le_of_ble_eq_true rfl, Nat.le_of_ble_eq_true rfl⟩) hS (fun H locs hP hS => ?_)
            have hP : hp X M86 H := hP
            refine W.eq (g2 := F0 m 331 ls []) rfl ?_
            refine W.widen (k := 0) (n := 0) (Nat.le_of_ble_eq_true rfl) (Nat.le_of_ble_eq_true rfl) ?_
            refine lv_goto (tgt := 409) hx hb dX6_reckon_331 (by decide) ?_
            exact J_409 M86 H locs ls hj hP hS (lv_sub hl [] rfl)
        have hj := if_f c41 hj
        by_cases c42 : v27 = (24 : Int32)
        · have hj := if_t c42 hj
          refine lv_tableIn (off := 241) (tgt := 348) hx hb dX6_reckon_107 (by rw [c42]; decide) (by rw [c42]; decide) (by rw [c42]; decide) (by decide) ?_
          refine lv_iload hx hb dX6_reckon_348 (lv_at hl 0 rfl) ?_
          refine lv_if_ne (tgt := 368) hx hb dX6_reckon_350 (by decide) (fun c87 => ?_) (fun c87 => ?_)
          · have hj := if_f c87 hj
            exact J_368 M a0 H locs ls hj hP hS (lv_sub hl [3] rfl)
          · have hj := if_t c87 hj
            refine lv_iload_n hx hb dX6_reckon_353 rfl (lv_at hl 5 rfl) ?_
            refine lv_if_eq (tgt := 368) hx hb dX6_reckon_354 (by decide) (fun c88 => ?_) (fun c88 => ?_)
            · have hj := if_t c88 hj
              exact J_368 M a0 H locs ls hj hP hS (lv_sub hl [3] rfl)
            · have hj := if_f c88 hj
              refine lv_aload_n hx hb dX6_reckon_357 rfl (lv_at hl 3 rfl) ?_
              refine lv_iload_n hx hb dX6_reckon_358 rfl (lv_at hl 4 rfl) ?_
              refine lv_iload_n hx hb dX6_reckon_359 rfl (lv_at hl 5 rfl) ?_
              refine lv_iconst (v := 1) hx hb dX6_reckon_360 (by decide) ?_
              refine lv_isub hx hb dX6_reckon_361 ?_
              obtain ⟨_, o89, hj⟩ := Option.bind_eq_some_iff.mp hj
              obtain ⟨v90, g_v90, hj⟩ := Option.bind_eq_some_iff.mp hj
              refine f_I (k_V (b := a0) (As := [.int a1, .int (a2 - (1 : Int32))]) (n := 2) (rest := []) cx hl.1 hP hS (c_X6_noX l X g M a0 a1 (a2 - (1 : Int32)) v90 g_v90) o89 rfl mC_X6_noX mM_X6_140 mI_X6_noX mS_X6_noX mZ_X6 (by decide +kernel) ⟨Nat.le_of_ble_eq_true rfl, Nat.le_of_ble_eq_true rfl⟩ rfl rfl (Nat.le_of_ble_eq_true rfl) dX6_reckon_362 ⟨Nat.le_of_ble_eq_true rfl, Nat.le_of_ble_eq_true rfl⟩) hS (fun H locs hP hS => ?_)
              have hP : hp X M H := hP
              refine W.eq (g2 := F0 m 365 ls [.int v90]) rfl ?_
              refine W.widen (k := 0) (n := 0) (Nat.le_of_ble_eq_true rfl) (Nat.le_of_ble_eq_true rfl) ?_
              refine lv_if_eq (tgt := 375) hx hb dX6_reckon_365 (by decide) (fun c91 => ?_) (fun c91 => ?_)
              · have hj := if_t c91 hj
                refine lv_aload_n hx hb dX6_reckon_375 rfl (lv_at hl 3 rfl) ?_
                refine lv_aload_n hx hb dX6_reckon_376 rfl (lv_at hl 3 rfl) ?_
                refine lv_iload_n hx hb dX6_reckon_377 rfl (lv_at hl 4 rfl) ?_
                refine lv_iload_n hx hb dX6_reckon_378 rfl (lv_at hl 5 rfl) ?_
                obtain ⟨_, o92, hj⟩ := Option.bind_eq_some_iff.mp hj
                obtain ⟨v93, g_v93, hj⟩ := Option.bind_eq_some_iff.mp hj
                refine f_D (k_V (b := a0) (As := [.int a1, .int a2]) (n := 2) (rest := [.ref a0]) cx hl.1 hP hS (c_X6_x l X g M a0 a1 a2 v93 g_v93) o92 rfl mC_X6_x mM_X6_136 mI_X6_x mS_X6_x mZ_X6 (by decide +kernel) ⟨Nat.le_of_ble_eq_true rfl, Nat.le_of_ble_eq_true rfl⟩ rfl rfl (Nat.le_of_ble_eq_true rfl) dX6_reckon_379 ⟨Nat.le_of_ble_eq_true rfl, Nat.le_of_ble_eq_true rfl⟩) hS (fun H locs hP hS => ?_)
                have hP : hp X M H := hP
                refine W.eq (g2 := F0 m 382 ls [.double v93, .ref a0]) rfl ?_
                refine W.widen (k := 0) (n := 0) (Nat.le_of_ble_eq_true rfl) (Nat.le_of_ble_eq_true rfl) ?_
                refine lv_aload_n hx hb dX6_reckon_382 rfl (lv_at hl 3 rfl) ?_
                refine lv_iload_n hx hb dX6_reckon_383 rfl (lv_at hl 4 rfl) ?_
                refine lv_iload_n hx hb dX6_reckon_384 rfl (lv_at hl 5 rfl) ?_
                refine lv_iconst (v := 1) hx hb dX6_reckon_385 (by decide) ?_
                refine lv_isub hx hb dX6_reckon_386 ?_
                obtain ⟨_, o94, hj⟩ := Option.bind_eq_some_iff.mp hj
                obtain ⟨v95, g_v95, hj⟩ := Option.bind_eq_some_iff.mp hj
                refine f_D (k_V (b := a0) (As := [.int a1, .int (a2 - (1 : Int32))]) (n := 2) (rest := [.double v93, .ref a0]) cx hl.1 hP hS (c_X6_x l X g M a0 a1 (a2 - (1 : Int32)) v95 g_v95) o94 rfl mC_X6_x mM_X6_136 mI_X6_x mS_X6_x mZ_X6 (by decide +kernel) ⟨Nat.le_of_ble_eq_true rfl, Nat.le_of_ble_eq_true rfl⟩ rfl rfl (Nat.le_of_ble_eq_true rfl) dX6_reckon_387 ⟨Nat.le_of_ble_eq_true rfl, Nat.le_of_ble_eq_true rfl⟩) hS (fun H locs hP hS => ?_)
                have hP : hp X M H := hP
                refine W.eq (g2 := F0 m 390 ls [.double v95, .double v93, .ref a0]) rfl ?_
                refine W.widen (k := 0) (n := 0) (Nat.le_of_ble_eq_true rfl) (Nat.le_of_ble_eq_true rfl) ?_
                refine lv_iload hx hb dX6_reckon_390 (lv_at hl 1 rfl) ?_
                obtain ⟨_, o96, hj⟩ := Option.bind_eq_some_iff.mp hj
                obtain ⟨M97, g_M97, hj⟩ := Option.bind_eq_some_iff.mp hj
                refine f_V (k_V (b := a0) (As := [.double v93, .double v95, .int v30]) (n := 3) (rest := []) cx hl.1 hP hS (c_X6_difference l X g M a0 v93 v95 v30 M97 g_M97) o96 rfl mC_X6_difference mM_X6_120 mI_X6_difference mS_X6_difference mZ_X6 (by decide +kernel) ⟨Nat.le_of_ble_eq_true rfl, Nat.le_of_ble_eq_true rfl⟩ rfl rfl (Nat.le_of_ble_eq_true rfl) dX6_reckon_392 ⟨Nat.le_of_ble_eq_true rfl, Nat.le_of_ble_eq_true rfl⟩) hS (fun H locs hP hS => ?_)
                have hP : hp X M97 H := hP
                refine W.eq (g2 := F0 m 395 ls []) rfl ?_
                refine W.widen (k := 0) (n := 0) (Nat.le_of_ble_eq_true rfl) (Nat.le_of_ble_eq_true rfl) ?_
                refine lv_goto (tgt := 409) hx hb dX6_reckon_395 (by decide) ?_
                exact J_409 M97 H locs ls hj hP hS (lv_sub hl [] rfl)
              · have hj := if_f c91 hj
                exact J_368 M a0 H locs ls hj hP hS (lv_sub hl [3] rfl)
        have hj := if_f c42 hj
        have sw : v27.toInt < 17 ∨ 24 < v27.toInt := by
          rcases Int.lt_or_ge v27.toInt 17 with q | q
          · exact Or.inl q
          have q := sw_step q (sw_ne c35 (by decide))
          have q := sw_step q (sw_ne c36 (by decide))
          have q := sw_step q (sw_ne c37 (by decide))
          have q := sw_step q (sw_ne c38 (by decide))
          have q := sw_step q (sw_ne c39 (by decide))
          have q := sw_step q (sw_ne c40 (by decide))
          have q := sw_step q (sw_ne c41 (by decide))
          have q := sw_step q (sw_ne c42 (by decide))
          exact Or.inr (by omega)
        refine lv_tableOut (tgt := 398) hx hb dX6_reckon_107 sw (by decide) ?_
        refine lv_aload_n hx hb dX6_reckon_398 rfl (lv_at hl 3 rfl) ?_
        refine lv_aload_n hx hb dX6_reckon_399 rfl (lv_at hl 3 rfl) ?_
        refine lv_iload_n hx hb dX6_reckon_400 rfl (lv_at hl 4 rfl) ?_
        refine lv_iload_n hx hb dX6_reckon_401 rfl (lv_at hl 5 rfl) ?_
        obtain ⟨_, o98, hj⟩ := Option.bind_eq_some_iff.mp hj
        obtain ⟨v99, g_v99, hj⟩ := Option.bind_eq_some_iff.mp hj
        refine f_I (k_V (b := a0) (As := [.int a1, .int a2]) (n := 2) (rest := [.ref a0]) cx hl.1 hP hS (c_X6_manySo l X g M a0 a1 a2 v99 g_v99) o98 rfl mC_X6_manySo mM_X6_180 mI_X6_manySo mS_X6_manySo mZ_X6 (by decide +kernel) ⟨Nat.le_of_ble_eq_true rfl, Nat.le_of_ble_eq_true rfl⟩ rfl rfl (Nat.le_of_ble_eq_true rfl) dX6_reckon_402 ⟨Nat.le_of_ble_eq_true rfl, Nat.le_of_ble_eq_true rfl⟩) hS (fun H locs hP hS => ?_)
        have hP : hp X M H := hP
        refine W.eq (g2 := F0 m 405 ls [.int v99, .ref a0]) rfl ?_
        refine W.widen (k := 0) (n := 0) (Nat.le_of_ble_eq_true rfl) (Nat.le_of_ble_eq_true rfl) ?_
        refine lv_i2d hx hb dX6_reckon_405 ?_
        obtain ⟨_, o100, hj⟩ := Option.bind_eq_some_iff.mp hj
        obtain ⟨M101, g_M101, hj⟩ := Option.bind_eq_some_iff.mp hj
        refine f_V (k_V (b := a0) (As := [.double (FP.i2d v99)]) (n := 1) (rest := []) cx hl.1 hP hS (c_X6_gives l X g M a0 (FP.i2d v99) M101 g_M101) o100 rfl mC_X6_gives mM_X6_94 mI_X6_gives mS_X6_gives mZ_X6 (by decide +kernel) ⟨Nat.le_of_ble_eq_true rfl, Nat.le_of_ble_eq_true rfl⟩ rfl rfl (Nat.le_of_ble_eq_true rfl) dX6_reckon_406 ⟨Nat.le_of_ble_eq_true rfl, Nat.le_of_ble_eq_true rfl⟩) hS (fun H locs hP hS => ?_)
        have hP : hp X M101 H := hP
        refine W.eq (g2 := F0 m 409 ls []) rfl ?_
        refine W.widen (k := 0) (n := 0) (Nat.le_of_ble_eq_true rfl) (Nat.le_of_ble_eq_true rfl) ?_
        exact J_409 M101 H locs ls hj hP hS (lv_sub hl [] rfl)
      · have hj := if_t c34 hj
        exact J_37 M a0 a1 a2 v27 v30 v32 H locs ls hj hP hS (lv_sub hl [3, 4, 5, 2, 1, 0] rfl)
  exact hgo _ _ hP hS
set_option maxHeartbeats 4000000 in
set_option maxRecDepth 100000 in
theorem c_X6_reckonAll (l : Launch) (X : hX) (g : Nat) (M : hm) (a0 : Nat) (RR : hm) (hj : j_X6_reckonAll g M a0 = some RR) : Ct l X yX6_reckonAll cX6_reckonAll 4 none { frames := 6, cells := 0, slots := 0, locals := 145 } [.ref a0] M (qV X RR) := by
  refine h_enter (own := RX6) (by decide) rfl (Nat.le_of_ble_eq_true rfl) ?_
  intro p e s m below meth c ls cx hr hlocks hnm hP hS hl
  have hx := cx.1
  have hb := cx.2.1
  have hl : lv_has ls 4 [(0, .ref a0)] := hl
  unfold j_X6_reckonAll at hj
  have hgo : ∀ (H : Heap) (locs : List Loc), hp X M H → va_S (hA X) s.heap H locs → W p l e ({ frames := 6, cells := 0, slots := 0, locals := 145 } : Room) s m _ below meth c H locs 0 0 (MQ below (qV X RR) _ s 0 0 (hA X)) (F0 m 0 ls []) := by
    have J_140 : ∀ (M : hm) (H : Heap) (locs : List Loc) (ls : Array Slot), j_X6_reckonAll_140 g M = some RR → hp X M H → va_S (hA X) s.heap H locs → lv_has ls 4 [] → W p l e ({ frames := 6, cells := 0, slots := 0, locals := 145 } : Room) s m _ below meth c H locs 0 0 (MQ below (qV X RR) _ s 0 0 (hA X)) (F0 m 140 ls []) := by
      intro M H locs ls hj hP hS hl
      unfold j_X6_reckonAll_140 at hj
      exact t_V cx hr hlocks hP hS (Option.some.inj hj) (Nat.le_of_ble_eq_true rfl) (Nat.le_of_ble_eq_true rfl) dX6_reckonAll_140
    have L_43 : ∀ (n43 : Nat) (M : hm) (p0 : Nat) (p1 : Int32) (H : Heap) (locs : List Loc) (ls : Array Slot), j_X6_reckonAll_43 g n43 M p0 p1 = some RR → hp X M H → va_S (hA X) s.heap H locs → lv_has ls 4 [(0, .ref p0), (1, .int p1)] → W p l e ({ frames := 6, cells := 0, slots := 0, locals := 145 } : Room) s m _ below meth c H locs 0 0 (MQ below (qV X RR) _ s 0 0 (hA X)) (F0 m 43 ls []) := by
      intro n43
      induction n43 with
      | zero =>
        intro M p0 p1 H locs ls hj
        exact no_zero hj
      | succ n43 ih_43 =>
        have J_134 : ∀ (M : hm) (p0 : Nat) (p1 : Int32) (H : Heap) (locs : List Loc) (ls : Array Slot), j_X6_reckonAll_134 g (fun M p0 p1 => j_X6_reckonAll_43 g n43 M p0 p1) M p0 p1 = some RR → hp X M H → va_S (hA X) s.heap H locs → lv_has ls 4 [(0, .ref p0), (1, .int p1)] → W p l e ({ frames := 6, cells := 0, slots := 0, locals := 145 } : Room) s m _ below meth c H locs 0 0 (MQ below (qV X RR) _ s 0 0 (hA X)) (F0 m 134 ls []) := by
          intro M p0 p1 H locs ls hj hP hS hl
          unfold j_X6_reckonAll_134 at hj
          refine lv_iinc (v := (p1 + (1 : Int32))) (lv' := [(1, .int (p1 + (1 : Int32))), (0, .ref p0)]) hx hb dX6_reckonAll_134 hl (k := 1) rfl rfl (by decide) rfl (fun ls hl => ?_)
          refine lv_goto (tgt := 43) hx hb dX6_reckonAll_137 (by decide) ?_
          exact ih_43 M p0 (p1 + (1 : Int32)) H locs ls hj hP hS (lv_sub hl [1, 0] rfl)
        have L_51 : ∀ (n51 : Nat) (M : hm) (p0 : Nat) (p1 : Int32) (p2 : Int32) (H : Heap) (locs : List Loc) (ls : Array Slot), j_X6_reckonAll_51 g (fun M p0 p1 => j_X6_reckonAll_43 g n43 M p0 p1) n51 M p0 p1 p2 = some RR → hp X M H → va_S (hA X) s.heap H locs → lv_has ls 4 [(0, .ref p0), (1, .int p1), (2, .int p2)] → W p l e ({ frames := 6, cells := 0, slots := 0, locals := 145 } : Room) s m _ below meth c H locs 0 0 (MQ below (qV X RR) _ s 0 0 (hA X)) (F0 m 51 ls []) := by
          intro n51
          induction n51 with
          | zero =>
            intro M p0 p1 p2 H locs ls hj
            exact no_zero hj
          | succ n51 ih_51 =>
            have J_128 : ∀ (M : hm) (p0 : Nat) (p1 : Int32) (p2 : Int32) (H : Heap) (locs : List Loc) (ls : Array Slot), j_X6_reckonAll_128 g (fun M p0 p1 => j_X6_reckonAll_43 g n43 M p0 p1) (fun M p0 p1 p2 => j_X6_reckonAll_51 g (fun M p0 p1 => j_X6_reckonAll_43 g n43 M p0 p1) n51 M p0 p1 p2) M p0 p1 p2 = some RR → hp X M H → va_S (hA X) s.heap H locs → lv_has ls 4 [(0, .ref p0), (1, .int p1), (2, .int p2)] → W p l e ({ frames := 6, cells := 0, slots := 0, locals := 145 } : Room) s m _ below meth c H locs 0 0 (MQ below (qV X RR) _ s 0 0 (hA X)) (F0 m 128 ls []) := by
              intro M p0 p1 p2 H locs ls hj hP hS hl
              unfold j_X6_reckonAll_128 at hj
              refine lv_iinc (v := (p2 + (1 : Int32))) (lv' := [(2, .int (p2 + (1 : Int32))), (0, .ref p0), (1, .int p1)]) hx hb dX6_reckonAll_128 hl (k := 2) rfl rfl (by decide) rfl (fun ls hl => ?_)
              refine lv_goto (tgt := 51) hx hb dX6_reckonAll_131 (by decide) ?_
              exact ih_51 M p0 p1 (p2 + (1 : Int32)) H locs ls hj hP hS (lv_sub hl [1, 2, 0] rfl)
            intro M p0 p1 p2 H locs ls hj hP hS hl
            rw [j_X6_reckonAll_51_s] at hj
            refine lv_iload_n hx hb dX6_reckonAll_51 rfl (lv_at hl 2 rfl) ?_
            refine lv_bipush (v := 16) hx hb dX6_reckonAll_52 (by decide) ?_
            refine lv_icmp_ge (tgt := 134) hx hb dX6_reckonAll_54 (by decide) (fun c1 => ?_) (fun c1 => ?_)
            · have hj := if_t c1 hj
              exact J_134 M p0 p1 H locs ls hj hP hS (lv_sub hl [0, 1] rfl)
            · have hj := if_f c1 hj
              refine lv_bipush (v := 16) hx hb dX6_reckonAll_57 (by decide) ?_
              refine lv_iload_n hx hb dX6_reckonAll_59 rfl (lv_at hl 1 rfl) ?_
              refine lv_imul hx hb dX6_reckonAll_60 ?_
              refine lv_iload_n hx hb dX6_reckonAll_61 rfl (lv_at hl 2 rfl) ?_
              refine lv_iadd hx hb dX6_reckonAll_62 ?_
              refine lv_istore_n (lv' := [(3, .int (((16 : Int32) * p1) + p2)), (0, .ref p0), (1, .int p1), (2, .int p2)]) hx hb dX6_reckonAll_63 rfl hl (by decide) rfl (fun ls hl => ?_)
              refine lv_aload_n hx hb dX6_reckonAll_64 rfl (lv_at hl 1 rfl) ?_
              obtain ⟨v2, g_v2, hj⟩ := Option.bind_eq_some_iff.mp hj
              refine r_getR cx hP g_v2 iX6 rfl (by decide) mF_X6_22 dX6_reckonAll_65 ?_
              refine lv_iconst (v := 4) hx hb dX6_reckonAll_68 (by decide) ?_
              refine lv_iload_n hx hb dX6_reckonAll_69 rfl (lv_at hl 2 rfl) ?_
              refine lv_imul hx hb dX6_reckonAll_70 ?_
              obtain ⟨b3, e_b3, hj⟩ := Option.bind_eq_some_iff.mp hj
              subst e_b3
              obtain ⟨v4, g_v4, hj⟩ := Option.bind_eq_some_iff.mp hj
              refine r_aldI cx hP g_v4 dX6_reckonAll_71 ?_
              refine lv_if_ge (tgt := 102) hx hb dX6_reckonAll_72 (by decide) (fun c5 => ?_) (fun c5 => ?_)
              · have hj := if_t c5 hj
                refine lv_aload_n hx hb dX6_reckonAll_102 rfl (lv_at hl 1 rfl) ?_
                refine lv_iload_n hx hb dX6_reckonAll_103 rfl (lv_at hl 2 rfl) ?_
                refine lv_iload_n hx hb dX6_reckonAll_104 rfl (lv_at hl 3 rfl) ?_
                obtain ⟨_, o6, hj⟩ := Option.bind_eq_some_iff.mp hj
                obtain ⟨M7, g_M7, hj⟩ := Option.bind_eq_some_iff.mp hj
                refine f_V (k_V (b := p0) (As := [.int p1, .int p2]) (n := 2) (rest := []) cx hl.1 hP hS (c_X6_reckon l X g M p0 p1 p2 M7 g_M7) o6 rfl mC_X6_reckon mM_X6_183 mI_X6_reckon mS_X6_reckon mZ_X6 (by decide +kernel) ⟨Nat.le_of_ble_eq_true rfl, Nat.le_of_ble_eq_true rfl⟩ rfl rfl (Nat.le_of_ble_eq_true rfl) dX6_reckonAll_105 ⟨Nat.le_of_ble_eq_true rfl, Nat.le_of_ble_eq_true rfl⟩) hS (fun H locs hP hS => ?_)
                have hP : hp X M7 H := hP
                refine W.eq (g2 := F0 m 108 ls []) rfl ?_
                refine W.widen (k := 0) (n := 0) (Nat.le_of_ble_eq_true rfl) (Nat.le_of_ble_eq_true rfl) ?_
                refine lv_aload_n hx hb dX6_reckonAll_108 rfl (lv_at hl 1 rfl) ?_
                obtain ⟨v8, g_v8, hj⟩ := Option.bind_eq_some_iff.mp hj
                refine r_getR cx hP g_v8 iX6 rfl (by decide) mF_X6_26 dX6_reckonAll_109 ?_
                refine lv_iload_n hx hb dX6_reckonAll_112 rfl (lv_at hl 0 rfl) ?_
                refine lv_aload_n hx hb dX6_reckonAll_113 rfl (lv_at hl 1 rfl) ?_
                obtain ⟨v9, g_v9, hj⟩ := Option.bind_eq_some_iff.mp hj
                refine r_getD cx hP g_v9 iX6 rfl (by decide) mF_X6_86 dX6_reckonAll_114 ?_
                obtain ⟨b10, e_b10, hj⟩ := Option.bind_eq_some_iff.mp hj
                subst e_b10
                obtain ⟨M11, g_M11, hj⟩ := Option.bind_eq_some_iff.mp hj
                refine r_astD cx hP hS g_M11 dX6_reckonAll_117 (fun H locs hP hS => ?_)
                refine lv_aload_n hx hb dX6_reckonAll_118 rfl (lv_at hl 1 rfl) ?_
                obtain ⟨v12, g_v12, hj⟩ := Option.bind_eq_some_iff.mp hj
                refine r_getR cx hP g_v12 iX6 rfl (by decide) mF_X6_29 dX6_reckonAll_119 ?_
                refine lv_iload_n hx hb dX6_reckonAll_122 rfl (lv_at hl 0 rfl) ?_
                refine lv_aload_n hx hb dX6_reckonAll_123 rfl (lv_at hl 1 rfl) ?_
                obtain ⟨v13, g_v13, hj⟩ := Option.bind_eq_some_iff.mp hj
                refine r_getI cx hP g_v13 iX6 rfl (by decide) mF_X6_90 dX6_reckonAll_124 ?_
                obtain ⟨b14, e_b14, hj⟩ := Option.bind_eq_some_iff.mp hj
                subst e_b14
                obtain ⟨M15, g_M15, hj⟩ := Option.bind_eq_some_iff.mp hj
                refine r_astZ cx hP hS g_M15 dX6_reckonAll_127 (fun H locs hP hS => ?_)
                exact J_128 M15 p0 p1 p2 H locs ls hj hP hS (lv_sub hl [1, 2, 3] rfl)
              · have hj := if_f c5 hj
                refine lv_aload_n hx hb dX6_reckonAll_75 rfl (lv_at hl 1 rfl) ?_
                obtain ⟨v16, g_v16, hj⟩ := Option.bind_eq_some_iff.mp hj
                refine r_getR cx hP g_v16 iX6 rfl (by decide) mF_X6_26 dX6_reckonAll_76 ?_
                refine lv_iload_n hx hb dX6_reckonAll_79 rfl (lv_at hl 0 rfl) ?_
                refine lv_aload_n hx hb dX6_reckonAll_80 rfl (lv_at hl 1 rfl) ?_
                obtain ⟨v17, g_v17, hj⟩ := Option.bind_eq_some_iff.mp hj
                refine r_getR cx hP g_v17 iX6 rfl (by decide) mF_X6_9 dX6_reckonAll_81 ?_
                refine lv_iload_n hx hb dX6_reckonAll_84 rfl (lv_at hl 0 rfl) ?_
                obtain ⟨b18, e_b18, hj⟩ := Option.bind_eq_some_iff.mp hj
                subst e_b18
                obtain ⟨v19, g_v19, hj⟩ := Option.bind_eq_some_iff.mp hj
                refine r_aldD cx hP g_v19 dX6_reckonAll_85 ?_
                obtain ⟨b20, e_b20, hj⟩ := Option.bind_eq_some_iff.mp hj
                subst e_b20
                obtain ⟨M21, g_M21, hj⟩ := Option.bind_eq_some_iff.mp hj
                refine r_astD cx hP hS g_M21 dX6_reckonAll_86 (fun H locs hP hS => ?_)
                refine lv_aload_n hx hb dX6_reckonAll_87 rfl (lv_at hl 1 rfl) ?_
                obtain ⟨v22, g_v22, hj⟩ := Option.bind_eq_some_iff.mp hj
                refine r_getR cx hP g_v22 iX6 rfl (by decide) mF_X6_29 dX6_reckonAll_88 ?_
                refine lv_iload_n hx hb dX6_reckonAll_91 rfl (lv_at hl 0 rfl) ?_
                refine lv_aload_n hx hb dX6_reckonAll_92 rfl (lv_at hl 1 rfl) ?_
                obtain ⟨v23, g_v23, hj⟩ := Option.bind_eq_some_iff.mp hj
                refine r_getR cx hP g_v23 iX6 rfl (by decide) mF_X6_15 dX6_reckonAll_93 ?_
                refine lv_iload_n hx hb dX6_reckonAll_96 rfl (lv_at hl 0 rfl) ?_
                obtain ⟨b24, e_b24, hj⟩ := Option.bind_eq_some_iff.mp hj
                subst e_b24
                obtain ⟨v25, g_v25, hj⟩ := Option.bind_eq_some_iff.mp hj
                refine r_aldZ cx hP g_v25 dX6_reckonAll_97 ?_
                obtain ⟨b26, e_b26, hj⟩ := Option.bind_eq_some_iff.mp hj
                subst e_b26
                obtain ⟨M27, g_M27, hj⟩ := Option.bind_eq_some_iff.mp hj
                refine r_astZ cx hP hS g_M27 dX6_reckonAll_98 (fun H locs hP hS => ?_)
                refine lv_goto (tgt := 128) hx hb dX6_reckonAll_99 (by decide) ?_
                exact J_128 M27 p0 p1 p2 H locs ls hj hP hS (lv_sub hl [1, 2, 3] rfl)
        intro M p0 p1 H locs ls hj hP hS hl
        rw [j_X6_reckonAll_43_s] at hj
        refine lv_iload_n hx hb dX6_reckonAll_43 rfl (lv_at hl 1 rfl) ?_
        refine lv_bipush (v := 12) hx hb dX6_reckonAll_44 (by decide) ?_
        refine lv_icmp_ge (tgt := 140) hx hb dX6_reckonAll_46 (by decide) (fun c28 => ?_) (fun c28 => ?_)
        · have hj := if_t c28 hj
          exact J_140 M H locs ls hj hP hS (lv_sub hl [] rfl)
        · have hj := if_f c28 hj
          refine lv_iconst (v := 0) hx hb dX6_reckonAll_49 (by decide) ?_
          refine lv_istore_n (lv' := [(2, .int (0 : Int32)), (0, .ref p0), (1, .int p1)]) hx hb dX6_reckonAll_50 rfl hl (by decide) rfl (fun ls hl => ?_)
          exact L_51 g M p0 p1 (0 : Int32) H locs ls hj hP hS (lv_sub hl [1, 2, 0] rfl)
    have J_41 : ∀ (M : hm) (p0 : Nat) (H : Heap) (locs : List Loc) (ls : Array Slot), j_X6_reckonAll_41 g M p0 = some RR → hp X M H → va_S (hA X) s.heap H locs → lv_has ls 4 [(0, .ref p0)] → W p l e ({ frames := 6, cells := 0, slots := 0, locals := 145 } : Room) s m _ below meth c H locs 0 0 (MQ below (qV X RR) _ s 0 0 (hA X)) (F0 m 41 ls []) := by
      intro M p0 H locs ls hj hP hS hl
      unfold j_X6_reckonAll_41 at hj
      refine lv_iconst (v := 0) hx hb dX6_reckonAll_41 (by decide) ?_
      refine lv_istore_n (lv' := [(1, .int (0 : Int32)), (0, .ref p0)]) hx hb dX6_reckonAll_42 rfl hl (by decide) rfl (fun ls hl => ?_)
      exact L_43 g M p0 (0 : Int32) H locs ls hj hP hS (lv_sub hl [1, 0] rfl)
    have L_4 : ∀ (n4 : Nat) (M : hm) (p0 : Nat) (p1 : Int32) (H : Heap) (locs : List Loc) (ls : Array Slot), j_X6_reckonAll_4 g n4 M p0 p1 = some RR → hp X M H → va_S (hA X) s.heap H locs → lv_has ls 4 [(0, .ref p0), (1, .int p1)] → W p l e ({ frames := 6, cells := 0, slots := 0, locals := 145 } : Room) s m _ below meth c H locs 0 0 (MQ below (qV X RR) _ s 0 0 (hA X)) (F0 m 4 ls []) := by
      intro n4
      induction n4 with
      | zero =>
        intro M p0 p1 H locs ls hj
        exact no_zero hj
      | succ n4 ih_4 =>
        intro M p0 p1 H locs ls hj hP hS hl
        rw [j_X6_reckonAll_4_s] at hj
        refine lv_iload_n hx hb dX6_reckonAll_4 rfl (lv_at hl 1 rfl) ?_
        refine lv_sipush (v := 200) hx hb dX6_reckonAll_5 (by decide) ?_
        refine lv_icmp_ge (tgt := 41) hx hb dX6_reckonAll_8 (by decide) (fun c29 => ?_) (fun c29 => ?_)
        · have hj := if_t c29 hj
          exact J_41 M p0 H locs ls hj hP hS (lv_sub hl [0] rfl)
        · have hj := if_f c29 hj
          refine lv_aload_n hx hb dX6_reckonAll_11 rfl (lv_at hl 0 rfl) ?_
          obtain ⟨v30, g_v30, hj⟩ := Option.bind_eq_some_iff.mp hj
          refine r_getR cx hP g_v30 iX6 rfl (by decide) mF_X6_26 dX6_reckonAll_12 ?_
          refine lv_iload_n hx hb dX6_reckonAll_15 rfl (lv_at hl 1 rfl) ?_
          refine lv_aload_n hx hb dX6_reckonAll_16 rfl (lv_at hl 0 rfl) ?_
          obtain ⟨v31, g_v31, hj⟩ := Option.bind_eq_some_iff.mp hj
          refine r_getR cx hP g_v31 iX6 rfl (by decide) mF_X6_9 dX6_reckonAll_17 ?_
          refine lv_iload_n hx hb dX6_reckonAll_20 rfl (lv_at hl 1 rfl) ?_
          obtain ⟨b32, e_b32, hj⟩ := Option.bind_eq_some_iff.mp hj
          subst e_b32
          obtain ⟨v33, g_v33, hj⟩ := Option.bind_eq_some_iff.mp hj
          refine r_aldD cx hP g_v33 dX6_reckonAll_21 ?_
          obtain ⟨b34, e_b34, hj⟩ := Option.bind_eq_some_iff.mp hj
          subst e_b34
          obtain ⟨M35, g_M35, hj⟩ := Option.bind_eq_some_iff.mp hj
          refine r_astD cx hP hS g_M35 dX6_reckonAll_22 (fun H locs hP hS => ?_)
          refine lv_aload_n hx hb dX6_reckonAll_23 rfl (lv_at hl 0 rfl) ?_
          obtain ⟨v36, g_v36, hj⟩ := Option.bind_eq_some_iff.mp hj
          refine r_getR cx hP g_v36 iX6 rfl (by decide) mF_X6_29 dX6_reckonAll_24 ?_
          refine lv_iload_n hx hb dX6_reckonAll_27 rfl (lv_at hl 1 rfl) ?_
          refine lv_aload_n hx hb dX6_reckonAll_28 rfl (lv_at hl 0 rfl) ?_
          obtain ⟨v37, g_v37, hj⟩ := Option.bind_eq_some_iff.mp hj
          refine r_getR cx hP g_v37 iX6 rfl (by decide) mF_X6_15 dX6_reckonAll_29 ?_
          refine lv_iload_n hx hb dX6_reckonAll_32 rfl (lv_at hl 1 rfl) ?_
          obtain ⟨b38, e_b38, hj⟩ := Option.bind_eq_some_iff.mp hj
          subst e_b38
          obtain ⟨v39, g_v39, hj⟩ := Option.bind_eq_some_iff.mp hj
          refine r_aldZ cx hP g_v39 dX6_reckonAll_33 ?_
          obtain ⟨b40, e_b40, hj⟩ := Option.bind_eq_some_iff.mp hj
          subst e_b40
          obtain ⟨M41, g_M41, hj⟩ := Option.bind_eq_some_iff.mp hj
          refine r_astZ cx hP hS g_M41 dX6_reckonAll_34 (fun H locs hP hS => ?_)
          refine lv_iinc (v := (p1 + (1 : Int32))) (lv' := [(1, .int (p1 + (1 : Int32))), (0, .ref p0)]) hx hb dX6_reckonAll_35 hl (k := 1) rfl rfl (by decide) rfl (fun ls hl => ?_)
          refine lv_goto (tgt := 4) hx hb dX6_reckonAll_38 (by decide) ?_
          exact ih_4 M41 p0 (p1 + (1 : Int32)) H locs ls hj hP hS (lv_sub hl [1, 0] rfl)
    intro H locs hP hS
    refine lv_sipush (v := 192) hx hb dX6_reckonAll_0 (by decide) ?_
    refine lv_istore_n (lv' := [(1, .int (192 : Int32)), (0, .ref a0)]) hx hb dX6_reckonAll_3 rfl hl (by decide) rfl (fun ls hl => ?_)
    exact L_4 g M a0 (192 : Int32) H locs ls hj hP hS (lv_sub hl [1, 0] rfl)
  exact hgo _ _ hP hS
set_option maxHeartbeats 4000000 in
set_option maxRecDepth 100000 in
theorem c_X6_isThere (l : Launch) (X : hX) (g : Nat) (M : hm) (a0 : Nat) (a1 : Int32) (a2 : Int32) (RR : hm × Int32) (hj : j_X6_isThere g M a0 a1 a2 = some RR) : Ct l X yX6_isThere cX6_isThere 3 (some .boolean) { frames := 7, cells := 0, slots := 0, locals := 168 } [.ref a0, .int a1, .int a2] M (qI X RR) := by
  refine h_enter (own := RX6) (by decide) rfl (Nat.le_of_ble_eq_true rfl) ?_
  intro p e s m below meth c ls cx hr hlocks hnm hP hS hl
  have hx := cx.1
  have hb := cx.2.1
  have hl : lv_has ls 3 [(0, .ref a0), (1, .int a1), (2, .int a2)] := hl
  unfold j_X6_isThere at hj
  have hgo : ∀ (H : Heap) (locs : List Loc), hp X M H → va_S (hA X) s.heap H locs → W p l e ({ frames := 7, cells := 0, slots := 0, locals := 168 } : Room) s m _ below meth c H locs 0 0 (MQ below (qI X RR) _ s 0 0 (hA X)) (F0 m 0 ls []) := by
    have J_20 : ∀ (M : hm) (H : Heap) (locs : List Loc) (ls : Array Slot), j_X6_isThere_20 g M = some RR → hp X M H → va_S (hA X) s.heap H locs → lv_has ls 3 [] → W p l e ({ frames := 7, cells := 0, slots := 0, locals := 168 } : Room) s m _ below meth c H locs 0 0 (MQ below (qI X RR) _ s 0 0 (hA X)) (F0 m 20 ls []) := by
      intro M H locs ls hj hP hS hl
      unfold j_X6_isThere_20 at hj
      refine lv_iconst (v := 0) hx hb dX6_isThere_20 (by decide) ?_
      exact t_Z cx hr hlocks hP hS (by decide) (Option.some.inj hj) (Nat.le_of_ble_eq_true rfl) (Nat.le_of_ble_eq_true rfl) dX6_isThere_21
    intro H locs hP hS
    refine lv_iload_n hx hb dX6_isThere_0 rfl (lv_at hl 1 rfl) ?_
    refine lv_iconst (v := 0) hx hb dX6_isThere_1 (by decide) ?_
    refine lv_bipush (v := 11) hx hb dX6_isThere_2 (by decide) ?_
    obtain ⟨v1, g_v1, hj⟩ := Option.bind_eq_some_iff.mp hj
    refine f_I (k_S (As := [.int a1, .int (0 : Int32), .int (11 : Int32)]) (n := 3) (rest := []) cx hl.1 hP hS (c_X6_isIn l X g M a1 (0 : Int32) (11 : Int32) v1 g_v1) mC_X6_isIn mM_X6_191 mT_X6_isIn mZ_X6 (by decide +kernel) ⟨Nat.le_of_ble_eq_true rfl, Nat.le_of_ble_eq_true rfl⟩ rfl rfl (Nat.le_of_ble_eq_true rfl) dX6_isThere_4 ⟨Nat.le_of_ble_eq_true rfl, Nat.le_of_ble_eq_true rfl⟩) hS (fun H locs hP hS => ?_)
    have hP : hp X M H := hP
    refine W.eq (g2 := F0 m 7 ls [.int v1]) rfl ?_
    refine W.widen (k := 0) (n := 0) (Nat.le_of_ble_eq_true rfl) (Nat.le_of_ble_eq_true rfl) ?_
    refine lv_if_eq (tgt := 20) hx hb dX6_isThere_7 (by decide) (fun c2 => ?_) (fun c2 => ?_)
    · have hj := if_t c2 hj
      exact J_20 M H locs ls hj hP hS (lv_sub hl [] rfl)
    · have hj := if_f c2 hj
      refine lv_iload_n hx hb dX6_isThere_10 rfl (lv_at hl 2 rfl) ?_
      refine lv_iconst (v := 0) hx hb dX6_isThere_11 (by decide) ?_
      refine lv_bipush (v := 15) hx hb dX6_isThere_12 (by decide) ?_
      obtain ⟨v3, g_v3, hj⟩ := Option.bind_eq_some_iff.mp hj
      refine f_I (k_S (As := [.int a2, .int (0 : Int32), .int (15 : Int32)]) (n := 3) (rest := []) cx hl.1 hP hS (c_X6_isIn l X g M a2 (0 : Int32) (15 : Int32) v3 g_v3) mC_X6_isIn mM_X6_191 mT_X6_isIn mZ_X6 (by decide +kernel) ⟨Nat.le_of_ble_eq_true rfl, Nat.le_of_ble_eq_true rfl⟩ rfl rfl (Nat.le_of_ble_eq_true rfl) dX6_isThere_14 ⟨Nat.le_of_ble_eq_true rfl, Nat.le_of_ble_eq_true rfl⟩) hS (fun H locs hP hS => ?_)
      have hP : hp X M H := hP
      refine W.eq (g2 := F0 m 17 ls [.int v3]) rfl ?_
      refine W.widen (k := 0) (n := 0) (Nat.le_of_ble_eq_true rfl) (Nat.le_of_ble_eq_true rfl) ?_
      refine lv_if_ne (tgt := 22) hx hb dX6_isThere_17 (by decide) (fun c4 => ?_) (fun c4 => ?_)
      · have hj := if_f c4 hj
        refine lv_aload_n hx hb dX6_isThere_22 rfl (lv_at hl 0 rfl) ?_
        obtain ⟨_, o5, hj⟩ := Option.bind_eq_some_iff.mp hj
        obtain ⟨M6, g_M6, hj⟩ := Option.bind_eq_some_iff.mp hj
        refine f_V (k_V (b := a0) (As := []) (n := 0) (rest := []) cx hl.1 hP hS (c_X6_reckonAll l X g M a0 M6 g_M6) o5 rfl mC_X6_reckonAll mM_X6_226 mI_X6_reckonAll mS_X6_reckonAll mZ_X6 (by decide +kernel) ⟨Nat.le_of_ble_eq_true rfl, Nat.le_of_ble_eq_true rfl⟩ rfl rfl (Nat.le_of_ble_eq_true rfl) dX6_isThere_23 ⟨Nat.le_of_ble_eq_true rfl, Nat.le_of_ble_eq_true rfl⟩) hS (fun H locs hP hS => ?_)
        have hP : hp X M6 H := hP
        refine W.eq (g2 := F0 m 26 ls []) rfl ?_
        refine W.widen (k := 0) (n := 0) (Nat.le_of_ble_eq_true rfl) (Nat.le_of_ble_eq_true rfl) ?_
        refine lv_iconst (v := 1) hx hb dX6_isThere_26 (by decide) ?_
        exact t_Z cx hr hlocks hP hS (by decide) (Option.some.inj hj) (Nat.le_of_ble_eq_true rfl) (Nat.le_of_ble_eq_true rfl) dX6_isThere_27
      · have hj := if_t c4 hj
        exact J_20 M H locs ls hj hP hS (lv_sub hl [] rfl)
  exact hgo _ _ hP hS
