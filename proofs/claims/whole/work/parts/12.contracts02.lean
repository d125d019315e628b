set_option maxHeartbeats 4000000 in
set_option maxRecDepth 100000 in
theorem c_X5_isSoOfNumbers (l : Launch) (X : hX) (g : Nat) (M : hm) (a0 : Int32) (a1 : UInt64) (a3 : UInt64) (RR : Int32) (hj : j_X5_isSoOfNumbers g a0 a1 a3 = some RR) : Ct l X yX5_isSoOfNumbers cX5_isSoOfNumbers 5 (some .boolean) { frames := 0, cells := 0, slots := 0, locals := 0 } [.int a0, .double a1, .double a3] M (qI X (M, RR)) := by
  refine h_enter (own := RX5) (by decide) rfl (Nat.le_of_ble_eq_true rfl) ?_
  intro p e s m below meth c ls cx hr hlocks hnm hP hS hl
  have hx := cx.1
  have hb := cx.2.1
  have hl : lv_has ls 5 [(0, .int a0), (1, .double a1), (3, .double a3)] := hl
  unfold j_X5_isSoOfNumbers at hj
  have hgo : ∀ (H : Heap) (locs : List Loc), hp X M H → va_S (hA X) s.heap H locs → W p l e ({ frames := 0, cells := 0, slots := 0, locals := 0 } : Room) s m _ below meth c H locs 0 0 (MQ below (qI X (M, RR)) _ s 0 0 (hA X)) (F0 m 0 ls []) := by
    have J_107 : ∀ (s0 : Int32) (H : Heap) (locs : List Loc) (ls : Array Slot), j_X5_isSoOfNumbers_107 g s0 = some RR → hp X M H → va_S (hA X) s.heap H locs → lv_has ls 5 [] → W p l e ({ frames := 0, cells := 0, slots := 0, locals := 0 } : Room) s m _ below meth c H locs 0 0 (MQ below (qI X (M, RR)) _ s 0 0 (hA X)) (F0 m 107 ls [.int s0]) := by
      intro s0 H locs ls hj hP hS hl
      unfold j_X5_isSoOfNumbers_107 at hj
      obtain ⟨z1, g_z1, hj⟩ := Option.bind_eq_some_iff.mp hj
      exact t_Z cx hr hlocks hP hS (zb_eq g_z1).1 (congrArg (Prod.mk M) (Option.some.inj hj)) (Nat.le_of_ble_eq_true rfl) (Nat.le_of_ble_eq_true rfl) dX5_isSoOfNumbers_107
    have J_95 : ∀ (s0 : Int32) (H : Heap) (locs : List Loc) (ls : Array Slot), j_X5_isSoOfNumbers_95 g s0 = some RR → hp X M H → va_S (hA X) s.heap H locs → lv_has ls 5 [] → W p l e ({ frames := 0, cells := 0, slots := 0, locals := 0 } : Room) s m _ below meth c H locs 0 0 (MQ below (qI X (M, RR)) _ s 0 0 (hA X)) (F0 m 95 ls [.int s0]) := by
      intro s0 H locs ls hj hP hS hl
      unfold j_X5_isSoOfNumbers_95 at hj
      obtain ⟨z2, g_z2, hj⟩ := Option.bind_eq_some_iff.mp hj
      exact t_Z cx hr hlocks hP hS (zb_eq g_z2).1 (congrArg (Prod.mk M) (Option.some.inj hj)) (Nat.le_of_ble_eq_true rfl) (Nat.le_of_ble_eq_true rfl) dX5_isSoOfNumbers_95
    have J_83 : ∀ (s0 : Int32) (H : Heap) (locs : List Loc) (ls : Array Slot), j_X5_isSoOfNumbers_83 g s0 = some RR → hp X M H → va_S (hA X) s.heap H locs → lv_has ls 5 [] → W p l e ({ frames := 0, cells := 0, slots := 0, locals := 0 } : Room) s m _ below meth c H locs 0 0 (MQ below (qI X (M, RR)) _ s 0 0 (hA X)) (F0 m 83 ls [.int s0]) := by
      intro s0 H locs ls hj hP hS hl
      unfold j_X5_isSoOfNumbers_83 at hj
      obtain ⟨z3, g_z3, hj⟩ := Option.bind_eq_some_iff.mp hj
      exact t_Z cx hr hlocks hP hS (zb_eq g_z3).1 (congrArg (Prod.mk M) (Option.some.inj hj)) (Nat.le_of_ble_eq_true rfl) (Nat.le_of_ble_eq_true rfl) dX5_isSoOfNumbers_83
    have J_71 : ∀ (s0 : Int32) (H : Heap) (locs : List Loc) (ls : Array Slot), j_X5_isSoOfNumbers_71 g s0 = some RR → hp X M H → va_S (hA X) s.heap H locs → lv_has ls 5 [] → W p l e ({ frames := 0, cells := 0, slots := 0, locals := 0 } : Room) s m _ below meth c H locs 0 0 (MQ below (qI X (M, RR)) _ s 0 0 (hA X)) (F0 m 71 ls [.int s0]) := by
      intro s0 H locs ls hj hP hS hl
      unfold j_X5_isSoOfNumbers_71 at hj
      obtain ⟨z4, g_z4, hj⟩ := Option.bind_eq_some_iff.mp hj
      exact t_Z cx hr hlocks hP hS (zb_eq g_z4).1 (congrArg (Prod.mk M) (Option.some.inj hj)) (Nat.le_of_ble_eq_true rfl) (Nat.le_of_ble_eq_true rfl) dX5_isSoOfNumbers_71
    have J_59 : ∀ (s0 : Int32) (H : Heap) (locs : List Loc) (ls : Array Slot), j_X5_isSoOfNumbers_59 g s0 = some RR → hp X M H → va_S (hA X) s.heap H locs → lv_has ls 5 [] → W p l e ({ frames := 0, cells := 0, slots := 0, locals := 0 } : Room) s m _ below meth c H locs 0 0 (MQ below (qI X (M, RR)) _ s 0 0 (hA X)) (F0 m 59 ls [.int s0]) := by
      intro s0 H locs ls hj hP hS hl
      unfold j_X5_isSoOfNumbers_59 at hj
      obtain ⟨z5, g_z5, hj⟩ := Option.bind_eq_some_iff.mp hj
      exact t_Z cx hr hlocks hP hS (zb_eq g_z5).1 (congrArg (Prod.mk M) (Option.some.inj hj)) (Nat.le_of_ble_eq_true rfl) (Nat.le_of_ble_eq_true rfl) dX5_isSoOfNumbers_59
    have J_47 : ∀ (s0 : Int32) (H : Heap) (locs : List Loc) (ls : Array Slot), j_X5_isSoOfNumbers_47 g s0 = some RR → hp X M H → va_S (hA X) s.heap H locs → lv_has ls 5 [] → W p l e ({ frames := 0, cells := 0, slots := 0, locals := 0 } : Room) s m _ below meth c H locs 0 0 (MQ below (qI X (M, RR)) _ s 0 0 (hA X)) (F0 m 47 ls [.int s0]) := by
      intro s0 H locs ls hj hP hS hl
      unfold j_X5_isSoOfNumbers_47 at hj
      obtain ⟨z6, g_z6, hj⟩ := Option.bind_eq_some_iff.mp hj
      exact t_Z cx hr hlocks hP hS (zb_eq g_z6).1 (congrArg (Prod.mk M) (Option.some.inj hj)) (Nat.le_of_ble_eq_true rfl) (Nat.le_of_ble_eq_true rfl) dX5_isSoOfNumbers_47
    intro H locs hP hS
    refine lv_iload_n hx hb dX5_isSoOfNumbers_0 rfl (lv_at hl 0 rfl) ?_
    by_cases c7 : a0 = (0 : Int32)
    · have hj := if_t c7 hj
      refine lv_tableIn (off := 35) (tgt := 36) hx hb dX5_isSoOfNumbers_1 (by rw [c7]; decide) (by rw [c7]; decide) (by rw [c7]; decide) (by decide) ?_
      refine lv_dload_n hx hb dX5_isSoOfNumbers_36 rfl (lv_at hl 1 rfl) ?_
      refine lv_dload_n hx hb dX5_isSoOfNumbers_37 rfl (lv_at hl 2 rfl) ?_
      refine lv_dcmp hx hb dX5_isSoOfNumbers_38 ?_
      refine lv_if_ge (tgt := 46) hx hb dX5_isSoOfNumbers_39 (by decide) (fun c12 => ?_) (fun c12 => ?_)
      · have hj := if_t c12 hj
        refine lv_iconst (v := 0) hx hb dX5_isSoOfNumbers_46 (by decide) ?_
        exact J_47 (0 : Int32) H locs ls hj hP hS (lv_sub hl [] rfl)
      · have hj := if_f c12 hj
        refine lv_iconst (v := 1) hx hb dX5_isSoOfNumbers_42 (by decide) ?_
        refine lv_goto (tgt := 47) hx hb dX5_isSoOfNumbers_43 (by decide) ?_
        exact J_47 (1 : Int32) H locs ls hj hP hS (lv_sub hl [] rfl)
    have hj := if_f c7 hj
    by_cases c8 : a0 = (1 : Int32)
    · have hj := if_t c8 hj
      refine lv_tableIn (off := 47) (tgt := 48) hx hb dX5_isSoOfNumbers_1 (by rw [c8]; decide) (by rw [c8]; decide) (by rw [c8]; decide) (by decide) ?_
      refine lv_dload_n hx hb dX5_isSoOfNumbers_48 rfl (lv_at hl 1 rfl) ?_
      refine lv_dload_n hx hb dX5_isSoOfNumbers_49 rfl (lv_at hl 2 rfl) ?_
      refine lv_dcmp hx hb dX5_isSoOfNumbers_50 ?_
      refine lv_if_gt (tgt := 58) hx hb dX5_isSoOfNumbers_51 (by decide) (fun c13 => ?_) (fun c13 => ?_)
      · have hj := if_t c13 hj
        refine lv_iconst (v := 0) hx hb dX5_isSoOfNumbers_58 (by decide) ?_
        exact J_59 (0 : Int32) H locs ls hj hP hS (lv_sub hl [] rfl)
      · have hj := if_f c13 hj
        refine lv_iconst (v := 1) hx hb dX5_isSoOfNumbers_54 (by decide) ?_
        refine lv_goto (tgt := 59) hx hb dX5_isSoOfNumbers_55 (by decide) ?_
        exact J_59 (1 : Int32) H locs ls hj hP hS (lv_sub hl [] rfl)
    have hj := if_f c8 hj
    by_cases c9 : a0 = (2 : Int32)
    · have hj := if_t c9 hj
      refine lv_tableIn (off := 59) (tgt := 60) hx hb dX5_isSoOfNumbers_1 (by rw [c9]; decide) (by rw [c9]; decide) (by rw [c9]; decide) (by decide) ?_
      refine lv_dload_n hx hb dX5_isSoOfNumbers_60 rfl (lv_at hl 1 rfl) ?_
      refine lv_dload_n hx hb dX5_isSoOfNumbers_61 rfl (lv_at hl 2 rfl) ?_
      refine lv_dcmp hx hb dX5_isSoOfNumbers_62 ?_
      refine lv_if_le (tgt := 70) hx hb dX5_isSoOfNumbers_63 (by decide) (fun c14 => ?_) (fun c14 => ?_)
      · have hj := if_t c14 hj
        refine lv_iconst (v := 0) hx hb dX5_isSoOfNumbers_70 (by decide) ?_
        exact J_71 (0 : Int32) H locs ls hj hP hS (lv_sub hl [] rfl)
      · have hj := if_f c14 hj
        refine lv_iconst (v := 1) hx hb dX5_isSoOfNumbers_66 (by decide) ?_
        refine lv_goto (tgt := 71) hx hb dX5_isSoOfNumbers_67 (by decide) ?_
        exact J_71 (1 : Int32) H locs ls hj hP hS (lv_sub hl [] rfl)
    have hj := if_f c9 hj
    by_cases c10 : a0 = (3 : Int32)
    · have hj := if_t c10 hj
      refine lv_tableIn (off := 71) (tgt := 72) hx hb dX5_isSoOfNumbers_1 (by rw [c10]; decide) (by rw [c10]; decide) (by rw [c10]; decide) (by decide) ?_
      refine lv_dload_n hx hb dX5_isSoOfNumbers_72 rfl (lv_at hl 1 rfl) ?_
      refine lv_dload_n hx hb dX5_isSoOfNumbers_73 rfl (lv_at hl 2 rfl) ?_
      refine lv_dcmp hx hb dX5_isSoOfNumbers_74 ?_
      refine lv_if_lt (tgt := 82) hx hb dX5_isSoOfNumbers_75 (by decide) (fun c15 => ?_) (fun c15 => ?_)
      · have hj := if_t c15 hj
        refine lv_iconst (v := 0) hx hb dX5_isSoOfNumbers_82 (by decide) ?_
        exact J_83 (0 : Int32) H locs ls hj hP hS (lv_sub hl [] rfl)
      · have hj := if_f c15 hj
        refine lv_iconst (v := 1) hx hb dX5_isSoOfNumbers_78 (by decide) ?_
        refine lv_goto (tgt := 83) hx hb dX5_isSoOfNumbers_79 (by decide) ?_
        exact J_83 (1 : Int32) H locs ls hj hP hS (lv_sub hl [] rfl)
    have hj := if_f c10 hj
    by_cases c11 : a0 = (4 : Int32)
    · have hj := if_t c11 hj
      refine lv_tableIn (off := 83) (tgt := 84) hx hb dX5_isSoOfNumbers_1 (by rw [c11]; decide) (by rw [c11]; decide) (by rw [c11]; decide) (by decide) ?_
      refine lv_dload_n hx hb dX5_isSoOfNumbers_84 rfl (lv_at hl 1 rfl) ?_
      refine lv_dload_n hx hb dX5_isSoOfNumbers_85 rfl (lv_at hl 2 rfl) ?_
      refine lv_dcmp hx hb dX5_isSoOfNumbers_86 ?_
      refine lv_if_ne (tgt := 94) hx hb dX5_isSoOfNumbers_87 (by decide) (fun c16 => ?_) (fun c16 => ?_)
      · have hj := if_f c16 hj
        refine lv_iconst (v := 0) hx hb dX5_isSoOfNumbers_94 (by decide) ?_
        exact J_95 (0 : Int32) H locs ls hj hP hS (lv_sub hl [] rfl)
      · have hj := if_t c16 hj
        refine lv_iconst (v := 1) hx hb dX5_isSoOfNumbers_90 (by decide) ?_
        refine lv_goto (tgt := 95) hx hb dX5_isSoOfNumbers_91 (by decide) ?_
        exact J_95 (1 : Int32) H locs ls hj hP hS (lv_sub hl [] rfl)
    have hj := if_f c11 hj
    have sw : a0.toInt < 0 ∨ 4 < a0.toInt := by
      rcases Int.lt_or_ge a0.toInt 0 with q | q
      · exact Or.inl q
      have q := sw_step q (sw_ne c7 (by decide))
      have q := sw_step q (sw_ne c8 (by decide))
      have q := sw_step q (sw_ne c9 (by decide))
      have q := sw_step q (sw_ne c10 (by decide))
      have q := sw_step q (sw_ne c11 (by decide))
      exact Or.inr (by omega)
    refine lv_tableOut (tgt := 96) hx hb dX5_isSoOfNumbers_1 sw (by decide) ?_
    refine lv_dload_n hx hb dX5_isSoOfNumbers_96 rfl (lv_at hl 1 rfl) ?_
    refine lv_dload_n hx hb dX5_isSoOfNumbers_97 rfl (lv_at hl 2 rfl) ?_
    refine lv_dcmp hx hb dX5_isSoOfNumbers_98 ?_
    refine lv_if_eq (tgt := 106) hx hb dX5_isSoOfNumbers_99 (by decide) (fun c17 => ?_) (fun c17 => ?_)
    · have hj := if_t c17 hj
      refine lv_iconst (v := 0) hx hb dX5_isSoOfNumbers_106 (by decide) ?_
      exact J_107 (0 : Int32) H locs ls hj hP hS (lv_sub hl [] rfl)
    · have hj := if_f c17 hj
      refine lv_iconst (v := 1) hx hb dX5_isSoOfNumbers_102 (by decide) ?_
      refine lv_goto (tgt := 107) hx hb dX5_isSoOfNumbers_103 (by decide) ?_
      exact J_107 (1 : Int32) H locs ls hj hP hS (lv_sub hl [] rfl)
  exact hgo _ _ hP hS
set_option maxHeartbeats 4000000 in
set_option maxRecDepth 100000 in
theorem c_X5_isSo (l : Launch) (X : hX) (g : Nat) (M : hm) (a0 : Int32) (a1 : Option Nat) (a2 : Int32) (a3 : Option Nat) (a4 : Int32) (RR : Int32) (hj : j_X5_isSo g M a0 a1 a2 a3 a4 = some RR) : Ct l X yX5_isSo cX5_isSo 8 (some .boolean) { frames := 1, cells := 0, slots := 0, locals := 24 } [.int a0, va_rf a1, .int a2, va_rf a3, .int a4] M (qI X (M, RR)) := by
  refine h_enter (own := RX5) (by decide) rfl (Nat.le_of_ble_eq_true rfl) ?_
  intro p e s m below meth c ls cx hr hlocks hnm hP hS hl
  have hx := cx.1
  have hb := cx.2.1
  have hl : lv_has ls 8 [(0, .int a0), (1, va_rf a1), (2, .int a2), (3, va_rf a3), (4, .int a4)] := hl
  unfold j_X5_isSo at hj
  have hgo : ∀ (H : Heap) (locs : List Loc), hp X M H → va_S (hA X) s.heap H locs → W p l e ({ frames := 1, cells := 0, slots := 0, locals := 24 } : Room) s m _ below meth c H locs 0 0 (MQ below (qI X (M, RR)) _ s 0 0 (hA X)) (F0 m 0 ls []) := by
    have J_93 : ∀ (s0 : Int32) (H : Heap) (locs : List Loc) (ls : Array Slot), j_X5_isSo_93 g M s0 = some RR → hp X M H → va_S (hA X) s.heap H locs → lv_has ls 8 [] → W p l e ({ frames := 1, cells := 0, slots := 0, locals := 24 } : Room) s m _ below meth c H locs 0 0 (MQ below (qI X (M, RR)) _ s 0 0 (hA X)) (F0 m 93 ls [.int s0]) := by
      intro s0 H locs ls hj hP hS hl
      unfold j_X5_isSo_93 at hj
      obtain ⟨z1, g_z1, hj⟩ := Option.bind_eq_some_iff.mp hj
      exact t_Z cx hr hlocks hP hS (zb_eq g_z1).1 (congrArg (Prod.mk M) (Option.some.inj hj)) (Nat.le_of_ble_eq_true rfl) (Nat.le_of_ble_eq_true rfl) dX5_isSo_93
    have J_81 : ∀ (p5 : Int32) (p7 : Int32) (H : Heap) (locs : List Loc) (ls : Array Slot), j_X5_isSo_81 g M p5 p7 = some RR → hp X M H → va_S (hA X) s.heap H locs → lv_has ls 8 [(5, .int p5), (7, .int p7)] → W p l e ({ frames := 1, cells := 0, slots := 0, locals := 24 } : Room) s m _ below meth c H locs 0 0 (MQ below (qI X (M, RR)) _ s 0 0 (hA X)) (F0 m 81 ls []) := by
      intro p5 p7 H locs ls hj hP hS hl
      unfold j_X5_isSo_81 at hj
      refine lv_iload hx hb dX5_isSo_81 (lv_at hl 1 rfl) ?_
      refine lv_iload hx hb dX5_isSo_83 (lv_at hl 0 rfl) ?_
      refine lv_icmp_eq (tgt := 92) hx hb dX5_isSo_85 (by decide) (fun c2 => ?_) (fun c2 => ?_)
      · have hj := if_t c2 hj
        refine lv_iconst (v := 0) hx hb dX5_isSo_92 (by decide) ?_
        exact J_93 (0 : Int32) H locs ls hj hP hS (lv_sub hl [] rfl)
      · have hj := if_f c2 hj
        refine lv_iconst (v := 1) hx hb dX5_isSo_88 (by decide) ?_
        refine lv_goto (tgt := 93) hx hb dX5_isSo_89 (by decide) ?_
        exact J_93 (1 : Int32) H locs ls hj hP hS (lv_sub hl [] rfl)
    have J_56 : ∀ (p5 : Int32) (s0 : Int32) (H : Heap) (locs : List Loc) (ls : Array Slot), j_X5_isSo_56 g M p5 s0 = some RR → hp X M H → va_S (hA X) s.heap H locs → lv_has ls 8 [(5, .int p5)] → W p l e ({ frames := 1, cells := 0, slots := 0, locals := 24 } : Room) s m _ below meth c H locs 0 0 (MQ below (qI X (M, RR)) _ s 0 0 (hA X)) (F0 m 56 ls [.int s0]) := by
      intro p5 s0 H locs ls hj hP hS hl
      unfold j_X5_isSo_56 at hj
      refine lv_istore (lv' := [(7, .int s0), (5, .int p5)]) hx hb dX5_isSo_56 hl (by decide) rfl (fun ls hl => ?_)
      refine lv_goto (tgt := 81) hx hb dX5_isSo_58 (by decide) ?_
      exact J_81 p5 s0 H locs ls hj hP hS (lv_sub hl [1, 0] rfl)
    have J_45 : ∀ (p5 : Int32) (p6 : Int32) (H : Heap) (locs : List Loc) (ls : Array Slot), j_X5_isSo_45 g M p5 p6 = some RR → hp X M H → va_S (hA X) s.heap H locs → lv_has ls 8 [(5, .int p5), (6, .int p6)] → W p l e ({ frames := 1, cells := 0, slots := 0, locals := 24 } : Room) s m _ below meth c H locs 0 0 (MQ below (qI X (M, RR)) _ s 0 0 (hA X)) (F0 m 45 ls []) := by
      intro p5 p6 H locs ls hj hP hS hl
      unfold j_X5_isSo_45 at hj
      refine lv_iload hx hb dX5_isSo_45 (lv_at hl 1 rfl) ?_
      refine lv_iconst (v := 5) hx hb dX5_isSo_47 (by decide) ?_
      refine lv_icmp_ne (tgt := 55) hx hb dX5_isSo_48 (by decide) (fun c3 => ?_) (fun c3 => ?_)
      · have hj := if_f c3 hj
        refine lv_iconst (v := 0) hx hb dX5_isSo_55 (by decide) ?_
        exact J_56 p5 (0 : Int32) H locs ls hj hP hS (lv_sub hl [0] rfl)
      · have hj := if_t c3 hj
        refine lv_iconst (v := 1) hx hb dX5_isSo_51 (by decide) ?_
        refine lv_goto (tgt := 56) hx hb dX5_isSo_52 (by decide) ?_
        exact J_56 p5 (1 : Int32) H locs ls hj hP hS (lv_sub hl [0] rfl)
    have J_26 : ∀ (p1 : Option Nat) (p2 : Int32) (p3 : Option Nat) (p4 : Int32) (p5 : Int32) (s0 : Int32) (H : Heap) (locs : List Loc) (ls : Array Slot), j_X5_isSo_26 g M p1 p2 p3 p4 p5 s0 = some RR → hp X M H → va_S (hA X) s.heap H locs → lv_has ls 8 [(1, va_rf p1), (2, .int p2), (3, va_rf p3), (4, .int p4), (5, .int p5)] → W p l e ({ frames := 1, cells := 0, slots := 0, locals := 24 } : Room) s m _ below meth c H locs 0 0 (MQ below (qI X (M, RR)) _ s 0 0 (hA X)) (F0 m 26 ls [.int s0]) := by
      intro p1 p2 p3 p4 p5 s0 H locs ls hj hP hS hl
      unfold j_X5_isSo_26 at hj
      refine lv_istore (lv' := [(6, .int s0), (1, va_rf p1), (2, .int p2), (3, va_rf p3), (4, .int p4), (5, .int p5)]) hx hb dX5_isSo_26 hl (by decide) rfl (fun ls hl => ?_)
      refine h_aload_n hx hb dX5_isSo_28 rfl (lv_at hl 1 rfl) ?_
      refine lv_iload_n hx hb dX5_isSo_29 rfl (lv_at hl 2 rfl) ?_
      obtain ⟨b4, e_b4, hj⟩ := Option.bind_eq_some_iff.mp hj
      subst e_b4
      obtain ⟨_, o5, hj⟩ := Option.bind_eq_some_iff.mp hj
      obtain ⟨v6, g_v6, hj⟩ := Option.bind_eq_some_iff.mp hj
      refine f_I (k_V (b := b4) (As := [.int p2]) (n := 1) (rest := []) cx hl.1 hP hS (c_X3_blankAt l X g M b4 p2 v6 g_v6) o5 rfl mC_X3_blankAt mM_X5_156 mI_X3_blankAt mS_X3_blankAt mZ_X3 (by decide +kernel) ⟨Nat.le_of_ble_eq_true rfl, Nat.le_of_ble_eq_true rfl⟩ rfl rfl (Nat.le_of_ble_eq_true rfl) dX5_isSo_30 ⟨Nat.le_of_ble_eq_true rfl, Nat.le_of_ble_eq_true rfl⟩) hS (fun H locs hP hS => ?_)
      have hP : hp X M H := hP
      refine W.eq (g2 := F0 m 33 ls [.int v6]) rfl ?_
      refine W.widen (k := 0) (n := 0) (Nat.le_of_ble_eq_true rfl) (Nat.le_of_ble_eq_true rfl) ?_
      refine lv_if_ne (tgt := 45) hx hb dX5_isSo_33 (by decide) (fun c7 => ?_) (fun c7 => ?_)
      · have hj := if_f c7 hj
        exact J_45 p5 s0 H locs ls hj hP hS (lv_sub hl [5, 0] rfl)
      · have hj := if_t c7 hj
        refine h_aload_n hx hb dX5_isSo_36 rfl (lv_at hl 3 rfl) ?_
        refine lv_iload hx hb dX5_isSo_37 (lv_at hl 4 rfl) ?_
        obtain ⟨b8, e_b8, hj⟩ := Option.bind_eq_some_iff.mp hj
        subst e_b8
        obtain ⟨_, o9, hj⟩ := Option.bind_eq_some_iff.mp hj
        obtain ⟨v10, g_v10, hj⟩ := Option.bind_eq_some_iff.mp hj
        refine f_I (k_V (b := b8) (As := [.int p4]) (n := 1) (rest := []) cx hl.1 hP hS (c_X3_blankAt l X g M b8 p4 v10 g_v10) o9 rfl mC_X3_blankAt mM_X5_156 mI_X3_blankAt mS_X3_blankAt mZ_X3 (by decide +kernel) ⟨Nat.le_of_ble_eq_true rfl, Nat.le_of_ble_eq_true rfl⟩ rfl rfl (Nat.le_of_ble_eq_true rfl) dX5_isSo_39 ⟨Nat.le_of_ble_eq_true rfl, Nat.le_of_ble_eq_true rfl⟩) hS (fun H locs hP hS => ?_)
        have hP : hp X M H := hP
        refine W.eq (g2 := F0 m 42 ls [.int v10]) rfl ?_
        refine W.widen (k := 0) (n := 0) (Nat.le_of_ble_eq_true rfl) (Nat.le_of_ble_eq_true rfl) ?_
        refine lv_if_eq (tgt := 61) hx hb dX5_isSo_42 (by decide) (fun c11 => ?_) (fun c11 => ?_)
        · have hj := if_t c11 hj
          refine lv_iload hx hb dX5_isSo_61 (lv_at hl 0 rfl) ?_
          refine lv_aload_n hx hb dX5_isSo_63 rfl (lv_at hl 1 rfl) ?_
          obtain ⟨v12, g_v12, hj⟩ := Option.bind_eq_some_iff.mp hj
          refine r_getR cx hP g_v12 iX3 rfl (by decide) mF_X5_149 dX5_isSo_64 ?_
          refine lv_iload_n hx hb dX5_isSo_67 rfl (lv_at hl 2 rfl) ?_
          obtain ⟨b13, e_b13, hj⟩ := Option.bind_eq_some_iff.mp hj
          subst e_b13
          obtain ⟨v14, g_v14, hj⟩ := Option.bind_eq_some_iff.mp hj
          refine r_aldD cx hP g_v14 dX5_isSo_68 ?_
          refine lv_aload_n hx hb dX5_isSo_69 rfl (lv_at hl 3 rfl) ?_
          obtain ⟨v15, g_v15, hj⟩ := Option.bind_eq_some_iff.mp hj
          refine r_getR cx hP g_v15 iX3 rfl (by decide) mF_X5_149 dX5_isSo_70 ?_
          refine lv_iload hx hb dX5_isSo_73 (lv_at hl 4 rfl) ?_
          obtain ⟨b16, e_b16, hj⟩ := Option.bind_eq_some_iff.mp hj
          subst e_b16
          obtain ⟨v17, g_v17, hj⟩ := Option.bind_eq_some_iff.mp hj
          refine r_aldD cx hP g_v17 dX5_isSo_75 ?_
          obtain ⟨v18, g_v18, hj⟩ := Option.bind_eq_some_iff.mp hj
          refine f_I (k_S (As := [.int s0, .double v14, .double v17]) (n := 3) (rest := []) cx hl.1 hP hS (c_X5_isSoOfNumbers l X g M s0 v14 v17 v18 g_v18) mC_X5_isSoOfNumbers mM_X5_219 mT_X5_isSoOfNumbers mZ_X5 (by decide +kernel) ⟨Nat.le_of_ble_eq_true rfl, Nat.le_of_ble_eq_true rfl⟩ rfl rfl (Nat.le_of_ble_eq_true rfl) dX5_isSo_76 ⟨Nat.le_of_ble_eq_true rfl, Nat.le_of_ble_eq_true rfl⟩) hS (fun H locs hP hS => ?_)
          have hP : hp X M H := hP
          refine W.eq (g2 := F0 m 79 ls [.int v18]) rfl ?_
          refine W.widen (k := 0) (n := 0) (Nat.le_of_ble_eq_true rfl) (Nat.le_of_ble_eq_true rfl) ?_
          refine lv_istore (lv' := [(7, .int v18), (6, .int s0), (1, .ref b4), (2, .int p2), (3, .ref b8), (4, .int p4), (5, .int p5)]) hx hb dX5_isSo_79 hl (by decide) rfl (fun ls hl => ?_)
          exact J_81 p5 v18 H locs ls hj hP hS (lv_sub hl [6, 0] rfl)
        · have hj := if_f c11 hj
          exact J_45 p5 s0 H locs ls hj hP hS (lv_sub hl [5, 0] rfl)
    have J_11 : ∀ (p0 : Int32) (p1 : Option Nat) (p2 : Int32) (p3 : Option Nat) (p4 : Int32) (s0 : Int32) (H : Heap) (locs : List Loc) (ls : Array Slot), j_X5_isSo_11 g M p0 p1 p2 p3 p4 s0 = some RR → hp X M H → va_S (hA X) s.heap H locs → lv_has ls 8 [(0, .int p0), (1, va_rf p1), (2, .int p2), (3, va_rf p3), (4, .int p4)] → W p l e ({ frames := 1, cells := 0, slots := 0, locals := 24 } : Room) s m _ below meth c H locs 0 0 (MQ below (qI X (M, RR)) _ s 0 0 (hA X)) (F0 m 11 ls [.int s0]) := by
      intro p0 p1 p2 p3 p4 s0 H locs ls hj hP hS hl
      unfold j_X5_isSo_11 at hj
      refine lv_istore (lv' := [(5, .int s0), (0, .int p0), (1, va_rf p1), (2, .int p2), (3, va_rf p3), (4, .int p4)]) hx hb dX5_isSo_11 hl (by decide) rfl (fun ls hl => ?_)
      refine lv_iload hx hb dX5_isSo_13 (lv_at hl 0 rfl) ?_
      refine lv_if_eq (tgt := 25) hx hb dX5_isSo_15 (by decide) (fun c19 => ?_) (fun c19 => ?_)
      · have hj := if_t c19 hj
        refine lv_iload_n hx hb dX5_isSo_25 rfl (lv_at hl 1 rfl) ?_
        exact J_26 p1 p2 p3 p4 s0 p0 H locs ls hj hP hS (lv_sub hl [2, 3, 4, 5, 0] rfl)
      · have hj := if_f c19 hj
        refine lv_iload_n hx hb dX5_isSo_18 rfl (lv_at hl 1 rfl) ?_
        refine lv_bipush (v := 6) hx hb dX5_isSo_19 (by decide) ?_
        refine lv_isub hx hb dX5_isSo_21 ?_
        refine lv_goto (tgt := 26) hx hb dX5_isSo_22 (by decide) ?_
        exact J_26 p1 p2 p3 p4 s0 (p0 - (6 : Int32)) H locs ls hj hP hS (lv_sub hl [2, 3, 4, 5, 0] rfl)
    intro H locs hP hS
    refine lv_iload_n hx hb dX5_isSo_0 rfl (lv_at hl 0 rfl) ?_
    refine lv_bipush (v := 6) hx hb dX5_isSo_1 (by decide) ?_
    refine lv_icmp_lt (tgt := 10) hx hb dX5_isSo_3 (by decide) (fun c20 => ?_) (fun c20 => ?_)
    · have hj := if_t c20 hj
      refine lv_iconst (v := 0) hx hb dX5_isSo_10 (by decide) ?_
      exact J_11 a0 a1 a2 a3 a4 (0 : Int32) H locs ls hj hP hS (lv_sub hl [0, 1, 2, 3, 4] rfl)
    · have hj := if_f c20 hj
      refine lv_iconst (v := 1) hx hb dX5_isSo_6 (by decide) ?_
      refine lv_goto (tgt := 11) hx hb dX5_isSo_7 (by decide) ?_
      exact J_11 a0 a1 a2 a3 a4 (1 : Int32) H locs ls hj hP hS (lv_sub hl [0, 1, 2, 3, 4] rfl)
  exact hgo _ _ hP hS
set_option maxHeartbeats 4000000 in
set_option maxRecDepth 100000 in
theorem c_X2_leavesBlank (l : Launch) (X : hX) (g : Nat) (M : hm) (a0 : Nat) (a1 : Option Nat) (a2 : Int32) (RR : Int32) (hj : j_X2_leavesBlank g M a0 a1 a2 = some RR) : Ct l X yX2_leavesBlank cX2_leavesBlank 3 (some .boolean) { frames := 3, cells := 0, slots := 0, locals := 67 } [.ref a0, va_rf a1, .int a2] M (qI X (M, RR)) := by
  refine h_enter (own := RX2) (by decide) rfl (Nat.le_of_ble_eq_true rfl) ?_
  intro p e s m below meth c ls cx hr hlocks hnm hP hS hl
  have hx := cx.1
  have hb := cx.2.1
  have hl : lv_has ls 3 [(0, .ref a0), (1, va_rf a1), (2, .int a2)] := hl
  unfold j_X2_leavesBlank at hj
  have hgo : ∀ (H : Heap) (locs : List Loc), hp X M H → va_S (hA X) s.heap H locs → W p l e ({ frames := 3, cells := 0, slots := 0, locals := 67 } : Room) s m _ below meth c H locs 0 0 (MQ below (qI X (M, RR)) _ s 0 0 (hA X)) (F0 m 0 ls []) := by
    have J_257 : ∀ (s0 : Int32) (H : Heap) (locs : List Loc) (ls : Array Slot), j_X2_leavesBlank_257 g M s0 = some RR → hp X M H → va_S (hA X) s.heap H locs → lv_has ls 3 [] → W p l e ({ frames := 3, cells := 0, slots := 0, locals := 67 } : Room) s m _ below meth c H locs 0 0 (MQ below (qI X (M, RR)) _ s 0 0 (hA X)) (F0 m 257 ls [.int s0]) := by
      intro s0 H locs ls hj hP hS hl
      unfold j_X2_leavesBlank_257 at hj
      obtain ⟨z1, g_z1, hj⟩ := Option.bind_eq_some_iff.mp hj
      exact t_Z cx hr hlocks hP hS (zb_eq g_z1).1 (congrArg (Prod.mk M) (Option.some.inj hj)) (Nat.le_of_ble_eq_true rfl) (Nat.le_of_ble_eq_true rfl) dX2_leavesBlank_257
    have J_243 : ∀ (s0 : Int32) (H : Heap) (locs : List Loc) (ls : Array Slot), j_X2_leavesBlank_243 g M s0 = some RR → hp X M H → va_S (hA X) s.heap H locs → lv_has ls 3 [] → W p l e ({ frames := 3, cells := 0, slots := 0, locals := 67 } : Room) s m _ below meth c H locs 0 0 (MQ below (qI X (M, RR)) _ s 0 0 (hA X)) (F0 m 243 ls [.int s0]) := by
      intro s0 H locs ls hj hP hS hl
      unfold j_X2_leavesBlank_243 at hj
      obtain ⟨z2, g_z2, hj⟩ := Option.bind_eq_some_iff.mp hj
      exact t_Z cx hr hlocks hP hS (zb_eq g_z2).1 (congrArg (Prod.mk M) (Option.some.inj hj)) (Nat.le_of_ble_eq_true rfl) (Nat.le_of_ble_eq_true rfl) dX2_leavesBlank_243
    have J_229 : ∀ (s0 : Int32) (H : Heap) (locs : List Loc) (ls : Array Slot), j_X2_leavesBlank_229 g M s0 = some RR → hp X M H → va_S (hA X) s.heap H locs → lv_has ls 3 [] → W p l e ({ frames := 3, cells := 0, slots := 0, locals := 67 } : Room) s m _ below meth c H locs 0 0 (MQ below (qI X (M, RR)) _ s 0 0 (hA X)) (F0 m 229 ls [.int s0]) := by
      intro s0 H locs ls hj hP hS hl
      unfold j_X2_leavesBlank_229 at hj
      obtain ⟨z3, g_z3, hj⟩ := Option.bind_eq_some_iff.mp hj
      exact t_Z cx hr hlocks hP hS (zb_eq g_z3).1 (congrArg (Prod.mk M) (Option.some.inj hj)) (Nat.le_of_ble_eq_true rfl) (Nat.le_of_ble_eq_true rfl) dX2_leavesBlank_229
    have J_228 : ∀ (H : Heap) (locs : List Loc) (ls : Array Slot), j_X2_leavesBlank_228 g M  = some RR → hp X M H → va_S (hA X) s.heap H locs → lv_has ls 3 [] → W p l e ({ frames := 3, cells := 0, slots := 0, locals := 67 } : Room) s m _ below meth c H locs 0 0 (MQ below (qI X (M, RR)) _ s 0 0 (hA X)) (F0 m 228 ls []) := by
      intro  H locs ls hj hP hS hl
      unfold j_X2_leavesBlank_228 at hj
      refine lv_iconst (v := 0) hx hb dX2_leavesBlank_228 (by decide) ?_
      exact J_229 (0 : Int32) H locs ls hj hP hS (lv_sub hl [] rfl)
    have J_224 : ∀ (H : Heap) (locs : List Loc) (ls : Array Slot), j_X2_leavesBlank_224 g M  = some RR → hp X M H → va_S (hA X) s.heap H locs → lv_has ls 3 [] → W p l e ({ frames := 3, cells := 0, slots := 0, locals := 67 } : Room) s m _ below meth c H locs 0 0 (MQ below (qI X (M, RR)) _ s 0 0 (hA X)) (F0 m 224 ls []) := by
      intro  H locs ls hj hP hS hl
      unfold j_X2_leavesBlank_224 at hj
      refine lv_iconst (v := 1) hx hb dX2_leavesBlank_224 (by decide) ?_
      refine lv_goto (tgt := 229) hx hb dX2_leavesBlank_225 (by decide) ?_
      exact J_229 (1 : Int32) H locs ls hj hP hS (lv_sub hl [] rfl)
    have J_198 : ∀ (s0 : Int32) (H : Heap) (locs : List Loc) (ls : Array Slot), j_X2_leavesBlank_198 g M s0 = some RR → hp X M H → va_S (hA X) s.heap H locs → lv_has ls 3 [] → W p l e ({ frames := 3, cells := 0, slots := 0, locals := 67 } : Room) s m _ below meth c H locs 0 0 (MQ below (qI X (M, RR)) _ s 0 0 (hA X)) (F0 m 198 ls [.int s0]) := by
      intro s0 H locs ls hj hP hS hl
      unfold j_X2_leavesBlank_198 at hj
      obtain ⟨z4, g_z4, hj⟩ := Option.bind_eq_some_iff.mp hj
      exact t_Z cx hr hlocks hP hS (zb_eq g_z4).1 (congrArg (Prod.mk M) (Option.some.inj hj)) (Nat.le_of_ble_eq_true rfl) (Nat.le_of_ble_eq_true rfl) dX2_leavesBlank_198
    have J_184 : ∀ (s0 : Int32) (H : Heap) (locs : List Loc) (ls : Array Slot), j_X2_leavesBlank_184 g M s0 = some RR → hp X M H → va_S (hA X) s.heap H locs → lv_has ls 3 [] → W p l e ({ frames := 3, cells := 0, slots := 0, locals := 67 } : Room) s m _ below meth c H locs 0 0 (MQ below (qI X (M, RR)) _ s 0 0 (hA X)) (F0 m 184 ls [.int s0]) := by
      intro s0 H locs ls hj hP hS hl
      unfold j_X2_leavesBlank_184 at hj
      obtain ⟨z5, g_z5, hj⟩ := Option.bind_eq_some_iff.mp hj
      exact t_Z cx hr hlocks hP hS (zb_eq g_z5).1 (congrArg (Prod.mk M) (Option.some.inj hj)) (Nat.le_of_ble_eq_true rfl) (Nat.le_of_ble_eq_true rfl) dX2_leavesBlank_184
    have J_183 : ∀ (H : Heap) (locs : List Loc) (ls : Array Slot), j_X2_leavesBlank_183 g M  = some RR → hp X M H → va_S (hA X) s.heap H locs → lv_has ls 3 [] → W p l e ({ frames := 3, cells := 0, slots := 0, locals := 67 } : Room) s m _ below meth c H locs 0 0 (MQ below (qI X (M, RR)) _ s 0 0 (hA X)) (F0 m 183 ls []) := by
      intro  H locs ls hj hP hS hl
      unfold j_X2_leavesBlank_183 at hj
      refine lv_iconst (v := 0) hx hb dX2_leavesBlank_183 (by decide) ?_
      exact J_184 (0 : Int32) H locs ls hj hP hS (lv_sub hl [] rfl)
    have J_156 : ∀ (s0 : Int32) (H : Heap) (locs : List Loc) (ls : Array Slot), j_X2_leavesBlank_156 g M s0 = some RR → hp X M H → va_S (hA X) s.heap H locs → lv_has ls 3 [] → W p l e ({ frames := 3, cells := 0, slots := 0, locals := 67 } : Room) s m _ below meth c H locs 0 0 (MQ below (qI X (M, RR)) _ s 0 0 (hA X)) (F0 m 156 ls [.int s0]) := by
      intro s0 H locs ls hj hP hS hl
      unfold j_X2_leavesBlank_156 at hj
      obtain ⟨z6, g_z6, hj⟩ := Option.bind_eq_some_iff.mp hj
      exact t_Z cx hr hlocks hP hS (zb_eq g_z6).1 (congrArg (Prod.mk M) (Option.some.inj hj)) (Nat.le_of_ble_eq_true rfl) (Nat.le_of_ble_eq_true rfl) dX2_leavesBlank_156
    have J_151 : ∀ (H : Heap) (locs : List Loc) (ls : Array Slot), j_X2_leavesBlank_151 g M  = some RR → hp X M H → va_S (hA X) s.heap H locs → lv_has ls 3 [] → W p l e ({ frames := 3, cells := 0, slots := 0, locals := 67 } : Room) s m _ below meth c H locs 0 0 (MQ below (qI X (M, RR)) _ s 0 0 (hA X)) (F0 m 151 ls []) := by
      intro  H locs ls hj hP hS hl
      unfold j_X2_leavesBlank_151 at hj
      refine lv_iconst (v := 1) hx hb dX2_leavesBlank_151 (by decide) ?_
      refine lv_goto (tgt := 156) hx hb dX2_leavesBlank_152 (by decide) ?_
      exact J_156 (1 : Int32) H locs ls hj hP hS (lv_sub hl [] rfl)
    have J_65 : ∀ (s0 : Int32) (H : Heap) (locs : List Loc) (ls : Array Slot), j_X2_leavesBlank_65 g M s0 = some RR → hp X M H → va_S (hA X) s.heap H locs → lv_has ls 3 [] → W p l e ({ frames := 3, cells := 0, slots := 0, locals := 67 } : Room) s m _ below meth c H locs 0 0 (MQ below (qI X (M, RR)) _ s 0 0 (hA X)) (F0 m 65 ls [.int s0]) := by
      intro s0 H locs ls hj hP hS hl
      unfold j_X2_leavesBlank_65 at hj
      obtain ⟨z7, g_z7, hj⟩ := Option.bind_eq_some_iff.mp hj
      exact t_Z cx hr hlocks hP hS (zb_eq g_z7).1 (congrArg (Prod.mk M) (Option.some.inj hj)) (Nat.le_of_ble_eq_true rfl) (Nat.le_of_ble_eq_true rfl) dX2_leavesBlank_65
    have J_60 : ∀ (H : Heap) (locs : List Loc) (ls : Array Slot), j_X2_leavesBlank_60 g M  = some RR → hp X M H → va_S (hA X) s.heap H locs → lv_has ls 3 [] → W p l e ({ frames := 3, cells := 0, slots := 0, locals := 67 } : Room) s m _ below meth c H locs 0 0 (MQ below (qI X (M, RR)) _ s 0 0 (hA X)) (F0 m 60 ls []) := by
      intro  H locs ls hj hP hS hl
      unfold j_X2_leavesBlank_60 at hj
      refine lv_iconst (v := 1) hx hb dX2_leavesBlank_60 (by decide) ?_
      refine lv_goto (tgt := 65) hx hb dX2_leavesBlank_61 (by decide) ?_
      exact J_65 (1 : Int32) H locs ls hj hP hS (lv_sub hl [] rfl)
    intro H locs hP hS
    refine h_aload_n hx hb dX2_leavesBlank_0 rfl (lv_at hl 1 rfl) ?_
    obtain ⟨b8, e_b8, hj⟩ := Option.bind_eq_some_iff.mp hj
    subst e_b8
    obtain ⟨v9, g_v9, hj⟩ := Option.bind_eq_some_iff.mp hj
    refine r_getI cx hP g_v9 iX3 rfl (by decide) mF_X2_54 dX2_leavesBlank_1 ?_
    obtain ⟨v10, g_v10, hj⟩ := Option.bind_eq_some_iff.mp hj
    refine f_I (k_S (As := [.int v9]) (n := 1) (rest := []) cx hl.1 hP hS (c_X2_isOfTwo l X g M v9 v10 g_v10) mC_X2_isOfTwo mM_X2_80 mT_X2_isOfTwo mZ_X2 (by decide +kernel) ⟨Nat.le_of_ble_eq_true rfl, Nat.le_of_ble_eq_true rfl⟩ rfl rfl (Nat.le_of_ble_eq_true rfl) dX2_leavesBlank_4 ⟨Nat.le_of_ble_eq_true rfl, Nat.le_of_ble_eq_true rfl⟩) hS (fun H locs hP hS => ?_)
    have hP : hp X M H := hP
    refine W.eq (g2 := F0 m 7 ls [.int v10]) rfl ?_
    refine W.widen (k := 0) (n := 0) (Nat.le_of_ble_eq_true rfl) (Nat.le_of_ble_eq_true rfl) ?_
    refine lv_if_eq (tgt := 66) hx hb dX2_leavesBlank_7 (by decide) (fun c11 => ?_) (fun c11 => ?_)
    · have hj := if_t c11 hj
      refine lv_aload_n hx hb dX2_leavesBlank_66 rfl (lv_at hl 1 rfl) ?_
      obtain ⟨v12, g_v12, hj⟩ := Option.bind_eq_some_iff.mp hj
      refine r_getI cx hP g_v12 iX3 rfl (by decide) mF_X2_54 dX2_leavesBlank_67 ?_
      by_cases c13 : v12 = (17 : Int32)
      · have hj := if_t c13 hj
        refine lv_tableIn (off := 50) (tgt := 120) hx hb dX2_leavesBlank_70 (by rw [c13]; decide) (by rw [c13]; decide) (by rw [c13]; decide) (by decide) ?_
        refine lv_aload_n hx hb dX2_leavesBlank_120 rfl (lv_at hl 0 rfl) ?_
        obtain ⟨v22, g_v22, hj⟩ := Option.bind_eq_some_iff.mp hj
        refine r_getR cx hP g_v22 iX2 rfl (by decide) mF_X2_21 dX2_leavesBlank_121 ?_
        refine lv_iload_n hx hb dX2_leavesBlank_124 rfl (lv_at hl 2 rfl) ?_
        obtain ⟨b23, e_b23, hj⟩ := Option.bind_eq_some_iff.mp hj
        subst e_b23
        obtain ⟨_, o24, hj⟩ := Option.bind_eq_some_iff.mp hj
        obtain ⟨v25, g_v25, hj⟩ := Option.bind_eq_some_iff.mp hj
        refine f_I (k_V (b := b23) (As := [.int a2]) (n := 1) (rest := []) cx hl.1 hP hS (c_X3_blankAt l X g M b23 a2 v25 g_v25) o24 rfl mC_X3_blankAt mM_X2_84 mI_X3_blankAt mS_X3_blankAt mZ_X3 (by decide +kernel) ⟨Nat.le_of_ble_eq_true rfl, Nat.le_of_ble_eq_true rfl⟩ rfl rfl (Nat.le_of_ble_eq_true rfl) dX2_leavesBlank_125 ⟨Nat.le_of_ble_eq_true rfl, Nat.le_of_ble_eq_true rfl⟩) hS (fun H locs hP hS => ?_)
        have hP : hp X M H := hP
        refine W.eq (g2 := F0 m 128 ls [.int v25]) rfl ?_
        refine W.widen (k := 0) (n := 0) (Nat.le_of_ble_eq_true rfl) (Nat.le_of_ble_eq_true rfl) ?_
        refine lv_if_ne (tgt := 151) hx hb dX2_leavesBlank_128 (by decide) (fun c26 => ?_) (fun c26 => ?_)
        · have hj := if_f c26 hj
          exact J_151  H locs ls hj hP hS (lv_sub hl [] rfl)
        · have hj := if_t c26 hj
          refine lv_aload_n hx hb dX2_leavesBlank_131 rfl (lv_at hl 1 rfl) ?_
          obtain ⟨v27, g_v27, hj⟩ := Option.bind_eq_some_iff.mp hj
          refine r_getI cx hP g_v27 iX3 rfl (by decide) mF_X2_94 dX2_leavesBlank_132 ?_
          refine lv_aload_n hx hb dX2_leavesBlank_135 rfl (lv_at hl 0 rfl) ?_
          obtain ⟨v28, g_v28, hj⟩ := Option.bind_eq_some_iff.mp hj
          refine r_getR cx hP g_v28 iX2 rfl (by decide) mF_X2_21 dX2_leavesBlank_136 ?_
          refine lv_iload_n hx hb dX2_leavesBlank_139 rfl (lv_at hl 2 rfl) ?_
          refine lv_aload_n hx hb dX2_leavesBlank_140 rfl (lv_at hl 0 rfl) ?_
          obtain ⟨v29, g_v29, hj⟩ := Option.bind_eq_some_iff.mp hj
          refine r_getR cx hP g_v29 iX2 rfl (by decide) mF_X2_25 dX2_leavesBlank_141 ?_
          refine lv_iload_n hx hb dX2_leavesBlank_144 rfl (lv_at hl 2 rfl) ?_
          obtain ⟨v30, g_v30, hj⟩ := Option.bind_eq_some_iff.mp hj
          refine f_I (k_N (As := [.int v27, va_rf v28, .int a2, va_rf v29, .int a2]) (n := 5) (rest := []) cx hl.1 hP hS (c_X5_isSo l X g M v27 v28 a2 v29 a2 v30 g_v30) mC_X5_isSo cx.2.2.2.2.2.1.2.1.2.2.1 mT_X5_isSo mZ_X5 (by decide +kernel) ⟨Nat.le_of_ble_eq_true rfl, Nat.le_of_ble_eq_true rfl⟩ rfl rfl (Nat.le_of_ble_eq_true rfl) dX2_leavesBlank_145 ⟨Nat.le_of_ble_eq_true rfl, Nat.le_of_ble_eq_true rfl⟩) hS (fun H locs hP hS => ?_)
          have hP : hp X M H := hP
          refine W.eq (g2 := F0 m 148 ls [.int v30]) rfl ?_
          refine W.widen (k := 0) (n := 0) (Nat.le_of_ble_eq_true rfl) (Nat.le_of_ble_eq_true rfl) ?_
          refine lv_if_ne (tgt := 155) hx hb dX2_leavesBlank_148 (by decide) (fun c31 => ?_) (fun c31 => ?_)
          · have hj := if_f c31 hj
            refine lv_iconst (v := 0) hx hb dX2_leavesBlank_155 (by decide) ?_
            exact J_156 (0 : Int32) H locs ls hj hP hS (lv_sub hl [] rfl)
          · have hj := if_t c31 hj
            exact J_151  H locs ls hj hP hS (lv_sub hl [] rfl)
      have hj := if_f c13 hj
      by_cases c14 : v12 = (18 : Int32)
      · have hj := if_t c14 hj
        refine lv_tableIn (off := 87) (tgt := 157) hx hb dX2_leavesBlank_70 (by rw [c14]; decide) (by rw [c14]; decide) (by rw [c14]; decide) (by decide) ?_
        refine lv_aload_n hx hb dX2_leavesBlank_157 rfl (lv_at hl 0 rfl) ?_
        obtain ⟨v32, g_v32, hj⟩ := Option.bind_eq_some_iff.mp hj
        refine r_getR cx hP g_v32 iX2 rfl (by decide) mF_X2_21 dX2_leavesBlank_158 ?_
        refine lv_iload_n hx hb dX2_leavesBlank_161 rfl (lv_at hl 2 rfl) ?_
        obtain ⟨b33, e_b33, hj⟩ := Option.bind_eq_some_iff.mp hj
        subst e_b33
        obtain ⟨_, o34, hj⟩ := Option.bind_eq_some_iff.mp hj
        obtain ⟨v35, g_v35, hj⟩ := Option.bind_eq_some_iff.mp hj
        refine f_I (k_V (b := b33) (As := [.int a2]) (n := 1) (rest := []) cx hl.1 hP hS (c_X3_blankAt l X g M b33 a2 v35 g_v35) o34 rfl mC_X3_blankAt mM_X2_84 mI_X3_blankAt mS_X3_blankAt mZ_X3 (by decide +kernel) ⟨Nat.le_of_ble_eq_true rfl, Nat.le_of_ble_eq_true rfl⟩ rfl rfl (Nat.le_of_ble_eq_true rfl) dX2_leavesBlank_162 ⟨Nat.le_of_ble_eq_true rfl, Nat.le_of_ble_eq_true rfl⟩) hS (fun H locs hP hS => ?_)
        have hP : hp X M H := hP
        refine W.eq (g2 := F0 m 165 ls [.int v35]) rfl ?_
        refine W.widen (k := 0) (n := 0) (Nat.le_of_ble_eq_true rfl) (Nat.le_of_ble_eq_true rfl) ?_
        refine lv_if_eq (tgt := 183) hx hb dX2_leavesBlank_165 (by decide) (fun c36 => ?_) (fun c36 => ?_)
        · have hj := if_t c36 hj
          exact J_183  H locs ls hj hP hS (lv_sub hl [] rfl)
        · have hj := if_f c36 hj
          refine lv_aload_n hx hb dX2_leavesBlank_168 rfl (lv_at hl 0 rfl) ?_
          obtain ⟨v37, g_v37, hj⟩ := Option.bind_eq_some_iff.mp hj
          refine r_getR cx hP g_v37 iX2 rfl (by decide) mF_X2_25 dX2_leavesBlank_169 ?_
          refine lv_iload_n hx hb dX2_leavesBlank_172 rfl (lv_at hl 2 rfl) ?_
          obtain ⟨b38, e_b38, hj⟩ := Option.bind_eq_some_iff.mp hj
          subst e_b38
          obtain ⟨_, o39, hj⟩ := Option.bind_eq_some_iff.mp hj
          obtain ⟨v40, g_v40, hj⟩ := Option.bind_eq_some_iff.mp hj
          refine f_I (k_V (b := b38) (As := [.int a2]) (n := 1) (rest := []) cx hl.1 hP hS (c_X3_blankAt l X g M b38 a2 v40 g_v40) o39 rfl mC_X3_blankAt mM_X2_84 mI_X3_blankAt mS_X3_blankAt mZ_X3 (by decide +kernel) ⟨Nat.le_of_ble_eq_true rfl, Nat.le_of_ble_eq_true rfl⟩ rfl rfl (Nat.le_of_ble_eq_true rfl) dX2_leavesBlank_173 ⟨Nat.le_of_ble_eq_true rfl, Nat.le_of_ble_eq_true rfl⟩) hS (fun H locs hP hS => ?_)
          have hP : hp X M H := hP
          refine W.eq (g2 := F0 m 176 ls [.int v40]) rfl ?_
          refine W.widen (k := 0) (n := 0) (Nat.le_of_ble_eq_true rfl) (Nat.le_of_ble_eq_true rfl) ?_
          refine lv_if_eq (tgt := 183) hx hb dX2_leavesBlank_176 (by decide) (fun c41 => ?_) (fun c41 => ?_)
          · have hj := if_t c41 hj
            exact J_183  H locs ls hj hP hS (lv_sub hl [] rfl)
          · have hj := if_f c41 hj
            refine lv_iconst (v := 1) hx hb dX2_leavesBlank_179 (by decide) ?_
            refine lv_goto (tgt := 184) hx hb dX2_leavesBlank_180 (by decide) ?_
            exact J_184 (1 : Int32) H locs ls hj hP hS (lv_sub hl [] rfl)
      have hj := if_f c14 hj
      by_cases c15 : v12 = (19 : Int32)
      · have hj := if_t c15 hj
        refine lv_tableIn (off := 115) (tgt := 185) hx hb dX2_leavesBlank_70 (by rw [c15]; decide) (by rw [c15]; decide) (by rw [c15]; decide) (by decide) ?_
        refine lv_aload_n hx hb dX2_leavesBlank_185 rfl (lv_at hl 0 rfl) ?_
        refine lv_iload_n hx hb dX2_leavesBlank_186 rfl (lv_at hl 2 rfl) ?_
        obtain ⟨_, o42, hj⟩ := Option.bind_eq_some_iff.mp hj
        obtain ⟨v43, g_v43, hj⟩ := Option.bind_eq_some_iff.mp hj
        refine f_I (k_V (b := a0) (As := [.int a2]) (n := 1) (rest := []) cx hl.1 hP hS (c_X2_hasBothNeighbours l X g M a0 a2 v43 g_v43) o42 rfl mC_X2_hasBothNeighbours mM_X2_101 mI_X2_hasBothNeighbours mS_X2_hasBothNeighbours mZ_X2 (by decide +kernel) ⟨Nat.le_of_ble_eq_true rfl, Nat.le_of_ble_eq_true rfl⟩ rfl rfl (Nat.le_of_ble_eq_true rfl) dX2_leavesBlank_187 ⟨Nat.le_of_ble_eq_true rfl, Nat.le_of_ble_eq_true rfl⟩) hS (fun H locs hP hS => ?_)
        have hP : hp X M H := hP
        refine W.eq (g2 := F0 m 190 ls [.int v43]) rfl ?_
        refine W.widen (k := 0) (n := 0) (Nat.le_of_ble_eq_true rfl) (Nat.le_of_ble_eq_true rfl) ?_
        refine lv_if_ne (tgt := 197) hx hb dX2_leavesBlank_190 (by decide) (fun c44 => ?_) (fun c44 => ?_)
        · have hj := if_f c44 hj
          refine lv_iconst (v := 0) hx hb dX2_leavesBlank_197 (by decide) ?_
          exact J_198 (0 : Int32) H locs ls hj hP hS (lv_sub hl [] rfl)
        · have hj := if_t c44 hj
          refine lv_iconst (v := 1) hx hb dX2_leavesBlank_193 (by decide) ?_
          refine lv_goto (tgt := 198) hx hb dX2_leavesBlank_194 (by decide) ?_
          exact J_198 (1 : Int32) H locs ls hj hP hS (lv_sub hl [] rfl)
      have hj := if_f c15 hj
      by_cases c16 : v12 = (20 : Int32)
      · have hj := if_t c16 hj
        refine lv_tableIn (off := 129) (tgt := 199) hx hb dX2_leavesBlank_70 (by rw [c16]; decide) (by rw [c16]; decide) (by rw [c16]; decide) (by decide) ?_
        refine lv_aload_n hx hb dX2_leavesBlank_199 rfl (lv_at hl 0 rfl) ?_
        obtain ⟨v45, g_v45, hj⟩ := Option.bind_eq_some_iff.mp hj
        refine r_getR cx hP g_v45 iX2 rfl (by decide) mF_X2_21 dX2_leavesBlank_200 ?_
        refine lv_iload_n hx hb dX2_leavesBlank_203 rfl (lv_at hl 2 rfl) ?_
        obtain ⟨b46, e_b46, hj⟩ := Option.bind_eq_some_iff.mp hj
        subst e_b46
        obtain ⟨_, o47, hj⟩ := Option.bind_eq_some_iff.mp hj
        obtain ⟨v48, g_v48, hj⟩ := Option.bind_eq_some_iff.mp hj
        refine f_I (k_V (b := b46) (As := [.int a2]) (n := 1) (rest := []) cx hl.1 hP hS (c_X3_blankAt l X g M b46 a2 v48 g_v48) o47 rfl mC_X3_blankAt mM_X2_84 mI_X3_blankAt mS_X3_blankAt mZ_X3 (by decide +kernel) ⟨Nat.le_of_ble_eq_true rfl, Nat.le_of_ble_eq_true rfl⟩ rfl rfl (Nat.le_of_ble_eq_true rfl) dX2_leavesBlank_204 ⟨Nat.le_of_ble_eq_true rfl, Nat.le_of_ble_eq_true rfl⟩) hS (fun H locs hP hS => ?_)
        have hP : hp X M H := hP
        refine W.eq (g2 := F0 m 207 ls [.int v48]) rfl ?_
        refine W.widen (k := 0) (n := 0) (Nat.le_of_ble_eq_true rfl) (Nat.le_of_ble_eq_true rfl) ?_
        refine lv_if_eq (tgt := 228) hx hb dX2_leavesBlank_207 (by decide) (fun c49 => ?_) (fun c49 => ?_)
        · have hj := if_t c49 hj
          exact J_228  H locs ls hj hP hS (lv_sub hl [] rfl)
        · have hj := if_f c49 hj
          refine lv_iload_n hx hb dX2_leavesBlank_210 rfl (lv_at hl 2 rfl) ?_
          refine lv_if_eq (tgt := 224) hx hb dX2_leavesBlank_211 (by decide) (fun c50 => ?_) (fun c50 => ?_)
          · have hj := if_t c50 hj
            exact J_224  H locs ls hj hP hS (lv_sub hl [] rfl)
          · have hj := if_f c50 hj
            refine lv_aload_n hx hb dX2_leavesBlank_214 rfl (lv_at hl 1 rfl) ?_
            refine lv_iload_n hx hb dX2_leavesBlank_215 rfl (lv_at hl 2 rfl) ?_
            refine lv_iconst (v := 1) hx hb dX2_leavesBlank_216 (by decide) ?_
            refine lv_isub hx hb dX2_leavesBlank_217 ?_
            obtain ⟨_, o51, hj⟩ := Option.bind_eq_some_iff.mp hj
            obtain ⟨v52, g_v52, hj⟩ := Option.bind_eq_some_iff.mp hj
            refine f_I (k_V (b := b8) (As := [.int (a2 - (1 : Int32))]) (n := 1) (rest := []) cx hl.1 hP hS (c_X3_blankAt l X g M b8 (a2 - (1 : Int32)) v52 g_v52) o51 rfl mC_X3_blankAt mM_X2_84 mI_X3_blankAt mS_X3_blankAt mZ_X3 (by decide +kernel) ⟨Nat.le_of_ble_eq_true rfl, Nat.le_of_ble_eq_true rfl⟩ rfl rfl (Nat.le_of_ble_eq_true rfl) dX2_leavesBlank_218 ⟨Nat.le_of_ble_eq_true rfl, Nat.le_of_ble_eq_true rfl⟩) hS (fun H locs hP hS => ?_)
            have hP : hp X M H := hP
            refine W.eq (g2 := F0 m 221 ls [.int v52]) rfl ?_
            refine W.widen (k := 0) (n := 0) (Nat.le_of_ble_eq_true rfl) (Nat.le_of_ble_eq_true rfl) ?_
            refine lv_if_eq (tgt := 228) hx hb dX2_leavesBlank_221 (by decide) (fun c53 => ?_) (fun c53 => ?_)
            · have hj := if_t c53 hj
              exact J_228  H locs ls hj hP hS (lv_sub hl [] rfl)
            · have hj := if_f c53 hj
              exact J_224  H locs ls hj hP hS (lv_sub hl [] rfl)
      have hj := if_f c16 hj
      by_cases c17 : v12 = (21 : Int32)
      · have hj := if_t c17 hj
        refine lv_tableIn (off := 129) (tgt := 199) hx hb dX2_leavesBlank_70 (by rw [c17]; decide) (by rw [c17]; decide) (by rw [c17]; decide) (by decide) ?_
        refine lv_aload_n hx hb dX2_leavesBlank_199 rfl (lv_at hl 0 rfl) ?_
        obtain ⟨v54, g_v54, hj⟩ := Option.bind_eq_some_iff.mp hj
        refine r_getR cx hP g_v54 iX2 rfl (by decide) mF_X2_21 dX2_leavesBlank_200 ?_
        refine lv_iload_n hx hb dX2_leavesBlank_203 rfl (lv_at hl 2 rfl) ?_
        obtain ⟨b55, e_b55, hj⟩ := Option.bind_eq_some_iff.mp hj
        subst e_b55
        obtain ⟨_, o56, hj⟩ := Option.bind_eq_some_iff.mp hj
        obtain ⟨v57, g_v57, hj⟩ := Option.bind_eq_some_iff.mp hj
        refine f_I (k_V (b := b55) (As := [.int a2]) (n := 1) (rest := []) cx hl.1 hP hS (c_X3_blankAt l X g M b55 a2 v57 g_v57) o56 rfl mC_X3_blankAt mM_X2_84 mI_X3_blankAt mS_X3_blankAt mZ_X3 (by decide +kernel) ⟨Nat.le_of_ble_eq_true rfl, Nat.le_of_ble_eq_true rfl⟩ rfl rfl (Nat.le_of_ble_eq_true rfl) dX2_leavesBlank_204 ⟨Nat.le_of_ble_eq_true rfl, Nat.le_of_ble_eq_true rfl⟩) hS (fun H locs hP hS => ?_)
        have hP : hp X M H := hP
        refine W.eq (g2 := F0 m 207 ls [.int v57]) rfl ?_
        refine W.widen (k := 0) (n := 0) (Nat.le_of_ble_eq_true rfl) (Nat.le_of_ble_eq_true rfl) ?_
        refine lv_if_eq (tgt := 228) hx hb dX2_leavesBlank_207 (by decide) (fun c58 => ?_) (fun c58 => ?_)
        · have hj := if_t c58 hj
          exact J_228  H locs ls hj hP hS (lv_sub hl [] rfl)
        · have hj := if_f c58 hj
          refine lv_iload_n hx hb dX2_leavesBlank_210 rfl (lv_at hl 2 rfl) ?_
          refine lv_if_eq (tgt := 224) hx hb dX2_leavesBlank_211 (by decide) (fun c59 => ?_) (fun c59 => ?_)
          · have hj := if_t c59 hj
            exact J_224  H locs ls hj hP hS (lv_sub hl [] rfl)
          · have hj := if_f c59 hj
            refine lv_aload_n hx hb dX2_leavesBlank_214 rfl (lv_at hl 1 rfl) ?_
            refine lv_iload_n hx hb dX2_leavesBlank_215 rfl (lv_at hl 2 rfl) ?_
            refine lv_iconst (v := 1) hx hb dX2_leavesBlank_216 (by decide) ?_
            refine lv_isub hx hb dX2_leavesBlank_217 ?_
            obtain ⟨_, o60, hj⟩ := Option.bind_eq_some_iff.mp hj
            obtain ⟨v61, g_v61, hj⟩ := Option.bind_eq_some_iff.mp hj
            refine f_I (k_V (b := b8) (As := [.int (a2 - (1 : Int32))]) (n := 1) (rest := []) cx hl.1 hP hS (c_X3_blankAt l X g M b8 (a2 - (1 : Int32)) v61 g_v61) o60 rfl mC_X3_blankAt mM_X2_84 mI_X3_blankAt mS_X3_blankAt mZ_X3 (by decide +kernel) ⟨Nat.le_of_ble_eq_true rfl, Nat.le_of_ble_eq_true rfl⟩ rfl rfl (Nat.le_of_ble_eq_true rfl) dX2_leavesBlank_218 ⟨Nat.le_of_ble_eq_true rfl, Nat.le_of_ble_eq_true rfl⟩) hS (fun H locs hP hS => ?_)
            have hP : hp X M H := hP
            refine W.eq (g2 := F0 m 221 ls [.int v61]) rfl ?_
            refine W.widen (k := 0) (n := 0) (Nat.le_of_ble_eq_true rfl) (Nat.le_of_ble_eq_true rfl) ?_
            refine lv_if_eq (tgt := 228) hx hb dX2_leavesBlank_221 (by decide) (fun c62 => ?_) (fun c62 => ?_)
            · have hj := if_t c62 hj
              exact J_228  H locs ls hj hP hS (lv_sub hl [] rfl)
            · have hj := if_f c62 hj
              exact J_224  H locs ls hj hP hS (lv_sub hl [] rfl)
      have hj := if_f c17 hj
      by_cases c18 : v12 = (22 : Int32)
      · have hj := if_t c18 hj
        refine lv_tableIn (off := 160) (tgt := 230) hx hb dX2_leavesBlank_70 (by rw [c18]; decide) (by rw [c18]; decide) (by rw [c18]; decide) (by decide) ?_
        refine lv_iload_n hx hb dX2_leavesBlank_230 rfl (lv_at hl 2 rfl) ?_
        refine lv_aload_n hx hb dX2_leavesBlank_231 rfl (lv_at hl 0 rfl) ?_
        obtain ⟨v63, g_v63, hj⟩ := Option.bind_eq_some_iff.mp hj
        refine r_getI cx hP g_v63 iX2 rfl (by decide) mF_X2_32 dX2_leavesBlank_232 ?_
        refine lv_icmp_lt (tgt := 242) hx hb dX2_leavesBlank_235 (by decide) (fun c64 => ?_) (fun c64 => ?_)
        · have hj := if_t c64 hj
          refine lv_iconst (v := 0) hx hb dX2_leavesBlank_242 (by decide) ?_
          exact J_243 (0 : Int32) H locs ls hj hP hS (lv_sub hl [] rfl)
        · have hj := if_f c64 hj
          refine lv_iconst (v := 1) hx hb dX2_leavesBlank_238 (by decide) ?_
          refine lv_goto (tgt := 243) hx hb dX2_leavesBlank_239 (by decide) ?_
          exact J_243 (1 : Int32) H locs ls hj hP hS (lv_sub hl [] rfl)
      have hj := if_f c18 hj
      by_cases c19 : v12 = (23 : Int32)
      · have hj := if_t c19 hj
        refine lv_tableIn (off := 190) (tgt := 260) hx hb dX2_leavesBlank_70 (by rw [c19]; decide) (by rw [c19]; decide) (by rw [c19]; decide) (by decide) ?_
        refine lv_aload_n hx hb dX2_leavesBlank_260 rfl (lv_at hl 0 rfl) ?_
        obtain ⟨v65, g_v65, hj⟩ := Option.bind_eq_some_iff.mp hj
        refine r_getR cx hP g_v65 iX2 rfl (by decide) mF_X2_21 dX2_leavesBlank_261 ?_
        refine lv_iload_n hx hb dX2_leavesBlank_264 rfl (lv_at hl 2 rfl) ?_
        obtain ⟨b66, e_b66, hj⟩ := Option.bind_eq_some_iff.mp hj
        subst e_b66
        obtain ⟨_, o67, hj⟩ := Option.bind_eq_some_iff.mp hj
        obtain ⟨v68, g_v68, hj⟩ := Option.bind_eq_some_iff.mp hj
        refine f_I (k_V (b := b66) (As := [.int a2]) (n := 1) (rest := []) cx hl.1 hP hS (c_X3_blankAt l X g M b66 a2 v68 g_v68) o67 rfl mC_X3_blankAt mM_X2_84 mI_X3_blankAt mS_X3_blankAt mZ_X3 (by decide +kernel) ⟨Nat.le_of_ble_eq_true rfl, Nat.le_of_ble_eq_true rfl⟩ rfl rfl (Nat.le_of_ble_eq_true rfl) dX2_leavesBlank_265 ⟨Nat.le_of_ble_eq_true rfl, Nat.le_of_ble_eq_true rfl⟩) hS (fun H locs hP hS => ?_)
        have hP : hp X M H := hP
        refine W.eq (g2 := F0 m 268 ls [.int v68]) rfl ?_
        refine W.widen (k := 0) (n := 0) (Nat.le_of_ble_eq_true rfl) (Nat.le_of_ble_eq_true rfl) ?_
        obtain ⟨z69, g_z69, hj⟩ := Option.bind_eq_some_iff.mp hj
        exact t_Z cx hr hlocks hP hS (zb_eq g_z69).1 (congrArg (Prod.mk M) (Option.some.inj hj)) (Nat.le_of_ble_eq_true rfl) (Nat.le_of_ble_eq_true rfl) dX2_leavesBlank_268
      have hj := if_f c19 hj
      by_cases c20 : v12 = (24 : Int32)
      · have hj := if_t c20 hj
        refine lv_tableIn (off := 174) (tgt := 244) hx hb dX2_leavesBlank_70 (by rw [c20]; decide) (by rw [c20]; decide) (by rw [c20]; decide) (by decide) ?_
        refine lv_aload_n hx hb dX2_leavesBlank_244 rfl (lv_at hl 0 rfl) ?_
        refine lv_iload_n hx hb dX2_leavesBlank_245 rfl (lv_at hl 2 rfl) ?_
        obtain ⟨_, o70, hj⟩ := Option.bind_eq_some_iff.mp hj
        obtain ⟨v71, g_v71, hj⟩ := Option.bind_eq_some_iff.mp hj
        refine f_I (k_V (b := a0) (As := [.int a2]) (n := 1) (rest := []) cx hl.1 hP hS (c_X2_hasDifference l X g M a0 a2 v71 g_v71) o70 rfl mC_X2_hasDifference mM_X2_104 mI_X2_hasDifference mS_X2_hasDifference mZ_X2 (by decide +kernel) ⟨Nat.le_of_ble_eq_true rfl, Nat.le_of_ble_eq_true rfl⟩ rfl rfl (Nat.le_of_ble_eq_true rfl) dX2_leavesBlank_246 ⟨Nat.le_of_ble_eq_true rfl, Nat.le_of_ble_eq_true rfl⟩) hS (fun H locs hP hS => ?_)
        have hP : hp X M H := hP
        refine W.eq (g2 := F0 m 249 ls [.int v71]) rfl ?_
        refine W.widen (k := 0) (n := 0) (Nat.le_of_ble_eq_true rfl) (Nat.le_of_ble_eq_true rfl) ?_
        refine lv_if_ne (tgt := 256) hx hb dX2_leavesBlank_249 (by decide) (fun c72 => ?_) (fun c72 => ?_)
        · have hj := if_f c72 hj
          refine lv_iconst (v := 0) hx hb dX2_leavesBlank_256 (by decide) ?_
          exact J_257 (0 : Int32) H locs ls hj hP hS (lv_sub hl [] rfl)
        · have hj := if_t c72 hj
          refine lv_iconst (v := 1) hx hb dX2_leavesBlank_252 (by decide) ?_
          refine lv_goto (tgt := 257) hx hb dX2_leavesBlank_253 (by decide) ?_
          exact J_257 (1 : Int32) H locs ls hj hP hS (lv_sub hl [] rfl)
      have hj := if_f c20 hj
      by_cases c21 : v12 = (25 : Int32)
      · have hj := if_t c21 hj
        refine lv_tableIn (off := 188) (tgt := 258) hx hb dX2_leavesBlank_70 (by rw [c21]; decide) (by rw [c21]; decide) (by rw [c21]; decide) (by decide) ?_
        refine lv_iconst (v := 0) hx hb dX2_leavesBlank_258 (by decide) ?_
        exact t_Z cx hr hlocks hP hS (by decide) (congrArg (Prod.mk M) (Option.some.inj hj)) (Nat.le_of_ble_eq_true rfl) (Nat.le_of_ble_eq_true rfl) dX2_leavesBlank_259
      have hj := if_f c21 hj
      have sw : v12.toInt < 17 ∨ 25 < v12.toInt := by
        rcases Int.lt_or_ge v12.toInt 17 with q | q
        · exact Or.inl q
        have q := sw_step q (sw_ne c13 (by decide))
        have q := sw_step q (sw_ne c14 (by decide))
        have q := sw_step q (sw_ne c15 (by decide))
        have q := sw_step q (sw_ne c16 (by decide))
        have q := sw_step q (sw_ne c17 (by decide))
        have q := sw_step q (sw_ne c18 (by decide))
        have q := sw_step q (sw_ne c19 (by decide))
        have q := sw_step q (sw_ne c20 (by decide))
        have q := sw_step q (sw_ne c21 (by decide))
        exact Or.inr (by omega)
      refine lv_tableOut (tgt := 260) hx hb dX2_leavesBlank_70 sw (by decide) ?_
      refine lv_aload_n hx hb dX2_leavesBlank_260 rfl (lv_at hl 0 rfl) ?_
      obtain ⟨v73, g_v73, hj⟩ := Option.bind_eq_some_iff.mp hj
      refine r_getR cx hP g_v73 iX2 rfl (by decide) mF_X2_21 dX2_leavesBlank_261 ?_
      refine lv_iload_n hx hb dX2_leavesBlank_264 rfl (lv_at hl 2 rfl) ?_
      obtain ⟨b74, e_b74, hj⟩ := Option.bind_eq_some_iff.mp hj
      subst e_b74
      obtain ⟨_, o75, hj⟩ := Option.bind_eq_some_iff.mp hj
      obtain ⟨v76, g_v76, hj⟩ := Option.bind_eq_some_iff.mp hj
      refine f_I (k_V (b := b74) (As := [.int a2]) (n := 1) (rest := []) cx hl.1 hP hS (c_X3_blankAt l X g M b74 a2 v76 g_v76) o75 rfl mC_X3_blankAt mM_X2_84 mI_X3_blankAt mS_X3_blankAt mZ_X3 (by decide +kernel) ⟨Nat.le_of_ble_eq_true rfl, Nat.le_of_ble_eq_true rfl⟩ rfl rfl (Nat.le_of_ble_eq_true rfl) dX2_leavesBlank_265 ⟨Nat.le_of_ble_eq_true rfl, Nat.le_of_ble_eq_true rfl⟩) hS (fun H locs hP hS => ?_)
      have hP : hp X M H := hP
      refine W.eq (g2 := F0 m 268 ls [.int v76]) rfl ?_
      refine W.widen (k := 0) (n := 0) (Nat.le_of_ble_eq_true rfl) (Nat.le_of_ble_eq_true rfl) ?_
      obtain ⟨z77, g_z77, hj⟩ := Option.bind_eq_some_iff.mp hj
      exact t_Z cx hr hlocks hP hS (zb_eq g_z77).1 (congrArg (Prod.mk M) (Option.some.inj hj)) (Nat.le_of_ble_eq_true rfl) (Nat.le_of_ble_eq_true rfl) dX2_leavesBlank_268
    · have hj := if_f c11 hj
      refine lv_aload_n hx hb dX2_leavesBlank_10 rfl (lv_at hl 0 rfl) ?_
      obtain ⟨v78, g_v78, hj⟩ := Option.bind_eq_some_iff.mp hj
      refine r_getR cx hP g_v78 iX2 rfl (by decide) mF_X2_21 dX2_leavesBlank_11 ?_
      refine lv_iload_n hx hb dX2_leavesBlank_14 rfl (lv_at hl 2 rfl) ?_
      obtain ⟨b79, e_b79, hj⟩ := Option.bind_eq_some_iff.mp hj
      subst e_b79
      obtain ⟨_, o80, hj⟩ := Option.bind_eq_some_iff.mp hj
      obtain ⟨v81, g_v81, hj⟩ := Option.bind_eq_some_iff.mp hj
      refine f_I (k_V (b := b79) (As := [.int a2]) (n := 1) (rest := []) cx hl.1 hP hS (c_X3_blankAt l X g M b79 a2 v81 g_v81) o80 rfl mC_X3_blankAt mM_X2_84 mI_X3_blankAt mS_X3_blankAt mZ_X3 (by decide +kernel) ⟨Nat.le_of_ble_eq_true rfl, Nat.le_of_ble_eq_true rfl⟩ rfl rfl (Nat.le_of_ble_eq_true rfl) dX2_leavesBlank_15 ⟨Nat.le_of_ble_eq_true rfl, Nat.le_of_ble_eq_true rfl⟩) hS (fun H locs hP hS => ?_)
      have hP : hp X M H := hP
      refine W.eq (g2 := F0 m 18 ls [.int v81]) rfl ?_
      refine W.widen (k := 0) (n := 0) (Nat.le_of_ble_eq_true rfl) (Nat.le_of_ble_eq_true rfl) ?_
      refine lv_if_ne (tgt := 60) hx hb dX2_leavesBlank_18 (by decide) (fun c82 => ?_) (fun c82 => ?_)
      · have hj := if_f c82 hj
        exact J_60  H locs ls hj hP hS (lv_sub hl [] rfl)
      · have hj := if_t c82 hj
        refine lv_aload_n hx hb dX2_leavesBlank_21 rfl (lv_at hl 0 rfl) ?_
        obtain ⟨v83, g_v83, hj⟩ := Option.bind_eq_some_iff.mp hj
        refine r_getR cx hP g_v83 iX2 rfl (by decide) mF_X2_25 dX2_leavesBlank_22 ?_
        refine lv_iload_n hx hb dX2_leavesBlank_25 rfl (lv_at hl 2 rfl) ?_
        obtain ⟨b84, e_b84, hj⟩ := Option.bind_eq_some_iff.mp hj
        subst e_b84
        obtain ⟨_, o85, hj⟩ := Option.bind_eq_some_iff.mp hj
        obtain ⟨v86, g_v86, hj⟩ := Option.bind_eq_some_iff.mp hj
        refine f_I (k_V (b := b84) (As := [.int a2]) (n := 1) (rest := []) cx hl.1 hP hS (c_X3_blankAt l X g M b84 a2 v86 g_v86) o85 rfl mC_X3_blankAt mM_X2_84 mI_X3_blankAt mS_X3_blankAt mZ_X3 (by decide +kernel) ⟨Nat.le_of_ble_eq_true rfl, Nat.le_of_ble_eq_true rfl⟩ rfl rfl (Nat.le_of_ble_eq_true rfl) dX2_leavesBlank_26 ⟨Nat.le_of_ble_eq_true rfl, Nat.le_of_ble_eq_true rfl⟩) hS (fun H locs hP hS => ?_)
        have hP : hp X M H := hP
        refine W.eq (g2 := F0 m 29 ls [.int v86]) rfl ?_
        refine W.widen (k := 0) (n := 0) (Nat.le_of_ble_eq_true rfl) (Nat.le_of_ble_eq_true rfl) ?_
        refine lv_if_ne (tgt := 60) hx hb dX2_leavesBlank_29 (by decide) (fun c87 => ?_) (fun c87 => ?_)
        · have hj := if_f c87 hj
          exact J_60  H locs ls hj hP hS (lv_sub hl [] rfl)
        · have hj := if_t c87 hj
          refine lv_aload_n hx hb dX2_leavesBlank_32 rfl (lv_at hl 1 rfl) ?_
          obtain ⟨v88, g_v88, hj⟩ := Option.bind_eq_some_iff.mp hj
          refine r_getI cx hP g_v88 iX3 rfl (by decide) mF_X2_54 dX2_leavesBlank_33 ?_
          refine lv_aload_n hx hb dX2_leavesBlank_36 rfl (lv_at hl 0 rfl) ?_
          obtain ⟨v89, g_v89, hj⟩ := Option.bind_eq_some_iff.mp hj
          refine r_getR cx hP g_v89 iX2 rfl (by decide) mF_X2_21 dX2_leavesBlank_37 ?_
          obtain ⟨b90, e_b90, hj⟩ := Option.bind_eq_some_iff.mp hj
          subst e_b90
          obtain ⟨v91, g_v91, hj⟩ := Option.bind_eq_some_iff.mp hj
          refine r_getR cx hP g_v91 iX3 rfl (by decide) mF_X2_87 dX2_leavesBlank_40 ?_
          refine lv_iload_n hx hb dX2_leavesBlank_43 rfl (lv_at hl 2 rfl) ?_
          obtain ⟨b92, e_b92, hj⟩ := Option.bind_eq_some_iff.mp hj
          subst e_b92
          obtain ⟨v93, g_v93, hj⟩ := Option.bind_eq_some_iff.mp hj
          refine r_aldD cx hP g_v93 dX2_leavesBlank_44 ?_
          refine lv_aload_n hx hb dX2_leavesBlank_45 rfl (lv_at hl 0 rfl) ?_
          obtain ⟨v94, g_v94, hj⟩ := Option.bind_eq_some_iff.mp hj
          refine r_getR cx hP g_v94 iX2 rfl (by decide) mF_X2_25 dX2_leavesBlank_46 ?_
          obtain ⟨b95, e_b95, hj⟩ := Option.bind_eq_some_iff.mp hj
          subst e_b95
          obtain ⟨v96, g_v96, hj⟩ := Option.bind_eq_some_iff.mp hj
          refine r_getR cx hP g_v96 iX3 rfl (by decide) mF_X2_87 dX2_leavesBlank_49 ?_
          refine lv_iload_n hx hb dX2_leavesBlank_52 rfl (lv_at hl 2 rfl) ?_
          obtain ⟨b97, e_b97, hj⟩ := Option.bind_eq_some_iff.mp hj
          subst e_b97
          obtain ⟨v98, g_v98, hj⟩ := Option.bind_eq_some_iff.mp hj
          refine r_aldD cx hP g_v98 dX2_leavesBlank_53 ?_
          obtain ⟨v99, g_v99, hj⟩ := Option.bind_eq_some_iff.mp hj
          refine f_I (k_S (As := [.int v88, .double v93, .double v98]) (n := 3) (rest := []) cx hl.1 hP hS (c_X2_isUndefined l X g M v88 v93 v98 v99 g_v99) mC_X2_isUndefined mM_X2_90 mT_X2_isUndefined mZ_X2 (by decide +kernel) ⟨Nat.le_of_ble_eq_true rfl, Nat.le_of_ble_eq_true rfl⟩ rfl rfl (Nat.le_of_ble_eq_true rfl) dX2_leavesBlank_54 ⟨Nat.le_of_ble_eq_true rfl, Nat.le_of_ble_eq_true rfl⟩) hS (fun H locs hP hS => ?_)
          have hP : hp X M H := hP
          refine W.eq (g2 := F0 m 57 ls [.int v99]) rfl ?_
          refine W.widen (k := 0) (n := 0) (Nat.le_of_ble_eq_true rfl) (Nat.le_of_ble_eq_true rfl) ?_
          refine lv_if_eq (tgt := 64) hx hb dX2_leavesBlank_57 (by decide) (fun c100 => ?_) (fun c100 => ?_)
          · have hj := if_t c100 hj
            refine lv_iconst (v := 0) hx hb dX2_leavesBlank_64 (by decide) ?_
            exact J_65 (0 : Int32) H locs ls hj hP hS (lv_sub hl [] rfl)
          · have hj := if_f c100 hj
            exact J_60  H locs ls hj hP hS (lv_sub hl [] rfl)
  exact hgo _ _ hP hS
set_option maxHeartbeats 4000000 in
set_option maxRecDepth 100000 in
theorem c_X2_lesserPlaces (l : Launch) (X : hX) (g : Nat) (M : hm) (a0 : Nat) (a1 : UInt64) (RR : Int32) (hj : j_X2_lesserPlaces g M a0 a1 = some RR) : Ct l X yX2_lesserPlaces cX2_lesserPlaces 5 (some .int) { frames := 1, cells := 0, slots := 0, locals := 21 } [.ref a0, .double a1] M (qI X (M, RR)) := by
  refine h_enter (own := RX2) (by decide) rfl (Nat.le_of_ble_eq_true rfl) ?_
  intro p e s m below meth c ls cx hr hlocks hnm hP hS hl
  have hx := cx.1
  have hb := cx.2.1
  have hl : lv_has ls 5 [(0, .ref a0), (1, .double a1)] := hl
  unfold j_X2_lesserPlaces at hj
  have hgo : ∀ (H : Heap) (locs : List Loc), hp X M H → va_S (hA X) s.heap H locs → W p l e ({ frames := 1, cells := 0, slots := 0, locals := 21 } : Room) s m _ below meth c H locs 0 0 (MQ below (qI X (M, RR)) _ s 0 0 (hA X)) (F0 m 0 ls []) := by
    have J_48 : ∀ (p3 : Int32) (H : Heap) (locs : List Loc) (ls : Array Slot), j_X2_lesserPlaces_48 g M p3 = some RR → hp X M H → va_S (hA X) s.heap H locs → lv_has ls 5 [(3, .int p3)] → W p l e ({ frames := 1, cells := 0, slots := 0, locals := 21 } : Room) s m _ below meth c H locs 0 0 (MQ below (qI X (M, RR)) _ s 0 0 (hA X)) (F0 m 48 ls []) := by
      intro p3 H locs ls hj hP hS hl
      unfold j_X2_lesserPlaces_48 at hj
      refine lv_iload_n hx hb dX2_lesserPlaces_48 rfl (lv_at hl 0 rfl) ?_
      exact t_I cx hr hlocks hP hS (congrArg (Prod.mk M) (Option.some.inj hj)) (Nat.le_of_ble_eq_true rfl) (Nat.le_of_ble_eq_true rfl) dX2_lesserPlaces_49
    have L_5 : ∀ (n5 : Nat) (p0 : Nat) (p1 : UInt64) (p3 : Int32) (p4 : Int32) (H : Heap) (locs : List Loc) (ls : Array Slot), j_X2_lesserPlaces_5 g M n5 p0 p1 p3 p4 = some RR → hp X M H → va_S (hA X) s.heap H locs → lv_has ls 5 [(0, .ref p0), (1, .double p1), (3, .int p3), (4, .int p4)] → W p l e ({ frames := 1, cells := 0, slots := 0, locals := 21 } : Room) s m _ below meth c H locs 0 0 (MQ below (qI X (M, RR)) _ s 0 0 (hA X)) (F0 m 5 ls []) := by
      intro n5
      induction n5 with
      | zero =>
        intro p0 p1 p3 p4 H locs ls hj
        exact no_zero hj
      | succ n5 ih_5 =>
        have J_42 : ∀ (p0 : Nat) (p1 : UInt64) (p3 : Int32) (p4 : Int32) (H : Heap) (locs : List Loc) (ls : Array Slot), j_X2_lesserPlaces_42 g (fun p0 p1 p3 p4 => j_X2_lesserPlaces_5 g M n5 p0 p1 p3 p4) M p0 p1 p3 p4 = some RR → hp X M H → va_S (hA X) s.heap H locs → lv_has ls 5 [(0, .ref p0), (1, .double p1), (3, .int p3), (4, .int p4)] → W p l e ({ frames := 1, cells := 0, slots := 0, locals := 21 } : Room) s m _ below meth c H locs 0 0 (MQ below (qI X (M, RR)) _ s 0 0 (hA X)) (F0 m 42 ls []) := by
          intro p0 p1 p3 p4 H locs ls hj hP hS hl
          unfold j_X2_lesserPlaces_42 at hj
          refine lv_iinc (v := (p4 + (1 : Int32))) (lv' := [(4, .int (p4 + (1 : Int32))), (0, .ref p0), (1, .double p1), (3, .int p3)]) hx hb dX2_lesserPlaces_42 hl (k := 3) rfl rfl (by decide) rfl (fun ls hl => ?_)
          refine lv_goto (tgt := 5) hx hb dX2_lesserPlaces_45 (by decide) ?_
          exact ih_5 p0 p1 p3 (p4 + (1 : Int32)) H locs ls hj hP hS (lv_sub hl [1, 2, 3, 0] rfl)
        intro p0 p1 p3 p4 H locs ls hj hP hS hl
        rw [j_X2_lesserPlaces_5_s] at hj
        refine lv_iload hx hb dX2_lesserPlaces_5 (lv_at hl 3 rfl) ?_
        refine lv_bipush (v := 16) hx hb dX2_lesserPlaces_7 (by decide) ?_
        refine lv_icmp_ge (tgt := 48) hx hb dX2_lesserPlaces_9 (by decide) (fun c1 => ?_) (fun c1 => ?_)
        · have hj := if_t c1 hj
          exact J_48 p3 H locs ls hj hP hS (lv_sub hl [2] rfl)
        · have hj := if_f c1 hj
          refine lv_aload_n hx hb dX2_lesserPlaces_12 rfl (lv_at hl 0 rfl) ?_
          obtain ⟨v2, g_v2, hj⟩ := Option.bind_eq_some_iff.mp hj
          refine r_getR cx hP g_v2 iX2 rfl (by decide) mF_X2_21 dX2_lesserPlaces_13 ?_
          refine lv_iload hx hb dX2_lesserPlaces_16 (lv_at hl 3 rfl) ?_
          obtain ⟨b3, e_b3, hj⟩ := Option.bind_eq_some_iff.mp hj
          subst e_b3
          obtain ⟨_, o4, hj⟩ := Option.bind_eq_some_iff.mp hj
          obtain ⟨v5, g_v5, hj⟩ := Option.bind_eq_some_iff.mp hj
          refine f_I (k_V (b := b3) (As := [.int p4]) (n := 1) (rest := []) cx hl.1 hP hS (c_X3_blankAt l X g M b3 p4 v5 g_v5) o4 rfl mC_X3_blankAt mM_X2_84 mI_X3_blankAt mS_X3_blankAt mZ_X3 (by decide +kernel) ⟨Nat.le_of_ble_eq_true rfl, Nat.le_of_ble_eq_true rfl⟩ rfl rfl (Nat.le_of_ble_eq_true rfl) dX2_lesserPlaces_18 ⟨Nat.le_of_ble_eq_true rfl, Nat.le_of_ble_eq_true rfl⟩) hS (fun H locs hP hS => ?_)
          have hP : hp X M H := hP
          refine W.eq (g2 := F0 m 21 ls [.int v5]) rfl ?_
          refine W.widen (k := 0) (n := 0) (Nat.le_of_ble_eq_true rfl) (Nat.le_of_ble_eq_true rfl) ?_
          refine lv_if_ne (tgt := 42) hx hb dX2_lesserPlaces_21 (by decide) (fun c6 => ?_) (fun c6 => ?_)
          · have hj := if_f c6 hj
            exact J_42 p0 p1 p3 p4 H locs ls hj hP hS (lv_sub hl [0, 1, 2, 3] rfl)
          · have hj := if_t c6 hj
            refine lv_aload_n hx hb dX2_lesserPlaces_24 rfl (lv_at hl 0 rfl) ?_
            obtain ⟨v7, g_v7, hj⟩ := Option.bind_eq_some_iff.mp hj
            refine r_getR cx hP g_v7 iX2 rfl (by decide) mF_X2_21 dX2_lesserPlaces_25 ?_
            obtain ⟨b8, e_b8, hj⟩ := Option.bind_eq_some_iff.mp hj
            subst e_b8
            obtain ⟨v9, g_v9, hj⟩ := Option.bind_eq_some_iff.mp hj
            refine r_getR cx hP g_v9 iX3 rfl (by decide) mF_X2_87 dX2_lesserPlaces_28 ?_
            refine lv_iload hx hb dX2_lesserPlaces_31 (lv_at hl 3 rfl) ?_
            obtain ⟨b10, e_b10, hj⟩ := Option.bind_eq_some_iff.mp hj
            subst e_b10
            obtain ⟨v11, g_v11, hj⟩ := Option.bind_eq_some_iff.mp hj
            refine r_aldD cx hP g_v11 dX2_lesserPlaces_33 ?_
            refine lv_dload_n hx hb dX2_lesserPlaces_34 rfl (lv_at hl 1 rfl) ?_
            refine lv_dcmp hx hb dX2_lesserPlaces_35 ?_
            refine lv_if_ge (tgt := 42) hx hb dX2_lesserPlaces_36 (by decide) (fun c12 => ?_) (fun c12 => ?_)
            · have hj := if_t c12 hj
              exact J_42 p0 p1 p3 p4 H locs ls hj hP hS (lv_sub hl [0, 1, 2, 3] rfl)
            · have hj := if_f c12 hj
              refine lv_iinc (v := (p3 + (1 : Int32))) (lv' := [(3, .int (p3 + (1 : Int32))), (0, .ref p0), (1, .double p1), (4, .int p4)]) hx hb dX2_lesserPlaces_39 hl (k := 2) rfl rfl (by decide) rfl (fun ls hl => ?_)
              exact J_42 p0 p1 (p3 + (1 : Int32)) p4 H locs ls hj hP hS (lv_sub hl [1, 2, 0, 3] rfl)
    intro H locs hP hS
    refine lv_iconst (v := 0) hx hb dX2_lesserPlaces_0 (by decide) ?_
    refine lv_istore_n (lv' := [(3, .int (0 : Int32)), (0, .ref a0), (1, .double a1)]) hx hb dX2_lesserPlaces_1 rfl hl (by decide) rfl (fun ls hl => ?_)
    refine lv_iconst (v := 0) hx hb dX2_lesserPlaces_2 (by decide) ?_
    refine lv_istore (lv' := [(4, .int (0 : Int32)), (3, .int (0 : Int32)), (0, .ref a0), (1, .double a1)]) hx hb dX2_lesserPlaces_3 hl (by decide) rfl (fun ls hl => ?_)
    exact L_5 g a0 a1 (0 : Int32) (0 : Int32) H locs ls hj hP hS (lv_sub hl [2, 3, 1, 0] rfl)
  exact hgo _ _ hP hS
