set_option maxHeartbeats 4000000 in
set_option maxRecDepth 100000 in
theorem c_X6_putSpecial (l : Launch) (X : hX) (g : Nat) (M : hm) (a0 : Nat) (a1 : Int32) (a2 : Int32) (a3 : Int32) (RR : hm) (hj : j_X6_putSpecial g M a0 a1 a2 a3 = some RR) : Ct l X yX6_putSpecial cX6_putSpecial 4 none { frames := 1, cells := 0, slots := 0, locals := 23 } [.ref a0, .int a1, .int a2, .int a3] M (qV X RR) := by
  refine h_enter (own := RX6) (by decide) rfl (Nat.le_of_ble_eq_true rfl) ?_
  intro p e s m below meth c ls cx hr hlocks hnm hP hS hl
  have hx := cx.1
  have hb := cx.2.1
  have hl : lv_has ls 4 [(0, .ref a0), (1, .int a1), (2, .int a2), (3, .int a3)] := hl
  unfold j_X6_putSpecial at hj
  have hgo : ∀ (H : Heap) (locs : List Loc), hp X M H → va_S (hA X) s.heap H locs → W p l e ({ frames := 1, cells := 0, slots := 0, locals := 23 } : Room) s m _ below meth c H locs 0 0 (MQ below (qV X RR) _ s 0 0 (hA X)) (F0 m 0 ls []) := by
    have J_125 : ∀ (M : hm) (H : Heap) (locs : List Loc) (ls : Array Slot), j_X6_putSpecial_125 g M = some RR → hp X M H → va_S (hA X) s.heap H locs → lv_has ls 4 [] → W p l e ({ frames := 1, cells := 0, slots := 0, locals := 23 } : Room) s m _ below meth c H locs 0 0 (MQ below (qV X RR) _ s 0 0 (hA X)) (F0 m 125 ls []) := by
      intro M H locs ls hj hP hS hl
      unfold j_X6_putSpecial_125 at hj
      exact t_V cx hr hlocks hP hS (Option.some.inj hj) (Nat.le_of_ble_eq_true rfl) (Nat.le_of_ble_eq_true rfl) dX6_putSpecial_125
    have J_122 : ∀ (M : hm) (s0 : UInt64) (s1 : Int32) (s2 : Nat) (H : Heap) (locs : List Loc) (ls : Array Slot), j_X6_putSpecial_122 g M s0 s1 s2 = some RR → hp X M H → va_S (hA X) s.heap H locs → lv_has ls 4 [] → W p l e ({ frames := 1, cells := 0, slots := 0, locals := 23 } : Room) s m _ below meth c H locs 0 0 (MQ below (qV X RR) _ s 0 0 (hA X)) (F0 m 122 ls [.double s0, .int s1, .ref s2]) := by
      intro M s0 s1 s2 H locs ls hj hP hS hl
      unfold j_X6_putSpecial_122 at hj
      obtain ⟨_, o1, hj⟩ := Option.bind_eq_some_iff.mp hj
      obtain ⟨M2, g_M2, hj⟩ := Option.bind_eq_some_iff.mp hj
      refine f_V (k_V (b := s2) (As := [.int s1, .double s0]) (n := 2) (rest := []) cx hl.1 hP hS (c_X6_put l X g M s2 s1 s0 M2 g_M2) o1 rfl mC_X6_put mM_X6_195 mI_X6_put mS_X6_put mZ_X6 (by decide +kernel) ⟨Nat.le_of_ble_eq_true rfl, Nat.le_of_ble_eq_true rfl⟩ rfl rfl (Nat.le_of_ble_eq_true rfl) dX6_putSpecial_122 ⟨Nat.le_of_ble_eq_true rfl, Nat.le_of_ble_eq_true rfl⟩) hS (fun H locs hP hS => ?_)
      have hP : hp X M2 H := hP
      refine W.eq (g2 := F0 m 125 ls []) rfl ?_
      refine W.widen (k := 0) (n := 0) (Nat.le_of_ble_eq_true rfl) (Nat.le_of_ble_eq_true rfl) ?_
      exact J_125 M2 H locs ls hj hP hS (lv_sub hl [] rfl)
    have J_101 : ∀ (M : hm) (s0 : UInt64) (s1 : Int32) (s2 : Nat) (H : Heap) (locs : List Loc) (ls : Array Slot), j_X6_putSpecial_101 g M s0 s1 s2 = some RR → hp X M H → va_S (hA X) s.heap H locs → lv_has ls 4 [] → W p l e ({ frames := 1, cells := 0, slots := 0, locals := 23 } : Room) s m _ below meth c H locs 0 0 (MQ below (qV X RR) _ s 0 0 (hA X)) (F0 m 101 ls [.double s0, .int s1, .ref s2]) := by
      intro M s0 s1 s2 H locs ls hj hP hS hl
      unfold j_X6_putSpecial_101 at hj
      obtain ⟨_, o3, hj⟩ := Option.bind_eq_some_iff.mp hj
      obtain ⟨M4, g_M4, hj⟩ := Option.bind_eq_some_iff.mp hj
      refine f_V (k_V (b := s2) (As := [.int s1, .double s0]) (n := 2) (rest := []) cx hl.1 hP hS (c_X6_put l X g M s2 s1 s0 M4 g_M4) o3 rfl mC_X6_put mM_X6_195 mI_X6_put mS_X6_put mZ_X6 (by decide +kernel) ⟨Nat.le_of_ble_eq_true rfl, Nat.le_of_ble_eq_true rfl⟩ rfl rfl (Nat.le_of_ble_eq_true rfl) dX6_putSpecial_101 ⟨Nat.le_of_ble_eq_true rfl, Nat.le_of_ble_eq_true rfl⟩) hS (fun H locs hP hS => ?_)
      have hP : hp X M4 H := hP
      refine W.eq (g2 := F0 m 104 ls []) rfl ?_
      refine W.widen (k := 0) (n := 0) (Nat.le_of_ble_eq_true rfl) (Nat.le_of_ble_eq_true rfl) ?_
      refine lv_goto (tgt := 125) hx hb dX6_putSpecial_104 (by decide) ?_
      exact J_125 M4 H locs ls hj hP hS (lv_sub hl [] rfl)
    intro H locs hP hS
    refine lv_iload_n hx hb dX6_putSpecial_0 rfl (lv_at hl 2 rfl) ?_
    by_cases c5 : a2 = (0 : Int32)
    · have hj := if_t c5 hj
      refine lv_tableIn (off := 35) (tgt := 36) hx hb dX6_putSpecial_1 (by rw [c5]; decide) (by rw [c5]; decide) (by rw [c5]; decide) (by decide) ?_
      refine lv_aload_n hx hb dX6_putSpecial_36 rfl (lv_at hl 0 rfl) ?_
      obtain ⟨v10, g_v10, hj⟩ := Option.bind_eq_some_iff.mp hj
      refine r_getR cx hP g_v10 iX6 rfl (by decide) mF_X6_9 dX6_putSpecial_37 ?_
      refine lv_iload_n hx hb dX6_putSpecial_40 rfl (lv_at hl 1 rfl) ?_
      refine lv_dconst0 hx hb dX6_putSpecial_41 ?_
      obtain ⟨b11, e_b11, hj⟩ := Option.bind_eq_some_iff.mp hj
      subst e_b11
      obtain ⟨M12, g_M12, hj⟩ := Option.bind_eq_some_iff.mp hj
      refine r_astD cx hP hS g_M12 dX6_putSpecial_42 (fun H locs hP hS => ?_)
      refine lv_aload_n hx hb dX6_putSpecial_43 rfl (lv_at hl 0 rfl) ?_
      obtain ⟨v13, g_v13, hj⟩ := Option.bind_eq_some_iff.mp hj
      refine r_getR cx hP g_v13 iX6 rfl (by decide) mF_X6_15 dX6_putSpecial_44 ?_
      refine lv_iload_n hx hb dX6_putSpecial_47 rfl (lv_at hl 1 rfl) ?_
      refine lv_iconst (v := 1) hx hb dX6_putSpecial_48 (by decide) ?_
      obtain ⟨b14, e_b14, hj⟩ := Option.bind_eq_some_iff.mp hj
      subst e_b14
      obtain ⟨M15, g_M15, hj⟩ := Option.bind_eq_some_iff.mp hj
      refine r_astZ cx hP hS g_M15 dX6_putSpecial_49 (fun H locs hP hS => ?_)
      refine lv_goto (tgt := 125) hx hb dX6_putSpecial_50 (by decide) ?_
      exact J_125 M15 H locs ls hj hP hS (lv_sub hl [] rfl)
    have hj := if_f c5 hj
    by_cases c6 : a2 = (1 : Int32)
    · have hj := if_t c6 hj
      refine lv_tableIn (off := 52) (tgt := 53) hx hb dX6_putSpecial_1 (by rw [c6]; decide) (by rw [c6]; decide) (by rw [c6]; decide) (by decide) ?_
      refine lv_aload_n hx hb dX6_putSpecial_53 rfl (lv_at hl 0 rfl) ?_
      refine lv_iload_n hx hb dX6_putSpecial_54 rfl (lv_at hl 1 rfl) ?_
      refine lv_ldc2d hx hb cx.2.2.2.1 (cx.2.2.2.2.1 _ mK_X6_57) dX6_putSpecial_55 ?_
      obtain ⟨_, o16, hj⟩ := Option.bind_eq_some_iff.mp hj
      obtain ⟨M17, g_M17, hj⟩ := Option.bind_eq_some_iff.mp hj
      refine f_V (k_V (b := a0) (As := [.int a1, .double (9218868437227405312 : UInt64)]) (n := 2) (rest := []) cx hl.1 hP hS (c_X6_put l X g M a0 a1 (9218868437227405312 : UInt64) M17 g_M17) o16 rfl mC_X6_put mM_X6_195 mI_X6_put mS_X6_put mZ_X6 (by decide +kernel) ⟨Nat.le_of_ble_eq_true rfl, Nat.le_of_ble_eq_true rfl⟩ rfl rfl (Nat.le_of_ble_eq_true rfl) dX6_putSpecial_58 ⟨Nat.le_of_ble_eq_true rfl, Nat.le_of_ble_eq_true rfl⟩) hS (fun H locs hP hS => ?_)
      have hP : hp X M17 H := hP
      refine W.eq (g2 := F0 m 61 ls []) rfl ?_
      refine W.widen (k := 0) (n := 0) (Nat.le_of_ble_eq_true rfl) (Nat.le_of_ble_eq_true rfl) ?_
      refine lv_goto (tgt := 125) hx hb dX6_putSpecial_61 (by decide) ?_
      exact J_125 M17 H locs ls hj hP hS (lv_sub hl [] rfl)
    have hj := if_f c6 hj
    by_cases c7 : a2 = (2 : Int32)
    · have hj := if_t c7 hj
      refine lv_tableIn (off := 63) (tgt := 64) hx hb dX6_putSpecial_1 (by rw [c7]; decide) (by rw [c7]; decide) (by rw [c7]; decide) (by decide) ?_
      refine lv_aload_n hx hb dX6_putSpecial_64 rfl (lv_at hl 0 rfl) ?_
      refine lv_iload_n hx hb dX6_putSpecial_65 rfl (lv_at hl 1 rfl) ?_
      refine lv_ldc2d hx hb cx.2.2.2.1 (cx.2.2.2.2.1 _ mK_X6_59) dX6_putSpecial_66 ?_
      obtain ⟨_, o18, hj⟩ := Option.bind_eq_some_iff.mp hj
      obtain ⟨M19, g_M19, hj⟩ := Option.bind_eq_some_iff.mp hj
      refine f_V (k_V (b := a0) (As := [.int a1, .double (18442240474082181120 : UInt64)]) (n := 2) (rest := []) cx hl.1 hP hS (c_X6_put l X g M a0 a1 (18442240474082181120 : UInt64) M19 g_M19) o18 rfl mC_X6_put mM_X6_195 mI_X6_put mS_X6_put mZ_X6 (by decide +kernel) ⟨Nat.le_of_ble_eq_true rfl, Nat.le_of_ble_eq_true rfl⟩ rfl rfl (Nat.le_of_ble_eq_true rfl) dX6_putSpecial_69 ⟨Nat.le_of_ble_eq_true rfl, Nat.le_of_ble_eq_true rfl⟩) hS (fun H locs hP hS => ?_)
      have hP : hp X M19 H := hP
      refine W.eq (g2 := F0 m 72 ls []) rfl ?_
      refine W.widen (k := 0) (n := 0) (Nat.le_of_ble_eq_true rfl) (Nat.le_of_ble_eq_true rfl) ?_
      refine lv_goto (tgt := 125) hx hb dX6_putSpecial_72 (by decide) ?_
      exact J_125 M19 H locs ls hj hP hS (lv_sub hl [] rfl)
    have hj := if_f c7 hj
    by_cases c8 : a2 = (3 : Int32)
    · have hj := if_t c8 hj
      refine lv_tableIn (off := 74) (tgt := 75) hx hb dX6_putSpecial_1 (by rw [c8]; decide) (by rw [c8]; decide) (by rw [c8]; decide) (by decide) ?_
      refine lv_aload_n hx hb dX6_putSpecial_75 rfl (lv_at hl 0 rfl) ?_
      refine lv_iload_n hx hb dX6_putSpecial_76 rfl (lv_at hl 1 rfl) ?_
      refine lv_ldc2d hx hb cx.2.2.2.1 (cx.2.2.2.2.1 _ mK_X6_65) dX6_putSpecial_77 ?_
      obtain ⟨_, o20, hj⟩ := Option.bind_eq_some_iff.mp hj
      obtain ⟨M21, g_M21, hj⟩ := Option.bind_eq_some_iff.mp hj
      refine f_V (k_V (b := a0) (As := [.int a1, .double (9223372036854775808 : UInt64)]) (n := 2) (rest := []) cx hl.1 hP hS (c_X6_put l X g M a0 a1 (9223372036854775808 : UInt64) M21 g_M21) o20 rfl mC_X6_put mM_X6_195 mI_X6_put mS_X6_put mZ_X6 (by decide +kernel) ⟨Nat.le_of_ble_eq_true rfl, Nat.le_of_ble_eq_true rfl⟩ rfl rfl (Nat.le_of_ble_eq_true rfl) dX6_putSpecial_80 ⟨Nat.le_of_ble_eq_true rfl, Nat.le_of_ble_eq_true rfl⟩) hS (fun H locs hP hS => ?_)
      have hP : hp X M21 H := hP
      refine W.eq (g2 := F0 m 83 ls []) rfl ?_
      refine W.widen (k := 0) (n := 0) (Nat.le_of_ble_eq_true rfl) (Nat.le_of_ble_eq_true rfl) ?_
      refine lv_goto (tgt := 125) hx hb dX6_putSpecial_83 (by decide) ?_
      exact J_125 M21 H locs ls hj hP hS (lv_sub hl [] rfl)
    have hj := if_f c8 hj
    by_cases c9 : a2 = (4 : Int32)
    · have hj := if_t c9 hj
      refine lv_tableIn (off := 85) (tgt := 86) hx hb dX6_putSpecial_1 (by rw [c9]; decide) (by rw [c9]; decide) (by rw [c9]; decide) (by decide) ?_
      refine lv_aload_n hx hb dX6_putSpecial_86 rfl (lv_at hl 0 rfl) ?_
      refine lv_iload_n hx hb dX6_putSpecial_87 rfl (lv_at hl 1 rfl) ?_
      refine lv_iload_n hx hb dX6_putSpecial_88 rfl (lv_at hl 3 rfl) ?_
      refine lv_if_eq (tgt := 98) hx hb dX6_putSpecial_89 (by decide) (fun c22 => ?_) (fun c22 => ?_)
      · have hj := if_t c22 hj
        refine lv_ldc2d hx hb cx.2.2.2.1 (cx.2.2.2.2.1 _ mK_X6_203) dX6_putSpecial_98 ?_
        exact J_101 M (9218868437227405311 : UInt64) a1 a0 H locs ls hj hP hS (lv_sub hl [] rfl)
      · have hj := if_f c22 hj
        refine lv_ldc2d hx hb cx.2.2.2.1 (cx.2.2.2.2.1 _ mK_X6_201) dX6_putSpecial_92 ?_
        refine lv_goto (tgt := 101) hx hb dX6_putSpecial_95 (by decide) ?_
        exact J_101 M (5183643170566569984 : UInt64) a1 a0 H locs ls hj hP hS (lv_sub hl [] rfl)
    have hj := if_f c9 hj
    have sw : a2.toInt < 0 ∨ 4 < a2.toInt := by
      rcases Int.lt_or_ge a2.toInt 0 with q | q
      · exact Or.inl q
      have q := sw_step q (sw_ne c5 (by decide))
      have q := sw_step q (sw_ne c6 (by decide))
      have q := sw_step q (sw_ne c7 (by decide))
      have q := sw_step q (sw_ne c8 (by decide))
      have q := sw_step q (sw_ne c9 (by decide))
      exact Or.inr (by omega)
    refine lv_tableOut (tgt := 107) hx hb dX6_putSpecial_1 sw (by decide) ?_
    refine lv_aload_n hx hb dX6_putSpecial_107 rfl (lv_at hl 0 rfl) ?_
    refine lv_iload_n hx hb dX6_putSpecial_108 rfl (lv_at hl 1 rfl) ?_
    refine lv_iload_n hx hb dX6_putSpecial_109 rfl (lv_at hl 3 rfl) ?_
    refine lv_if_eq (tgt := 119) hx hb dX6_putSpecial_110 (by decide) (fun c23 => ?_) (fun c23 => ?_)
    · have hj := if_t c23 hj
      refine lv_ldc2d hx hb cx.2.2.2.1 (cx.2.2.2.2.1 _ mK_X6_207) dX6_putSpecial_119 ?_
      exact J_122 M (1 : UInt64) a1 a0 H locs ls hj hP hS (lv_sub hl [] rfl)
    · have hj := if_f c23 hj
      refine lv_ldc2d hx hb cx.2.2.2.1 (cx.2.2.2.2.1 _ mK_X6_205) dX6_putSpecial_113 ?_
      refine lv_goto (tgt := 122) hx hb dX6_putSpecial_116 (by decide) ?_
      exact J_122 M (3936146074321813504 : UInt64) a1 a0 H locs ls hj hP hS (lv_sub hl [] rfl)
  exact hgo _ _ hP hS
set_option maxHeartbeats 4000000 in
set_option maxRecDepth 100000 in
theorem c_X6_constantSpecial (l : Launch) (X : hX) (g : Nat) (M : hm) (a0 : Nat) (a1 : Int32) (a2 : Int32) (RR : hm × Int32) (hj : j_X6_constantSpecial g M a0 a1 a2 = some RR) : Ct l X yX6_constantSpecial cX6_constantSpecial 3 (some .int) { frames := 2, cells := 0, slots := 0, locals := 46 } [.ref a0, .int a1, .int a2] M (qI X RR) := by
  refine h_enter (own := RX6) (by decide) rfl (Nat.le_of_ble_eq_true rfl) ?_
  intro p e s m below meth c ls cx hr hlocks hnm hP hS hl
  have hx := cx.1
  have hb := cx.2.1
  have hl : lv_has ls 3 [(0, .ref a0), (1, .int a1), (2, .int a2)] := hl
  unfold j_X6_constantSpecial at hj
  have hgo : ∀ (H : Heap) (locs : List Loc), hp X M H → va_S (hA X) s.heap H locs → W p l e ({ frames := 2, cells := 0, slots := 0, locals := 46 } : Room) s m _ below meth c H locs 0 0 (MQ below (qI X RR) _ s 0 0 (hA X)) (F0 m 0 ls []) := by
    have J_19 : ∀ (M : hm) (H : Heap) (locs : List Loc) (ls : Array Slot), j_X6_constantSpecial_19 g M = some RR → hp X M H → va_S (hA X) s.heap H locs → lv_has ls 3 [] → W p l e ({ frames := 2, cells := 0, slots := 0, locals := 46 } : Room) s m _ below meth c H locs 0 0 (MQ below (qI X RR) _ s 0 0 (hA X)) (F0 m 19 ls []) := by
      intro M H locs ls hj hP hS hl
      unfold j_X6_constantSpecial_19 at hj
      refine lv_iconst (v := 0) hx hb dX6_constantSpecial_19 (by decide) ?_
      exact t_I cx hr hlocks hP hS (Option.some.inj hj) (Nat.le_of_ble_eq_true rfl) (Nat.le_of_ble_eq_true rfl) dX6_constantSpecial_20
    intro H locs hP hS
    refine lv_iload_n hx hb dX6_constantSpecial_0 rfl (lv_at hl 1 rfl) ?_
    refine lv_iconst (v := 0) hx hb dX6_constantSpecial_1 (by decide) ?_
    refine lv_bipush (v := 7) hx hb dX6_constantSpecial_2 (by decide) ?_
    obtain ⟨v1, g_v1, hj⟩ := Option.bind_eq_some_iff.mp hj
    refine f_I (k_S (As := [.int a1, .int (0 : Int32), .int (7 : Int32)]) (n := 3) (rest := []) cx hl.1 hP hS (c_X6_isIn l X g M a1 (0 : Int32) (7 : Int32) v1 g_v1) mC_X6_isIn mM_X6_191 mT_X6_isIn mZ_X6 (by decide +kernel) ⟨Nat.le_of_ble_eq_true rfl, Nat.le_of_ble_eq_true rfl⟩ rfl rfl (Nat.le_of_ble_eq_true rfl) dX6_constantSpecial_4 ⟨Nat.le_of_ble_eq_true rfl, Nat.le_of_ble_eq_true rfl⟩) hS (fun H locs hP hS => ?_)
    have hP : hp X M H := hP
    refine W.eq (g2 := F0 m 7 ls [.int v1]) rfl ?_
    refine W.widen (k := 0) (n := 0) (Nat.le_of_ble_eq_true rfl) (Nat.le_of_ble_eq_true rfl) ?_
    refine lv_if_eq (tgt := 19) hx hb dX6_constantSpecial_7 (by decide) (fun c2 => ?_) (fun c2 => ?_)
    · have hj := if_t c2 hj
      exact J_19 M H locs ls hj hP hS (lv_sub hl [] rfl)
    · have hj := if_f c2 hj
      refine lv_iload_n hx hb dX6_constantSpecial_10 rfl (lv_at hl 2 rfl) ?_
      refine lv_iconst (v := 0) hx hb dX6_constantSpecial_11 (by decide) ?_
      refine lv_iconst (v := 5) hx hb dX6_constantSpecial_12 (by decide) ?_
      obtain ⟨v3, g_v3, hj⟩ := Option.bind_eq_some_iff.mp hj
      refine f_I (k_S (As := [.int a2, .int (0 : Int32), .int (5 : Int32)]) (n := 3) (rest := []) cx hl.1 hP hS (c_X6_isIn l X g M a2 (0 : Int32) (5 : Int32) v3 g_v3) mC_X6_isIn mM_X6_191 mT_X6_isIn mZ_X6 (by decide +kernel) ⟨Nat.le_of_ble_eq_true rfl, Nat.le_of_ble_eq_true rfl⟩ rfl rfl (Nat.le_of_ble_eq_true rfl) dX6_constantSpecial_13 ⟨Nat.le_of_ble_eq_true rfl, Nat.le_of_ble_eq_true rfl⟩) hS (fun H locs hP hS => ?_)
      have hP : hp X M H := hP
      refine W.eq (g2 := F0 m 16 ls [.int v3]) rfl ?_
      refine W.widen (k := 0) (n := 0) (Nat.le_of_ble_eq_true rfl) (Nat.le_of_ble_eq_true rfl) ?_
      refine lv_if_ne (tgt := 21) hx hb dX6_constantSpecial_16 (by decide) (fun c4 => ?_) (fun c4 => ?_)
      · have hj := if_f c4 hj
        refine lv_aload_n hx hb dX6_constantSpecial_21 rfl (lv_at hl 0 rfl) ?_
        obtain ⟨_, o5, hj⟩ := Option.bind_eq_some_iff.mp hj
        obtain ⟨M6, g_M6, hj⟩ := Option.bind_eq_some_iff.mp hj
        refine f_V (k_V (b := a0) (As := []) (n := 0) (rest := []) cx hl.1 hP hS (c_X6_picture l X g M a0 M6 g_M6) o5 rfl mC_X6_picture mM_X6_212 mI_X6_picture mS_X6_picture mZ_X6 (by decide +kernel) ⟨Nat.le_of_ble_eq_true rfl, Nat.le_of_ble_eq_true rfl⟩ rfl rfl (Nat.le_of_ble_eq_true rfl) dX6_constantSpecial_22 ⟨Nat.le_of_ble_eq_true rfl, Nat.le_of_ble_eq_true rfl⟩) hS (fun H locs hP hS => ?_)
        have hP : hp X M6 H := hP
        refine W.eq (g2 := F0 m 25 ls []) rfl ?_
        refine W.widen (k := 0) (n := 0) (Nat.le_of_ble_eq_true rfl) (Nat.le_of_ble_eq_true rfl) ?_
        refine lv_aload_n hx hb dX6_constantSpecial_25 rfl (lv_at hl 0 rfl) ?_
        refine lv_sipush (v := 192) hx hb dX6_constantSpecial_26 (by decide) ?_
        refine lv_iload_n hx hb dX6_constantSpecial_29 rfl (lv_at hl 1 rfl) ?_
        refine lv_iadd hx hb dX6_constantSpecial_30 ?_
        refine lv_iload_n hx hb dX6_constantSpecial_31 rfl (lv_at hl 2 rfl) ?_
        refine lv_iconst (v := 0) hx hb dX6_constantSpecial_32 (by decide) ?_
        obtain ⟨_, o7, hj⟩ := Option.bind_eq_some_iff.mp hj
        obtain ⟨M8, g_M8, hj⟩ := Option.bind_eq_some_iff.mp hj
        refine f_V (k_V (b := a0) (As := [.int ((192 : Int32) + a1), .int a2, .int (0 : Int32)]) (n := 3) (rest := []) cx hl.1 hP hS (c_X6_putSpecial l X g M6 a0 ((192 : Int32) + a1) a2 (0 : Int32) M8 g_M8) o7 rfl mC_X6_putSpecial mM_X6_222 mI_X6_putSpecial mS_X6_putSpecial mZ_X6 (by decide +kernel) ⟨Nat.le_of_ble_eq_true rfl, Nat.le_of_ble_eq_true rfl⟩ rfl rfl (Nat.le_of_ble_eq_true rfl) dX6_constantSpecial_33 ⟨Nat.le_of_ble_eq_true rfl, Nat.le_of_ble_eq_true rfl⟩) hS (fun H locs hP hS => ?_)
        have hP : hp X M8 H := hP
        refine W.eq (g2 := F0 m 36 ls []) rfl ?_
        refine W.widen (k := 0) (n := 0) (Nat.le_of_ble_eq_true rfl) (Nat.le_of_ble_eq_true rfl) ?_
        refine lv_aload_n hx hb dX6_constantSpecial_36 rfl (lv_at hl 0 rfl) ?_
        obtain ⟨_, o9, hj⟩ := Option.bind_eq_some_iff.mp hj
        obtain ⟨⟨Mq10, vq10⟩, g_q10, hj⟩ := Option.bind_eq_some_iff.mp hj
        refine f_I (k_V (b := a0) (As := []) (n := 0) (rest := []) cx hl.1 hP hS (c_X6_changed l X g M8 a0 (Mq10, vq10) g_q10) o9 rfl mC_X6_changed mM_X6_218 mI_X6_changed mS_X6_changed mZ_X6 (by decide +kernel) ⟨Nat.le_of_ble_eq_true rfl, Nat.le_of_ble_eq_true rfl⟩ rfl rfl (Nat.le_of_ble_eq_true rfl) dX6_constantSpecial_37 ⟨Nat.le_of_ble_eq_true rfl, Nat.le_of_ble_eq_true rfl⟩) hS (fun H locs hP hS => ?_)
        have hP : hp X Mq10 H := hP
        refine W.eq (g2 := F0 m 40 ls [.int vq10]) rfl ?_
        refine W.widen (k := 0) (n := 0) (Nat.le_of_ble_eq_true rfl) (Nat.le_of_ble_eq_true rfl) ?_
        exact t_I cx hr hlocks hP hS (Option.some.inj hj) (Nat.le_of_ble_eq_true rfl) (Nat.le_of_ble_eq_true rfl) dX6_constantSpecial_40
      · have hj := if_t c4 hj
        exact J_19 M H locs ls hj hP hS (lv_sub hl [] rfl)
  exact hgo _ _ hP hS
set_option maxHeartbeats 4000000 in
set_option maxRecDepth 100000 in
theorem c_X6_formula (l : Launch) (X : hX) (g : Nat) (M : hm) (a0 : Nat) (a1 : Int32) (a2 : Int32) (a3 : Int32) (a4 : Int32) (a5 : Int32) (RR : hm × Int32) (hj : j_X6_formula g M a0 a1 a2 a3 a4 a5 = some RR) : Ct l X yX6_formula cX6_formula 7 (some .int) { frames := 1, cells := 0, slots := 0, locals := 22 } [.ref a0, .int a1, .int a2, .int a3, .int a4, .int a5] M (qI X RR) := by
  refine h_enter (own := RX6) (by decide) rfl (Nat.le_of_ble_eq_true rfl) ?_
  intro p e s m below meth c ls cx hr hlocks hnm hP hS hl
  have hx := cx.1
  have hb := cx.2.1
  have hl : lv_has ls 7 [(0, .ref a0), (1, .int a1), (2, .int a2), (3, .int a3), (4, .int a4), (5, .int a5)] := hl
  unfold j_X6_formula at hj
  have hgo : ∀ (H : Heap) (locs : List Loc), hp X M H → va_S (hA X) s.heap H locs → W p l e ({ frames := 1, cells := 0, slots := 0, locals := 22 } : Room) s m _ below meth c H locs 0 0 (MQ below (qI X RR) _ s 0 0 (hA X)) (F0 m 0 ls []) := by
    have J_71 : ∀ (M : hm) (p0 : Nat) (p1 : Int32) (p2 : Int32) (p3 : Int32) (p4 : Int32) (p5 : Int32) (s0 : Int32) (H : Heap) (locs : List Loc) (ls : Array Slot), j_X6_formula_71 g M p0 p1 p2 p3 p4 p5 s0 = some RR → hp X M H → va_S (hA X) s.heap H locs → lv_has ls 7 [(0, .ref p0), (1, .int p1), (2, .int p2), (3, .int p3), (4, .int p4), (5, .int p5)] → W p l e ({ frames := 1, cells := 0, slots := 0, locals := 22 } : Room) s m _ below meth c H locs 0 0 (MQ below (qI X RR) _ s 0 0 (hA X)) (F0 m 71 ls [.int s0]) := by
      intro M p0 p1 p2 p3 p4 p5 s0 H locs ls hj hP hS hl
      unfold j_X6_formula_71 at hj
      refine lv_istore (lv' := [(6, .int s0), (0, .ref p0), (1, .int p1), (2, .int p2), (3, .int p3), (4, .int p4), (5, .int p5)]) hx hb dX6_formula_71 hl (by decide) rfl (fun ls hl => ?_)
      refine lv_iload hx hb dX6_formula_73 (lv_at hl 0 rfl) ?_
      refine lv_if_ne (tgt := 80) hx hb dX6_formula_75 (by decide) (fun c1 => ?_) (fun c1 => ?_)
      · have hj := if_f c1 hj
        refine lv_aload_n hx hb dX6_formula_80 rfl (lv_at hl 1 rfl) ?_
        obtain ⟨_, o2, hj⟩ := Option.bind_eq_some_iff.mp hj
        obtain ⟨M3, g_M3, hj⟩ := Option.bind_eq_some_iff.mp hj
        refine f_V (k_V (b := p0) (As := []) (n := 0) (rest := []) cx hl.1 hP hS (c_X6_picture l X g M p0 M3 g_M3) o2 rfl mC_X6_picture mM_X6_212 mI_X6_picture mS_X6_picture mZ_X6 (by decide +kernel) ⟨Nat.le_of_ble_eq_true rfl, Nat.le_of_ble_eq_true rfl⟩ rfl rfl (Nat.le_of_ble_eq_true rfl) dX6_formula_81 ⟨Nat.le_of_ble_eq_true rfl, Nat.le_of_ble_eq_true rfl⟩) hS (fun H locs hP hS => ?_)
        have hP : hp X M3 H := hP
        refine W.eq (g2 := F0 m 84 ls []) rfl ?_
        refine W.widen (k := 0) (n := 0) (Nat.le_of_ble_eq_true rfl) (Nat.le_of_ble_eq_true rfl) ?_
        refine lv_aload_n hx hb dX6_formula_84 rfl (lv_at hl 1 rfl) ?_
        obtain ⟨v4, g_v4, hj⟩ := Option.bind_eq_some_iff.mp hj
        refine r_getR cx hP g_v4 iX6 rfl (by decide) mF_X6_22 dX6_formula_85 ?_
        refine lv_iconst (v := 4) hx hb dX6_formula_88 (by decide) ?_
        refine lv_iload_n hx hb dX6_formula_89 rfl (lv_at hl 2 rfl) ?_
        refine lv_imul hx hb dX6_formula_90 ?_
        refine lv_iload_n hx hb dX6_formula_91 rfl (lv_at hl 3 rfl) ?_
        obtain ⟨b5, e_b5, hj⟩ := Option.bind_eq_some_iff.mp hj
        subst e_b5
        obtain ⟨M6, g_M6, hj⟩ := Option.bind_eq_some_iff.mp hj
        refine r_astI cx hP hS g_M6 dX6_formula_92 (fun H locs hP hS => ?_)
        refine lv_aload_n hx hb dX6_formula_93 rfl (lv_at hl 1 rfl) ?_
        obtain ⟨v7, g_v7, hj⟩ := Option.bind_eq_some_iff.mp hj
        refine r_getR cx hP g_v7 iX6 rfl (by decide) mF_X6_22 dX6_formula_94 ?_
        refine lv_iconst (v := 4) hx hb dX6_formula_97 (by decide) ?_
        refine lv_iload_n hx hb dX6_formula_98 rfl (lv_at hl 2 rfl) ?_
        refine lv_imul hx hb dX6_formula_99 ?_
        refine lv_iconst (v := 1) hx hb dX6_formula_100 (by decide) ?_
        refine lv_iadd hx hb dX6_formula_101 ?_
        refine lv_iload_n hx hb dX6_formula_102 rfl (lv_at hl 4 rfl) ?_
        obtain ⟨b8, e_b8, hj⟩ := Option.bind_eq_some_iff.mp hj
        subst e_b8
        obtain ⟨M9, g_M9, hj⟩ := Option.bind_eq_some_iff.mp hj
        refine r_astI cx hP hS g_M9 dX6_formula_103 (fun H locs hP hS => ?_)
        refine lv_aload_n hx hb dX6_formula_104 rfl (lv_at hl 1 rfl) ?_
        obtain ⟨v10, g_v10, hj⟩ := Option.bind_eq_some_iff.mp hj
        refine r_getR cx hP g_v10 iX6 rfl (by decide) mF_X6_22 dX6_formula_105 ?_
        refine lv_iconst (v := 4) hx hb dX6_formula_108 (by decide) ?_
        refine lv_iload_n hx hb dX6_formula_109 rfl (lv_at hl 2 rfl) ?_
        refine lv_imul hx hb dX6_formula_110 ?_
        refine lv_iconst (v := 2) hx hb dX6_formula_111 (by decide) ?_
        refine lv_iadd hx hb dX6_formula_112 ?_
        refine lv_iload hx hb dX6_formula_113 (lv_at hl 5 rfl) ?_
        obtain ⟨b11, e_b11, hj⟩ := Option.bind_eq_some_iff.mp hj
        subst e_b11
        obtain ⟨M12, g_M12, hj⟩ := Option.bind_eq_some_iff.mp hj
        refine r_astI cx hP hS g_M12 dX6_formula_115 (fun H locs hP hS => ?_)
        refine lv_aload_n hx hb dX6_formula_116 rfl (lv_at hl 1 rfl) ?_
        obtain ⟨v13, g_v13, hj⟩ := Option.bind_eq_some_iff.mp hj
        refine r_getR cx hP g_v13 iX6 rfl (by decide) mF_X6_22 dX6_formula_117 ?_
        refine lv_iconst (v := 4) hx hb dX6_formula_120 (by decide) ?_
        refine lv_iload_n hx hb dX6_formula_121 rfl (lv_at hl 2 rfl) ?_
        refine lv_imul hx hb dX6_formula_122 ?_
        refine lv_iconst (v := 3) hx hb dX6_formula_123 (by decide) ?_
        refine lv_iadd hx hb dX6_formula_124 ?_
        refine lv_iload hx hb dX6_formula_125 (lv_at hl 6 rfl) ?_
        obtain ⟨b14, e_b14, hj⟩ := Option.bind_eq_some_iff.mp hj
        subst e_b14
        obtain ⟨M15, g_M15, hj⟩ := Option.bind_eq_some_iff.mp hj
        refine r_astI cx hP hS g_M15 dX6_formula_127 (fun H locs hP hS => ?_)
        refine lv_aload_n hx hb dX6_formula_128 rfl (lv_at hl 1 rfl) ?_
        obtain ⟨_, o16, hj⟩ := Option.bind_eq_some_iff.mp hj
        obtain ⟨⟨Mq17, vq17⟩, g_q17, hj⟩ := Option.bind_eq_some_iff.mp hj
        refine f_I (k_V (b := p0) (As := []) (n := 0) (rest := []) cx hl.1 hP hS (c_X6_changed l X g M15 p0 (Mq17, vq17) g_q17) o16 rfl mC_X6_changed mM_X6_218 mI_X6_changed mS_X6_changed mZ_X6 (by decide +kernel) ⟨Nat.le_of_ble_eq_true rfl, Nat.le_of_ble_eq_true rfl⟩ rfl rfl (Nat.le_of_ble_eq_true rfl) dX6_formula_129 ⟨Nat.le_of_ble_eq_true rfl, Nat.le_of_ble_eq_true rfl⟩) hS (fun H locs hP hS => ?_)
        have hP : hp X Mq17 H := hP
        refine W.eq (g2 := F0 m 132 ls [.int vq17]) rfl ?_
        refine W.widen (k := 0) (n := 0) (Nat.le_of_ble_eq_true rfl) (Nat.le_of_ble_eq_true rfl) ?_
        exact t_I cx hr hlocks hP hS (Option.some.inj hj) (Nat.le_of_ble_eq_true rfl) (Nat.le_of_ble_eq_true rfl) dX6_formula_132
      · have hj := if_t c1 hj
        refine lv_iconst (v := 0) hx hb dX6_formula_78 (by decide) ?_
        exact t_I cx hr hlocks hP hS (Option.some.inj hj) (Nat.le_of_ble_eq_true rfl) (Nat.le_of_ble_eq_true rfl) dX6_formula_79
    have J_70 : ∀ (M : hm) (p0 : Nat) (p1 : Int32) (p2 : Int32) (p3 : Int32) (p4 : Int32) (p5 : Int32) (H : Heap) (locs : List Loc) (ls : Array Slot), j_X6_formula_70 g M p0 p1 p2 p3 p4 p5 = some RR → hp X M H → va_S (hA X) s.heap H locs → lv_has ls 7 [(0, .ref p0), (1, .int p1), (2, .int p2), (3, .int p3), (4, .int p4), (5, .int p5)] → W p l e ({ frames := 1, cells := 0, slots := 0, locals := 22 } : Room) s m _ below meth c H locs 0 0 (MQ below (qI X RR) _ s 0 0 (hA X)) (F0 m 70 ls []) := by
      intro M p0 p1 p2 p3 p4 p5 H locs ls hj hP hS hl
      unfold j_X6_formula_70 at hj
      refine lv_iconst (v := 0) hx hb dX6_formula_70 (by decide) ?_
      exact J_71 M p0 p1 p2 p3 p4 p5 (0 : Int32) H locs ls hj hP hS (lv_sub hl [0, 1, 2, 3, 4, 5] rfl)
    have J_55 : ∀ (M : hm) (p0 : Nat) (p1 : Int32) (p2 : Int32) (p3 : Int32) (p4 : Int32) (p5 : Int32) (H : Heap) (locs : List Loc) (ls : Array Slot), j_X6_formula_55 g M p0 p1 p2 p3 p4 p5 = some RR → hp X M H → va_S (hA X) s.heap H locs → lv_has ls 7 [(0, .ref p0), (1, .int p1), (2, .int p2), (3, .int p3), (4, .int p4), (5, .int p5)] → W p l e ({ frames := 1, cells := 0, slots := 0, locals := 22 } : Room) s m _ below meth c H locs 0 0 (MQ below (qI X RR) _ s 0 0 (hA X)) (F0 m 55 ls []) := by
      intro M p0 p1 p2 p3 p4 p5 H locs ls hj hP hS hl
      unfold j_X6_formula_55 at hj
      refine lv_iload hx hb dX6_formula_55 (lv_at hl 5 rfl) ?_
      refine lv_iconst (v := 0) hx hb dX6_formula_57 (by decide) ?_
      refine lv_bipush (v := 11) hx hb dX6_formula_58 (by decide) ?_
      obtain ⟨v18, g_v18, hj⟩ := Option.bind_eq_some_iff.mp hj
      refine f_I (k_S (As := [.int p5, .int (0 : Int32), .int (11 : Int32)]) (n := 3) (rest := []) cx hl.1 hP hS (c_X6_isIn l X g M p5 (0 : Int32) (11 : Int32) v18 g_v18) mC_X6_isIn mM_X6_191 mT_X6_isIn mZ_X6 (by decide +kernel) ⟨Nat.le_of_ble_eq_true rfl, Nat.le_of_ble_eq_true rfl⟩ rfl rfl (Nat.le_of_ble_eq_true rfl) dX6_formula_60 ⟨Nat.le_of_ble_eq_true rfl, Nat.le_of_ble_eq_true rfl⟩) hS (fun H locs hP hS => ?_)
      have hP : hp X M H := hP
      refine W.eq (g2 := F0 m 63 ls [.int v18]) rfl ?_
      refine W.widen (k := 0) (n := 0) (Nat.le_of_ble_eq_true rfl) (Nat.le_of_ble_eq_true rfl) ?_
      refine lv_if_eq (tgt := 70) hx hb dX6_formula_63 (by decide) (fun c19 => ?_) (fun c19 => ?_)
      · have hj := if_t c19 hj
        exact J_70 M p0 p1 p2 p3 p4 p5 H locs ls hj hP hS (lv_sub hl [0, 1, 2, 3, 4, 5] rfl)
      · have hj := if_f c19 hj
        refine lv_iconst (v := 1) hx hb dX6_formula_66 (by decide) ?_
        refine lv_goto (tgt := 71) hx hb dX6_formula_67 (by decide) ?_
        exact J_71 M p0 p1 p2 p3 p4 p5 (1 : Int32) H locs ls hj hP hS (lv_sub hl [0, 1, 2, 3, 4, 5] rfl)
    intro H locs hP hS
    refine lv_iload_n hx hb dX6_formula_0 rfl (lv_at hl 1 rfl) ?_
    refine lv_iconst (v := 0) hx hb dX6_formula_1 (by decide) ?_
    refine lv_bipush (v := 11) hx hb dX6_formula_2 (by decide) ?_
    obtain ⟨v20, g_v20, hj⟩ := Option.bind_eq_some_iff.mp hj
    refine f_I (k_S (As := [.int a1, .int (0 : Int32), .int (11 : Int32)]) (n := 3) (rest := []) cx hl.1 hP hS (c_X6_isIn l X g M a1 (0 : Int32) (11 : Int32) v20 g_v20) mC_X6_isIn mM_X6_191 mT_X6_isIn mZ_X6 (by decide +kernel) ⟨Nat.le_of_ble_eq_true rfl, Nat.le_of_ble_eq_true rfl⟩ rfl rfl (Nat.le_of_ble_eq_true rfl) dX6_formula_4 ⟨Nat.le_of_ble_eq_true rfl, Nat.le_of_ble_eq_true rfl⟩) hS (fun H locs hP hS => ?_)
    have hP : hp X M H := hP
    refine W.eq (g2 := F0 m 7 ls [.int v20]) rfl ?_
    refine W.widen (k := 0) (n := 0) (Nat.le_of_ble_eq_true rfl) (Nat.le_of_ble_eq_true rfl) ?_
    refine lv_if_eq (tgt := 70) hx hb dX6_formula_7 (by decide) (fun c21 => ?_) (fun c21 => ?_)
    · have hj := if_t c21 hj
      exact J_70 M a0 a1 a2 a3 a4 a5 H locs ls hj hP hS (lv_sub hl [0, 1, 2, 3, 4, 5] rfl)
    · have hj := if_f c21 hj
      refine lv_iload_n hx hb dX6_formula_10 rfl (lv_at hl 2 rfl) ?_
      refine lv_iconst (v := 0) hx hb dX6_formula_11 (by decide) ?_
      refine lv_bipush (v := 26) hx hb dX6_formula_12 (by decide) ?_
      obtain ⟨v22, g_v22, hj⟩ := Option.bind_eq_some_iff.mp hj
      refine f_I (k_S (As := [.int a2, .int (0 : Int32), .int (26 : Int32)]) (n := 3) (rest := []) cx hl.1 hP hS (c_X6_isIn l X g M a2 (0 : Int32) (26 : Int32) v22 g_v22) mC_X6_isIn mM_X6_191 mT_X6_isIn mZ_X6 (by decide +kernel) ⟨Nat.le_of_ble_eq_true rfl, Nat.le_of_ble_eq_true rfl⟩ rfl rfl (Nat.le_of_ble_eq_true rfl) dX6_formula_14 ⟨Nat.le_of_ble_eq_true rfl, Nat.le_of_ble_eq_true rfl⟩) hS (fun H locs hP hS => ?_)
      have hP : hp X M H := hP
      refine W.eq (g2 := F0 m 17 ls [.int v22]) rfl ?_
      refine W.widen (k := 0) (n := 0) (Nat.le_of_ble_eq_true rfl) (Nat.le_of_ble_eq_true rfl) ?_
      refine lv_if_eq (tgt := 70) hx hb dX6_formula_17 (by decide) (fun c23 => ?_) (fun c23 => ?_)
      · have hj := if_t c23 hj
        exact J_70 M a0 a1 a2 a3 a4 a5 H locs ls hj hP hS (lv_sub hl [0, 1, 2, 3, 4, 5] rfl)
      · have hj := if_f c23 hj
        refine lv_iload_n hx hb dX6_formula_20 rfl (lv_at hl 3 rfl) ?_
        refine lv_iconst (v := 0) hx hb dX6_formula_21 (by decide) ?_
        refine lv_iload_n hx hb dX6_formula_22 rfl (lv_at hl 1 rfl) ?_
        refine lv_iconst (v := 1) hx hb dX6_formula_23 (by decide) ?_
        refine lv_isub hx hb dX6_formula_24 ?_
        obtain ⟨v24, g_v24, hj⟩ := Option.bind_eq_some_iff.mp hj
        refine f_I (k_S (As := [.int a3, .int (0 : Int32), .int (a1 - (1 : Int32))]) (n := 3) (rest := []) cx hl.1 hP hS (c_X6_isIn l X g M a3 (0 : Int32) (a1 - (1 : Int32)) v24 g_v24) mC_X6_isIn mM_X6_191 mT_X6_isIn mZ_X6 (by decide +kernel) ⟨Nat.le_of_ble_eq_true rfl, Nat.le_of_ble_eq_true rfl⟩ rfl rfl (Nat.le_of_ble_eq_true rfl) dX6_formula_25 ⟨Nat.le_of_ble_eq_true rfl, Nat.le_of_ble_eq_true rfl⟩) hS (fun H locs hP hS => ?_)
        have hP : hp X M H := hP
        refine W.eq (g2 := F0 m 28 ls [.int v24]) rfl ?_
        refine W.widen (k := 0) (n := 0) (Nat.le_of_ble_eq_true rfl) (Nat.le_of_ble_eq_true rfl) ?_
        refine lv_if_eq (tgt := 70) hx hb dX6_formula_28 (by decide) (fun c25 => ?_) (fun c25 => ?_)
        · have hj := if_t c25 hj
          exact J_70 M a0 a1 a2 a3 a4 a5 H locs ls hj hP hS (lv_sub hl [0, 1, 2, 3, 4, 5] rfl)
        · have hj := if_f c25 hj
          refine lv_iload hx hb dX6_formula_31 (lv_at hl 4 rfl) ?_
          refine lv_iconst (v := 0) hx hb dX6_formula_33 (by decide) ?_
          refine lv_iload_n hx hb dX6_formula_34 rfl (lv_at hl 1 rfl) ?_
          refine lv_iconst (v := 1) hx hb dX6_formula_35 (by decide) ?_
          refine lv_isub hx hb dX6_formula_36 ?_
          obtain ⟨v26, g_v26, hj⟩ := Option.bind_eq_some_iff.mp hj
          refine f_I (k_S (As := [.int a4, .int (0 : Int32), .int (a1 - (1 : Int32))]) (n := 3) (rest := []) cx hl.1 hP hS (c_X6_isIn l X g M a4 (0 : Int32) (a1 - (1 : Int32)) v26 g_v26) mC_X6_isIn mM_X6_191 mT_X6_isIn mZ_X6 (by decide +kernel) ⟨Nat.le_of_ble_eq_true rfl, Nat.le_of_ble_eq_true rfl⟩ rfl rfl (Nat.le_of_ble_eq_true rfl) dX6_formula_37 ⟨Nat.le_of_ble_eq_true rfl, Nat.le_of_ble_eq_true rfl⟩) hS (fun H locs hP hS => ?_)
          have hP : hp X M H := hP
          refine W.eq (g2 := F0 m 40 ls [.int v26]) rfl ?_
          refine W.widen (k := 0) (n := 0) (Nat.le_of_ble_eq_true rfl) (Nat.le_of_ble_eq_true rfl) ?_
          refine lv_if_ne (tgt := 55) hx hb dX6_formula_40 (by decide) (fun c27 => ?_) (fun c27 => ?_)
          · have hj := if_f c27 hj
            exact J_55 M a0 a1 a2 a3 a4 a5 H locs ls hj hP hS (lv_sub hl [0, 1, 2, 3, 4, 5] rfl)
          · have hj := if_t c27 hj
            refine lv_iload hx hb dX6_formula_43 (lv_at hl 4 rfl) ?_
            refine lv_bipush (v := 16) hx hb dX6_formula_45 (by decide) ?_
            refine lv_bipush (v := 23) hx hb dX6_formula_47 (by decide) ?_
            obtain ⟨v28, g_v28, hj⟩ := Option.bind_eq_some_iff.mp hj
            refine f_I (k_S (As := [.int a4, .int (16 : Int32), .int (23 : Int32)]) (n := 3) (rest := []) cx hl.1 hP hS (c_X6_isIn l X g M a4 (16 : Int32) (23 : Int32) v28 g_v28) mC_X6_isIn mM_X6_191 mT_X6_isIn mZ_X6 (by decide +kernel) ⟨Nat.le_of_ble_eq_true rfl, Nat.le_of_ble_eq_true rfl⟩ rfl rfl (Nat.le_of_ble_eq_true rfl) dX6_formula_49 ⟨Nat.le_of_ble_eq_true rfl, Nat.le_of_ble_eq_true rfl⟩) hS (fun H locs hP hS => ?_)
            have hP : hp X M H := hP
            refine W.eq (g2 := F0 m 52 ls [.int v28]) rfl ?_
            refine W.widen (k := 0) (n := 0) (Nat.le_of_ble_eq_true rfl) (Nat.le_of_ble_eq_true rfl) ?_
            refine lv_if_eq (tgt := 70) hx hb dX6_formula_52 (by decide) (fun c29 => ?_) (fun c29 => ?_)
            · have hj := if_t c29 hj
              exact J_70 M a0 a1 a2 a3 a4 a5 H locs ls hj hP hS (lv_sub hl [0, 1, 2, 3, 4, 5] rfl)
            · have hj := if_f c29 hj
              exact J_55 M a0 a1 a2 a3 a4 a5 H locs ls hj hP hS (lv_sub hl [0, 1, 2, 3, 4, 5] rfl)
  exact hgo _ _ hP hS
set_option maxHeartbeats 4000000 in
set_option maxRecDepth 100000 in
theorem c_X6_holds (l : Launch) (X : hX) (g : Nat) (M : hm) (a0 : Nat) (a1 : Int32) (a2 : Int32) (RR : Int32) (hj : j_X6_holds g M a0 a1 a2 = some RR) : Ct l X yX6_holds cX6_holds 5 (some .boolean) { frames := 1, cells := 0, slots := 0, locals := 28 } [.ref a0, .int a1, .int a2] M (qI X (M, RR)) := by
  refine h_enter (own := RX6) (by decide) rfl (Nat.le_of_ble_eq_true rfl) ?_
  intro p e s m below meth c ls cx hr hlocks hnm hP hS hl
  have hx := cx.1
  have hb := cx.2.1
  have hl : lv_has ls 5 [(0, .ref a0), (1, .int a1), (2, .int a2)] := hl
  unfold j_X6_holds at hj
  have hgo : ∀ (H : Heap) (locs : List Loc), hp X M H → va_S (hA X) s.heap H locs → W p l e ({ frames := 1, cells := 0, slots := 0, locals := 28 } : Room) s m _ below meth c H locs 0 0 (MQ below (qI X (M, RR)) _ s 0 0 (hA X)) (F0 m 0 ls []) := by
    intro H locs hP hS
    refine lv_aload_n hx hb dX6_holds_0 rfl (lv_at hl 0 rfl) ?_
    obtain ⟨v1, g_v1, hj⟩ := Option.bind_eq_some_iff.mp hj
    refine r_getR cx hP g_v1 iX6 rfl (by decide) mF_X6_45 dX6_holds_1 ?_
    refine lv_iconst (v := 3) hx hb dX6_holds_4 (by decide) ?_
    refine lv_iload_n hx hb dX6_holds_5 rfl (lv_at hl 1 rfl) ?_
    refine lv_imul hx hb dX6_holds_6 ?_
    obtain ⟨b2, e_b2, hj⟩ := Option.bind_eq_some_iff.mp hj
    subst e_b2
    obtain ⟨v3, g_v3, hj⟩ := Option.bind_eq_some_iff.mp hj
    refine r_aldI cx hP g_v3 dX6_holds_7 ?_
    refine lv_iload_n hx hb dX6_holds_8 rfl (lv_at hl 2 rfl) ?_
    obtain ⟨v4, g_v4, hj⟩ := Option.bind_eq_some_iff.mp hj
    refine f_I (k_S (As := [.int v3, .int a2]) (n := 2) (rest := []) cx hl.1 hP hS (c_X6_at l X g M v3 a2 v4 g_v4) mC_X6_at mM_X6_128 mT_X6_at mZ_X6 (by decide +kernel) ⟨Nat.le_of_ble_eq_true rfl, Nat.le_of_ble_eq_true rfl⟩ rfl rfl (Nat.le_of_ble_eq_true rfl) dX6_holds_9 ⟨Nat.le_of_ble_eq_true rfl, Nat.le_of_ble_eq_true rfl⟩) hS (fun H locs hP hS => ?_)
    have hP : hp X M H := hP
    refine W.eq (g2 := F0 m 12 ls [.int v4]) rfl ?_
    refine W.widen (k := 0) (n := 0) (Nat.le_of_ble_eq_true rfl) (Nat.le_of_ble_eq_true rfl) ?_
    refine lv_istore_n (lv' := [(3, .int v4), (0, .ref a0), (1, .int a1), (2, .int a2)]) hx hb dX6_holds_12 rfl hl (by decide) rfl (fun ls hl => ?_)
    refine lv_aload_n hx hb dX6_holds_13 rfl (lv_at hl 1 rfl) ?_
    obtain ⟨v5, g_v5, hj⟩ := Option.bind_eq_some_iff.mp hj
    refine r_getR cx hP g_v5 iX6 rfl (by decide) mF_X6_45 dX6_holds_14 ?_
    refine lv_iconst (v := 3) hx hb dX6_holds_17 (by decide) ?_
    refine lv_iload_n hx hb dX6_holds_18 rfl (lv_at hl 2 rfl) ?_
    refine lv_imul hx hb dX6_holds_19 ?_
    refine lv_iconst (v := 2) hx hb dX6_holds_20 (by decide) ?_
    refine lv_iadd hx hb dX6_holds_21 ?_
    obtain ⟨b6, e_b6, hj⟩ := Option.bind_eq_some_iff.mp hj
    subst e_b6
    obtain ⟨v7, g_v7, hj⟩ := Option.bind_eq_some_iff.mp hj
    refine r_aldI cx hP g_v7 dX6_holds_22 ?_
    refine lv_iload_n hx hb dX6_holds_23 rfl (lv_at hl 3 rfl) ?_
    obtain ⟨v8, g_v8, hj⟩ := Option.bind_eq_some_iff.mp hj
    refine f_I (k_S (As := [.int v7, .int a2]) (n := 2) (rest := []) cx hl.1 hP hS (c_X6_at l X g M v7 a2 v8 g_v8) mC_X6_at mM_X6_128 mT_X6_at mZ_X6 (by decide +kernel) ⟨Nat.le_of_ble_eq_true rfl, Nat.le_of_ble_eq_true rfl⟩ rfl rfl (Nat.le_of_ble_eq_true rfl) dX6_holds_24 ⟨Nat.le_of_ble_eq_true rfl, Nat.le_of_ble_eq_true rfl⟩) hS (fun H locs hP hS => ?_)
    have hP : hp X M H := hP
    refine W.eq (g2 := F0 m 27 ls [.int v8]) rfl ?_
    refine W.widen (k := 0) (n := 0) (Nat.le_of_ble_eq_true rfl) (Nat.le_of_ble_eq_true rfl) ?_
    refine lv_istore (lv' := [(4, .int v8), (3, .int v4), (0, .ref a0), (1, .int a1), (2, .int a2)]) hx hb dX6_holds_27 hl (by decide) rfl (fun ls hl => ?_)
    refine lv_aload_n hx hb dX6_holds_29 rfl (lv_at hl 2 rfl) ?_
    obtain ⟨v9, g_v9, hj⟩ := Option.bind_eq_some_iff.mp hj
    refine r_getR cx hP g_v9 iX6 rfl (by decide) mF_X6_45 dX6_holds_30 ?_
    refine lv_iconst (v := 3) hx hb dX6_holds_33 (by decide) ?_
    refine lv_iload_n hx hb dX6_holds_34 rfl (lv_at hl 3 rfl) ?_
    refine lv_imul hx hb dX6_holds_35 ?_
    refine lv_iconst (v := 1) hx hb dX6_holds_36 (by decide) ?_
    refine lv_iadd hx hb dX6_holds_37 ?_
    obtain ⟨b10, e_b10, hj⟩ := Option.bind_eq_some_iff.mp hj
    subst e_b10
    obtain ⟨v11, g_v11, hj⟩ := Option.bind_eq_some_iff.mp hj
    refine r_aldI cx hP g_v11 dX6_holds_38 ?_
    refine lv_aload_n hx hb dX6_holds_39 rfl (lv_at hl 2 rfl) ?_
    obtain ⟨v12, g_v12, hj⟩ := Option.bind_eq_some_iff.mp hj
    refine r_getR cx hP g_v12 iX6 rfl (by decide) mF_X6_26 dX6_holds_40 ?_
    refine lv_iload_n hx hb dX6_holds_43 rfl (lv_at hl 1 rfl) ?_
    obtain ⟨b13, e_b13, hj⟩ := Option.bind_eq_some_iff.mp hj
    subst e_b13
    obtain ⟨v14, g_v14, hj⟩ := Option.bind_eq_some_iff.mp hj
    refine r_aldD cx hP g_v14 dX6_holds_44 ?_
    refine lv_aload_n hx hb dX6_holds_45 rfl (lv_at hl 2 rfl) ?_
    obtain ⟨v15, g_v15, hj⟩ := Option.bind_eq_some_iff.mp hj
    refine r_getR cx hP g_v15 iX6 rfl (by decide) mF_X6_29 dX6_holds_46 ?_
    refine lv_iload_n hx hb dX6_holds_49 rfl (lv_at hl 1 rfl) ?_
    obtain ⟨b16, e_b16, hj⟩ := Option.bind_eq_some_iff.mp hj
    subst e_b16
    obtain ⟨v17, g_v17, hj⟩ := Option.bind_eq_some_iff.mp hj
    refine r_aldZ cx hP g_v17 dX6_holds_50 ?_
    refine lv_aload_n hx hb dX6_holds_51 rfl (lv_at hl 2 rfl) ?_
    obtain ⟨v18, g_v18, hj⟩ := Option.bind_eq_some_iff.mp hj
    refine r_getR cx hP g_v18 iX6 rfl (by decide) mF_X6_26 dX6_holds_52 ?_
    refine lv_iload hx hb dX6_holds_55 (lv_at hl 0 rfl) ?_
    obtain ⟨b19, e_b19, hj⟩ := Option.bind_eq_some_iff.mp hj
    subst e_b19
    obtain ⟨v20, g_v20, hj⟩ := Option.bind_eq_some_iff.mp hj
    refine r_aldD cx hP g_v20 dX6_holds_57 ?_
    refine lv_aload_n hx hb dX6_holds_58 rfl (lv_at hl 2 rfl) ?_
    obtain ⟨v21, g_v21, hj⟩ := Option.bind_eq_some_iff.mp hj
    refine r_getR cx hP g_v21 iX6 rfl (by decide) mF_X6_29 dX6_holds_59 ?_
    refine lv_iload hx hb dX6_holds_62 (lv_at hl 0 rfl) ?_
    obtain ⟨b22, e_b22, hj⟩ := Option.bind_eq_some_iff.mp hj
    subst e_b22
    obtain ⟨v23, g_v23, hj⟩ := Option.bind_eq_some_iff.mp hj
    refine r_aldZ cx hP g_v23 dX6_holds_64 ?_
    obtain ⟨v24, g_v24, hj⟩ := Option.bind_eq_some_iff.mp hj
    refine f_I (k_S (As := [.int v11, .double v14, .int v17, .double v20, .int v23]) (n := 5) (rest := []) cx hl.1 hP hS (c_X6_isSo l X g M v11 v14 v17 v20 v23 v24 g_v24) mC_X6_isSo mM_X6_150 mT_X6_isSo mZ_X6 (by decide +kernel) ⟨Nat.le_of_ble_eq_true rfl, Nat.le_of_ble_eq_true rfl⟩ rfl rfl (Nat.le_of_ble_eq_true rfl) dX6_holds_65 ⟨Nat.le_of_ble_eq_true rfl, Nat.le_of_ble_eq_true rfl⟩) hS (fun H locs hP hS => ?_)
    have hP : hp X M H := hP
    refine W.eq (g2 := F0 m 68 ls [.int v24]) rfl ?_
    refine W.widen (k := 0) (n := 0) (Nat.le_of_ble_eq_true rfl) (Nat.le_of_ble_eq_true rfl) ?_
    obtain ⟨z25, g_z25, hj⟩ := Option.bind_eq_some_iff.mp hj
    exact t_Z cx hr hlocks hP hS (zb_eq g_z25).1 (congrArg (Prod.mk M) (Option.some.inj hj)) (Nat.le_of_ble_eq_true rfl) (Nat.le_of_ble_eq_true rfl) dX6_holds_68
  exact hgo _ _ hP hS
set_option maxHeartbeats 4000000 in
set_option maxRecDepth 100000 in
theorem c_X6_init (l : Launch) (X : hX) (g : Nat) (M : hm) (a0 : Nat) (RR : hm) (hj : j_X6_init g M a0 = some RR) : Ct l X yX6_init cX6_init 2 none { frames := 1, cells := 14, slots := 236440, locals := 12 } [.ref a0] M (qV X RR) := by
  refine h_enter (own := RX6) (by decide) rfl (Nat.le_of_ble_eq_true rfl) ?_
  intro p e s m below meth c ls cx hr hlocks hnm hP hS hl
  have hx := cx.1
  have hb := cx.2.1
  have hl : lv_has ls 2 [(0, .ref a0)] := hl
  unfold j_X6_init at hj
  have hgo : ∀ (H : Heap) (locs : List Loc), hp X M H → va_S (hA X) s.heap H locs → W p l e ({ frames := 1, cells := 14, slots := 236440, locals := 12 } : Room) s m _ below meth c H locs 0 0 (MQ below (qV X RR) _ s 14 236440 (hA X)) (F0 m 0 ls []) := by
    have J_167 : ∀ (M : hm) (H : Heap) (locs : List Loc) (ls : Array Slot), j_X6_init_167 g M = some RR → hp X M H → va_S (hA X) s.heap H locs → lv_has ls 2 [] → W p l e ({ frames := 1, cells := 14, slots := 236440, locals := 12 } : Room) s m _ below meth c H locs 14 236440 (MQ below (qV X RR) _ s 14 236440 (hA X)) (F0 m 167 ls []) := by
      intro M H locs ls hj hP hS hl
      unfold j_X6_init_167 at hj
      exact t_V cx hr hlocks hP hS (Option.some.inj hj) (Nat.le_of_ble_eq_true rfl) (Nat.le_of_ble_eq_true rfl) dX6_init_167
    have L_146 : ∀ (n146 : Nat) (M : hm) (p0 : Nat) (p1 : Int32) (H : Heap) (locs : List Loc) (ls : Array Slot), j_X6_init_146 g n146 M p0 p1 = some RR → hp X M H → va_S (hA X) s.heap H locs → lv_has ls 2 [(0, .ref p0), (1, .int p1)] → W p l e ({ frames := 1, cells := 14, slots := 236440, locals := 12 } : Room) s m _ below meth c H locs 14 236440 (MQ below (qV X RR) _ s 14 236440 (hA X)) (F0 m 146 ls []) := by
      intro n146
      induction n146 with
      | zero =>
        intro M p0 p1 H locs ls hj
        exact no_zero hj
      | succ n146 ih_146 =>
        intro M p0 p1 H locs ls hj hP hS hl
        rw [j_X6_init_146_s] at hj
        refine lv_iload_n hx hb dX6_init_146 rfl (lv_at hl 1 rfl) ?_
        refine lv_bipush (v := 12) hx hb dX6_init_147 (by decide) ?_
        refine lv_icmp_ge (tgt := 167) hx hb dX6_init_149 (by decide) (fun c1 => ?_) (fun c1 => ?_)
        · have hj := if_t c1 hj
          exact J_167 M H locs ls hj hP hS (lv_sub hl [] rfl)
        · have hj := if_f c1 hj
          refine lv_aload_n hx hb dX6_init_152 rfl (lv_at hl 0 rfl) ?_
          obtain ⟨v2, g_v2, hj⟩ := Option.bind_eq_some_iff.mp hj
          refine r_getR cx hP g_v2 iX6 rfl (by decide) mF_X6_22 dX6_init_153 ?_
          refine lv_iconst (v := 4) hx hb dX6_init_156 (by decide) ?_
          refine lv_iload_n hx hb dX6_init_157 rfl (lv_at hl 1 rfl) ?_
          refine lv_imul hx hb dX6_init_158 ?_
          refine lv_iconst (v := -1) hx hb dX6_init_159 (by decide) ?_
          obtain ⟨b3, e_b3, hj⟩ := Option.bind_eq_some_iff.mp hj
          subst e_b3
          obtain ⟨M4, g_M4, hj⟩ := Option.bind_eq_some_iff.mp hj
          refine r_astI cx hP hS g_M4 dX6_init_160 (fun H locs hP hS => ?_)
          refine lv_iinc (v := (p1 + (1 : Int32))) (lv' := [(1, .int (p1 + (1 : Int32))), (0, .ref p0)]) hx hb dX6_init_161 hl (k := 1) rfl rfl (by decide) rfl (fun ls hl => ?_)
          refine lv_goto (tgt := 146) hx hb dX6_init_164 (by decide) ?_
          exact ih_146 M4 p0 (p1 + (1 : Int32)) H locs ls hj hP hS (lv_sub hl [1, 0] rfl)
    have J_144 : ∀ (M : hm) (p0 : Nat) (H : Heap) (locs : List Loc) (ls : Array Slot), j_X6_init_144 g M p0 = some RR → hp X M H → va_S (hA X) s.heap H locs → lv_has ls 2 [(0, .ref p0)] → W p l e ({ frames := 1, cells := 14, slots := 236440, locals := 12 } : Room) s m _ below meth c H locs 14 236440 (MQ below (qV X RR) _ s 14 236440 (hA X)) (F0 m 144 ls []) := by
      intro M p0 H locs ls hj hP hS hl
      unfold j_X6_init_144 at hj
      refine lv_iconst (v := 0) hx hb dX6_init_144 (by decide) ?_
      refine lv_istore_n (lv' := [(1, .int (0 : Int32)), (0, .ref p0)]) hx hb dX6_init_145 rfl hl (by decide) rfl (fun ls hl => ?_)
      exact L_146 g M p0 (0 : Int32) H locs ls hj hP hS (lv_sub hl [1, 0] rfl)
    have L_124 : ∀ (n124 : Nat) (M : hm) (p0 : Nat) (p1 : Int32) (H : Heap) (locs : List Loc) (ls : Array Slot), j_X6_init_124 g n124 M p0 p1 = some RR → hp X M H → va_S (hA X) s.heap H locs → lv_has ls 2 [(0, .ref p0), (1, .int p1)] → W p l e ({ frames := 1, cells := 14, slots := 236440, locals := 12 } : Room) s m _ below meth c H locs 14 236440 (MQ below (qV X RR) _ s 14 236440 (hA X)) (F0 m 124 ls []) := by
      intro n124
      induction n124 with
      | zero =>
        intro M p0 p1 H locs ls hj
        exact no_zero hj
      | succ n124 ih_124 =>
        intro M p0 p1 H locs ls hj hP hS hl
        rw [j_X6_init_124_s] at hj
        refine lv_iload_n hx hb dX6_init_124 rfl (lv_at hl 1 rfl) ?_
        refine lv_sipush (v := 200) hx hb dX6_init_125 (by decide) ?_
        refine lv_icmp_ge (tgt := 144) hx hb dX6_init_128 (by decide) (fun c5 => ?_) (fun c5 => ?_)
        · have hj := if_t c5 hj
          exact J_144 M p0 H locs ls hj hP hS (lv_sub hl [0] rfl)
        · have hj := if_f c5 hj
          refine lv_aload_n hx hb dX6_init_131 rfl (lv_at hl 0 rfl) ?_
          obtain ⟨v6, g_v6, hj⟩ := Option.bind_eq_some_iff.mp hj
          refine r_getR cx hP g_v6 iX6 rfl (by decide) mF_X6_15 dX6_init_132 ?_
          refine lv_iload_n hx hb dX6_init_135 rfl (lv_at hl 1 rfl) ?_
          refine lv_iconst (v := 1) hx hb dX6_init_136 (by decide) ?_
          obtain ⟨b7, e_b7, hj⟩ := Option.bind_eq_some_iff.mp hj
          subst e_b7
          obtain ⟨M8, g_M8, hj⟩ := Option.bind_eq_some_iff.mp hj
          refine r_astZ cx hP hS g_M8 dX6_init_137 (fun H locs hP hS => ?_)
          refine lv_iinc (v := (p1 + (1 : Int32))) (lv' := [(1, .int (p1 + (1 : Int32))), (0, .ref p0)]) hx hb dX6_init_138 hl (k := 1) rfl rfl (by decide) rfl (fun ls hl => ?_)
          refine lv_goto (tgt := 124) hx hb dX6_init_141 (by decide) ?_
          exact ih_124 M8 p0 (p1 + (1 : Int32)) H locs ls hj hP hS (lv_sub hl [1, 0] rfl)
    intro H locs hP hS
    refine lv_aload_n hx hb dX6_init_0 rfl (lv_at hl 0 rfl) ?_
    refine W.objInit hx hb cx.2.2.2.1 (cx.2.2.2.2.1 _ mM_X6_3) (cx.2.2.2.2.1 _ mI_obj) (cx.2.2.2.2.1 _ mC_obj) rfl (by rw [cx.2.2.1]; exact hl.1) rfl dX6_init_1 (Nat.le_of_ble_eq_true rfl) (Nat.le_of_ble_eq_true rfl) ?_
    refine W.eq (g2 := F0 m 4 ls []) rfl ?_
    refine lv_aload_n hx hb dX6_init_4 rfl (lv_at hl 0 rfl) ?_
    refine lv_sipush (v := 200) hx hb dX6_init_5 (by decide) ?_
    obtain ⟨⟨Mq9, aq9⟩, g_q9, hj⟩ := Option.bind_eq_some_iff.mp hj
    refine r_newA (N := 200) (a0 := (200, .inr (.inr (.inr (.inl (fun _ => 0)))))) cx hP hS g_q9 rfl mA_double rfl (fun _ h => h) (fun _ => rfl) (by decide) (by decide) (by decide) (Nat.le_of_ble_eq_true rfl) (Nat.le_of_ble_eq_true rfl) dX6_init_8 (fun H hP hS => ?_)
    have hP : hp X Mq9 H := hP
    obtain ⟨M10, g_M10, hj⟩ := Option.bind_eq_some_iff.mp hj
    refine r_putF cx hP hS g_M10 iX6 tyX6 tyX6_ok nmX6 rfl (by decide) mF_X6_9 rfl hnm rfl rfl rfl dX6_init_10 (fun H locs hP hS => ?_)
    refine lv_aload_n hx hb dX6_init_13 rfl (lv_at hl 0 rfl) ?_
    refine lv_sipush (v := 200) hx hb dX6_init_14 (by decide) ?_
    obtain ⟨⟨Mq11, aq11⟩, g_q11, hj⟩ := Option.bind_eq_some_iff.mp hj
    refine r_newA (N := 200) (a0 := (200, .inl (fun _ => 0))) cx hP hS g_q11 rfl mA_boolean rfl (fun _ h => h) (fun _ => rfl) (by decide) (by decide) (by decide) (Nat.le_of_ble_eq_true rfl) (Nat.le_of_ble_eq_true rfl) dX6_init_17 (fun H hP hS => ?_)
    have hP : hp X Mq11 H := hP
    obtain ⟨M12, g_M12, hj⟩ := Option.bind_eq_some_iff.mp hj
    refine r_putF cx hP hS g_M12 iX6 tyX6 tyX6_ok nmX6 rfl (by decide) mF_X6_15 rfl hnm rfl rfl rfl dX6_init_19 (fun H locs hP hS => ?_)
    refine lv_aload_n hx hb dX6_init_22 rfl (lv_at hl 0 rfl) ?_
    refine lv_bipush (v := 12) hx hb dX6_init_23 (by decide) ?_
    obtain ⟨⟨Mq13, aq13⟩, g_q13, hj⟩ := Option.bind_eq_some_iff.mp hj
    refine r_newA (N := 12) (a0 := (12, .inl (fun _ => 0))) cx hP hS g_q13 rfl mA_boolean rfl (fun _ h => h) (fun _ => rfl) (by decide) (by decide) (by decide) (Nat.le_of_ble_eq_true rfl) (Nat.le_of_ble_eq_true rfl) dX6_init_25 (fun H hP hS => ?_)
    have hP : hp X Mq13 H := hP
    obtain ⟨M14, g_M14, hj⟩ := Option.bind_eq_some_iff.mp hj
    refine r_putF cx hP hS g_M14 iX6 tyX6 tyX6_ok nmX6 rfl (by decide) mF_X6_19 rfl hnm rfl rfl rfl dX6_init_27 (fun H locs hP hS => ?_)
    refine lv_aload_n hx hb dX6_init_30 rfl (lv_at hl 0 rfl) ?_
    refine lv_bipush (v := 48) hx hb dX6_init_31 (by decide) ?_
    obtain ⟨⟨Mq15, aq15⟩, g_q15, hj⟩ := Option.bind_eq_some_iff.mp hj
    refine r_newA (N := 48) (a0 := (48, .inl (fun _ => 0))) cx hP hS g_q15 rfl mA_int rfl (fun _ h => h) (fun _ => rfl) (by decide) (by decide) (by decide) (Nat.le_of_ble_eq_true rfl) (Nat.le_of_ble_eq_true rfl) dX6_init_33 (fun H hP hS => ?_)
    have hP : hp X Mq15 H := hP
    obtain ⟨M16, g_M16, hj⟩ := Option.bind_eq_some_iff.mp hj
    refine r_putF cx hP hS g_M16 iX6 tyX6 tyX6_ok nmX6 rfl (by decide) mF_X6_22 rfl hnm rfl rfl rfl dX6_init_35 (fun H locs hP hS => ?_)
    refine lv_aload_n hx hb dX6_init_38 rfl (lv_at hl 0 rfl) ?_
    refine lv_sipush (v := 200) hx hb dX6_init_39 (by decide) ?_
    obtain ⟨⟨Mq17, aq17⟩, g_q17, hj⟩ := Option.bind_eq_some_iff.mp hj
    refine r_newA (N := 200) (a0 := (200, .inr (.inr (.inr (.inl (fun _ => 0)))))) cx hP hS g_q17 rfl mA_double rfl (fun _ h => h) (fun _ => rfl) (by decide) (by decide) (by decide) (Nat.le_of_ble_eq_true rfl) (Nat.le_of_ble_eq_true rfl) dX6_init_42 (fun H hP hS => ?_)
    have hP : hp X Mq17 H := hP
    obtain ⟨M18, g_M18, hj⟩ := Option.bind_eq_some_iff.mp hj
    refine r_putF cx hP hS g_M18 iX6 tyX6 tyX6_ok nmX6 rfl (by decide) mF_X6_26 rfl hnm rfl rfl rfl dX6_init_44 (fun H locs hP hS => ?_)
    refine lv_aload_n hx hb dX6_init_47 rfl (lv_at hl 0 rfl) ?_
    refine lv_sipush (v := 200) hx hb dX6_init_48 (by decide) ?_
    obtain ⟨⟨Mq19, aq19⟩, g_q19, hj⟩ := Option.bind_eq_some_iff.mp hj
    refine r_newA (N := 200) (a0 := (200, .inl (fun _ => 0))) cx hP hS g_q19 rfl mA_boolean rfl (fun _ h => h) (fun _ => rfl) (by decide) (by decide) (by decide) (Nat.le_of_ble_eq_true rfl) (Nat.le_of_ble_eq_true rfl) dX6_init_51 (fun H hP hS => ?_)
    have hP : hp X Mq19 H := hP
    obtain ⟨M20, g_M20, hj⟩ := Option.bind_eq_some_iff.mp hj
    refine r_putF cx hP hS g_M20 iX6 tyX6 tyX6_ok nmX6 rfl (by decide) mF_X6_29 rfl hnm rfl rfl rfl dX6_init_53 (fun H locs hP hS => ?_)
    refine lv_aload_n hx hb dX6_init_56 rfl (lv_at hl 0 rfl) ?_
    refine lv_ldc hx hb cx.2.2.2.1 (cx.2.2.2.2.1 _ mK_X6_32) dX6_init_57 ?_
    obtain ⟨⟨Mq21, aq21⟩, g_q21, hj⟩ := Option.bind_eq_some_iff.mp hj
    refine r_newA (N := 102400) (a0 := (102400, .inr (.inr (.inr (.inl (fun _ => 0)))))) cx hP hS g_q21 rfl mA_double rfl (fun _ h => h) (fun _ => rfl) (by decide) (by decide) (by decide) (Nat.le_of_ble_eq_true rfl) (Nat.le_of_ble_eq_true rfl) dX6_init_59 (fun H hP hS => ?_)
    have hP : hp X Mq21 H := hP
    obtain ⟨M22, g_M22, hj⟩ := Option.bind_eq_some_iff.mp hj
    refine r_putF cx hP hS g_M22 iX6 tyX6 tyX6_ok nmX6 rfl (by decide) mF_X6_33 rfl hnm rfl rfl rfl dX6_init_61 (fun H locs hP hS => ?_)
    refine lv_aload_n hx hb dX6_init_64 rfl (lv_at hl 0 rfl) ?_
    refine lv_ldc hx hb cx.2.2.2.1 (cx.2.2.2.2.1 _ mK_X6_32) dX6_init_65 ?_
    obtain ⟨⟨Mq23, aq23⟩, g_q23, hj⟩ := Option.bind_eq_some_iff.mp hj
    refine r_newA (N := 102400) (a0 := (102400, .inl (fun _ => 0))) cx hP hS g_q23 rfl mA_boolean rfl (fun _ h => h) (fun _ => rfl) (by decide) (by decide) (by decide) (Nat.le_of_ble_eq_true rfl) (Nat.le_of_ble_eq_true rfl) dX6_init_67 (fun H hP hS => ?_)
    have hP : hp X Mq23 H := hP
    obtain ⟨M24, g_M24, hj⟩ := Option.bind_eq_some_iff.mp hj
    refine r_putF cx hP hS g_M24 iX6 tyX6 tyX6_ok nmX6 rfl (by decide) mF_X6_36 rfl hnm rfl rfl rfl dX6_init_69 (fun H locs hP hS => ?_)
    refine lv_aload_n hx hb dX6_init_72 rfl (lv_at hl 0 rfl) ?_
    refine lv_sipush (v := 6144) hx hb dX6_init_73 (by decide) ?_
    obtain ⟨⟨Mq25, aq25⟩, g_q25, hj⟩ := Option.bind_eq_some_iff.mp hj
    refine r_newA (N := 6144) (a0 := (6144, .inl (fun _ => 0))) cx hP hS g_q25 rfl mA_boolean rfl (fun _ h => h) (fun _ => rfl) (by decide) (by decide) (by decide) (Nat.le_of_ble_eq_true rfl) (Nat.le_of_ble_eq_true rfl) dX6_init_76 (fun H hP hS => ?_)
    have hP : hp X Mq25 H := hP
    obtain ⟨M26, g_M26, hj⟩ := Option.bind_eq_some_iff.mp hj
    refine r_putF cx hP hS g_M26 iX6 tyX6 tyX6_ok nmX6 rfl (by decide) mF_X6_39 rfl hnm rfl rfl rfl dX6_init_78 (fun H locs hP hS => ?_)
    refine lv_aload_n hx hb dX6_init_81 rfl (lv_at hl 0 rfl) ?_
    refine lv_sipush (v := 24576) hx hb dX6_init_82 (by decide) ?_
    obtain ⟨⟨Mq27, aq27⟩, g_q27, hj⟩ := Option.bind_eq_some_iff.mp hj
    refine r_newA (N := 24576) (a0 := (24576, .inl (fun _ => 0))) cx hP hS g_q27 rfl mA_int rfl (fun _ h => h) (fun _ => rfl) (by decide) (by decide) (by decide) (Nat.le_of_ble_eq_true rfl) (Nat.le_of_ble_eq_true rfl) dX6_init_85 (fun H hP hS => ?_)
    have hP : hp X Mq27 H := hP
    obtain ⟨M28, g_M28, hj⟩ := Option.bind_eq_some_iff.mp hj
    refine r_putF cx hP hS g_M28 iX6 tyX6 tyX6_ok nmX6 rfl (by decide) mF_X6_42 rfl hnm rfl rfl rfl dX6_init_87 (fun H locs hP hS => ?_)
    refine lv_aload_n hx hb dX6_init_90 rfl (lv_at hl 0 rfl) ?_
    refine lv_bipush (v := 30) hx hb dX6_init_91 (by decide) ?_
    obtain ⟨⟨Mq29, aq29⟩, g_q29, hj⟩ := Option.bind_eq_some_iff.mp hj
    refine r_newA (N := 30) (a0 := (30, .inl (fun _ => 0))) cx hP hS g_q29 rfl mA_int rfl (fun _ h => h) (fun _ => rfl) (by decide) (by decide) (by decide) (Nat.le_of_ble_eq_true rfl) (Nat.le_of_ble_eq_true rfl) dX6_init_93 (fun H hP hS => ?_)
    have hP : hp X Mq29 H := hP
    obtain ⟨M30, g_M30, hj⟩ := Option.bind_eq_some_iff.mp hj
    refine r_putF cx hP hS g_M30 iX6 tyX6 tyX6_ok nmX6 rfl (by decide) mF_X6_45 rfl hnm rfl rfl rfl dX6_init_95 (fun H locs hP hS => ?_)
    refine lv_aload_n hx hb dX6_init_98 rfl (lv_at hl 0 rfl) ?_
    refine lv_bipush (v := 10) hx hb dX6_init_99 (by decide) ?_
    obtain ⟨⟨Mq31, aq31⟩, g_q31, hj⟩ := Option.bind_eq_some_iff.mp hj
    refine r_newA (N := 10) (a0 := (10, .inl (fun _ => 0))) cx hP hS g_q31 rfl mA_int rfl (fun _ h => h) (fun _ => rfl) (by decide) (by decide) (by decide) (Nat.le_of_ble_eq_true rfl) (Nat.le_of_ble_eq_true rfl) dX6_init_101 (fun H hP hS => ?_)
    have hP : hp X Mq31 H := hP
    obtain ⟨M32, g_M32, hj⟩ := Option.bind_eq_some_iff.mp hj
    refine r_putF cx hP hS g_M32 iX6 tyX6 tyX6_ok nmX6 rfl (by decide) mF_X6_48 rfl hnm rfl rfl rfl dX6_init_103 (fun H locs hP hS => ?_)
    refine lv_aload_n hx hb dX6_init_106 rfl (lv_at hl 0 rfl) ?_
    refine lv_bipush (v := 10) hx hb dX6_init_107 (by decide) ?_
    obtain ⟨⟨Mq33, aq33⟩, g_q33, hj⟩ := Option.bind_eq_some_iff.mp hj
    refine r_newA (N := 10) (a0 := (10, .inl (fun _ => 0))) cx hP hS g_q33 rfl mA_int rfl (fun _ h => h) (fun _ => rfl) (by decide) (by decide) (by decide) (Nat.le_of_ble_eq_true rfl) (Nat.le_of_ble_eq_true rfl) dX6_init_109 (fun H hP hS => ?_)
    have hP : hp X Mq33 H := hP
    obtain ⟨M34, g_M34, hj⟩ := Option.bind_eq_some_iff.mp hj
    refine r_putF cx hP hS g_M34 iX6 tyX6 tyX6_ok nmX6 rfl (by decide) mF_X6_51 rfl hnm rfl rfl rfl dX6_init_111 (fun H locs hP hS => ?_)
    refine lv_aload_n hx hb dX6_init_114 rfl (lv_at hl 0 rfl) ?_
    refine lv_bipush (v := 10) hx hb dX6_init_115 (by decide) ?_
    obtain ⟨⟨Mq35, aq35⟩, g_q35, hj⟩ := Option.bind_eq_some_iff.mp hj
    refine r_newA (N := 10) (a0 := (10, .inl (fun _ => 0))) cx hP hS g_q35 rfl mA_boolean rfl (fun _ h => h) (fun _ => rfl) (by decide) (by decide) (by decide) (Nat.le_of_ble_eq_true rfl) (Nat.le_of_ble_eq_true rfl) dX6_init_117 (fun H hP hS => ?_)
    have hP : hp X Mq35 H := hP
    obtain ⟨M36, g_M36, hj⟩ := Option.bind_eq_some_iff.mp hj
    refine r_putF cx hP hS g_M36 iX6 tyX6 tyX6_ok nmX6 rfl (by decide) mF_X6_54 rfl hnm rfl rfl rfl dX6_init_119 (fun H locs hP hS => ?_)
    refine lv_iconst (v := 0) hx hb dX6_init_122 (by decide) ?_
    refine lv_istore_n (lv' := [(1, .int (0 : Int32)), (0, .ref a0)]) hx hb dX6_init_123 rfl hl (by decide) rfl (fun ls hl => ?_)
    exact L_124 g M36 a0 (0 : Int32) H locs ls hj hP hS (lv_sub hl [1, 0] rfl)
  exact hgo _ _ hP hS
set_option maxHeartbeats 4000000 in
set_option maxRecDepth 100000 in
theorem c_X6_input (l : Launch) (X : hX) (g : Nat) (M : hm) (a0 : Nat) (a1 : Int32) (RR : hm × Int32) (hj : j_X6_input g M a0 a1 = some RR) : Ct l X yX6_input cX6_input 3 (some .int) { frames := 7, cells := 0, slots := 0, locals := 168 } [.ref a0, .int a1] M (qI X RR) := by
  refine h_enter (own := RX6) (by decide) rfl (Nat.le_of_ble_eq_true rfl) ?_
  intro p e s m below meth c ls cx hr hlocks hnm hP hS hl
  have hx := cx.1
  have hb := cx.2.1
  have hl : lv_has ls 3 [(0, .ref a0), (1, .int a1)] := hl
  unfold j_X6_input at hj
  have hgo : ∀ (H : Heap) (locs : List Loc), hp X M H → va_S (hA X) s.heap H locs → W p l e ({ frames := 7, cells := 0, slots := 0, locals := 168 } : Room) s m _ below meth c H locs 0 0 (MQ below (qI X RR) _ s 0 0 (hA X)) (F0 m 0 ls []) := by
    have J_77 : ∀ (M : hm) (p0 : Nat) (p1 : Int32) (H : Heap) (locs : List Loc) (ls : Array Slot), j_X6_input_77 g M p0 p1 = some RR → hp X M H → va_S (hA X) s.heap H locs → lv_has ls 3 [(0, .ref p0), (1, .int p1)] → W p l e ({ frames := 7, cells := 0, slots := 0, locals := 168 } : Room) s m _ below meth c H locs 0 0 (MQ below (qI X RR) _ s 0 0 (hA X)) (F0 m 77 ls []) := by
      intro M p0 p1 H locs ls hj hP hS hl
      unfold j_X6_input_77 at hj
      refine lv_aload_n hx hb dX6_input_77 rfl (lv_at hl 0 rfl) ?_
      obtain ⟨v1, g_v1, hj⟩ := Option.bind_eq_some_iff.mp hj
      refine r_getR cx hP g_v1 iX6 rfl (by decide) mF_X6_22 dX6_input_78 ?_
      refine lv_iconst (v := 4) hx hb dX6_input_81 (by decide) ?_
      refine lv_iload_n hx hb dX6_input_82 rfl (lv_at hl 1 rfl) ?_
      refine lv_imul hx hb dX6_input_83 ?_
      refine lv_iconst (v := -1) hx hb dX6_input_84 (by decide) ?_
      obtain ⟨b2, e_b2, hj⟩ := Option.bind_eq_some_iff.mp hj
      subst e_b2
      obtain ⟨M3, g_M3, hj⟩ := Option.bind_eq_some_iff.mp hj
      refine r_astI cx hP hS g_M3 dX6_input_85 (fun H locs hP hS => ?_)
      refine lv_aload_n hx hb dX6_input_86 rfl (lv_at hl 0 rfl) ?_
      obtain ⟨_, o4, hj⟩ := Option.bind_eq_some_iff.mp hj
      obtain ⟨⟨Mq5, vq5⟩, g_q5, hj⟩ := Option.bind_eq_some_iff.mp hj
      refine f_I (k_V (b := p0) (As := []) (n := 0) (rest := []) cx hl.1 hP hS (c_X6_changed l X g M3 p0 (Mq5, vq5) g_q5) o4 rfl mC_X6_changed mM_X6_218 mI_X6_changed mS_X6_changed mZ_X6 (by decide +kernel) ⟨Nat.le_of_ble_eq_true rfl, Nat.le_of_ble_eq_true rfl⟩ rfl rfl (Nat.le_of_ble_eq_true rfl) dX6_input_87 ⟨Nat.le_of_ble_eq_true rfl, Nat.le_of_ble_eq_true rfl⟩) hS (fun H locs hP hS => ?_)
      have hP : hp X Mq5 H := hP
      refine W.eq (g2 := F0 m 90 ls [.int vq5]) rfl ?_
      refine W.widen (k := 0) (n := 0) (Nat.le_of_ble_eq_true rfl) (Nat.le_of_ble_eq_true rfl) ?_
      exact t_I cx hr hlocks hP hS (Option.some.inj hj) (Nat.le_of_ble_eq_true rfl) (Nat.le_of_ble_eq_true rfl) dX6_input_90
    have L_36 : ∀ (n36 : Nat) (M : hm) (p0 : Nat) (p1 : Int32) (p2 : Int32) (H : Heap) (locs : List Loc) (ls : Array Slot), j_X6_input_36 g n36 M p0 p1 p2 = some RR → hp X M H → va_S (hA X) s.heap H locs → lv_has ls 3 [(0, .ref p0), (1, .int p1), (2, .int p2)] → W p l e ({ frames := 7, cells := 0, slots := 0, locals := 168 } : Room) s m _ below meth c H locs 0 0 (MQ below (qI X RR) _ s 0 0 (hA X)) (F0 m 36 ls []) := by
      intro n36
      induction n36 with
      | zero =>
        intro M p0 p1 p2 H locs ls hj
        exact no_zero hj
      | succ n36 ih_36 =>
        intro M p0 p1 p2 H locs ls hj hP hS hl
        rw [j_X6_input_36_s] at hj
        refine lv_iload_n hx hb dX6_input_36 rfl (lv_at hl 2 rfl) ?_
        refine lv_bipush (v := 16) hx hb dX6_input_37 (by decide) ?_
        refine lv_iload_n hx hb dX6_input_39 rfl (lv_at hl 1 rfl) ?_
        refine lv_imul hx hb dX6_input_40 ?_
        refine lv_bipush (v := 16) hx hb dX6_input_41 (by decide) ?_
        refine lv_iadd hx hb dX6_input_43 ?_
        refine lv_icmp_ge (tgt := 77) hx hb dX6_input_44 (by decide) (fun c6 => ?_) (fun c6 => ?_)
        · have hj := if_t c6 hj
          exact J_77 M p0 p1 H locs ls hj hP hS (lv_sub hl [0, 1] rfl)
        · have hj := if_f c6 hj
          refine lv_aload_n hx hb dX6_input_47 rfl (lv_at hl 0 rfl) ?_
          obtain ⟨v7, g_v7, hj⟩ := Option.bind_eq_some_iff.mp hj
          refine r_getR cx hP g_v7 iX6 rfl (by decide) mF_X6_9 dX6_input_48 ?_
          refine lv_iload_n hx hb dX6_input_51 rfl (lv_at hl 2 rfl) ?_
          refine lv_aload_n hx hb dX6_input_52 rfl (lv_at hl 0 rfl) ?_
          obtain ⟨v8, g_v8, hj⟩ := Option.bind_eq_some_iff.mp hj
          refine r_getR cx hP g_v8 iX6 rfl (by decide) mF_X6_26 dX6_input_53 ?_
          refine lv_iload_n hx hb dX6_input_56 rfl (lv_at hl 2 rfl) ?_
          obtain ⟨b9, e_b9, hj⟩ := Option.bind_eq_some_iff.mp hj
          subst e_b9
          obtain ⟨v10, g_v10, hj⟩ := Option.bind_eq_some_iff.mp hj
          refine r_aldD cx hP g_v10 dX6_input_57 ?_
          obtain ⟨b11, e_b11, hj⟩ := Option.bind_eq_some_iff.mp hj
          subst e_b11
          obtain ⟨M12, g_M12, hj⟩ := Option.bind_eq_some_iff.mp hj
          refine r_astD cx hP hS g_M12 dX6_input_58 (fun H locs hP hS => ?_)
          refine lv_aload_n hx hb dX6_input_59 rfl (lv_at hl 0 rfl) ?_
          obtain ⟨v13, g_v13, hj⟩ := Option.bind_eq_some_iff.mp hj
          refine r_getR cx hP g_v13 iX6 rfl (by decide) mF_X6_15 dX6_input_60 ?_
          refine lv_iload_n hx hb dX6_input_63 rfl (lv_at hl 2 rfl) ?_
          refine lv_aload_n hx hb dX6_input_64 rfl (lv_at hl 0 rfl) ?_
          obtain ⟨v14, g_v14, hj⟩ := Option.bind_eq_some_iff.mp hj
          refine r_getR cx hP g_v14 iX6 rfl (by decide) mF_X6_29 dX6_input_65 ?_
          refine lv_iload_n hx hb dX6_input_68 rfl (lv_at hl 2 rfl) ?_
          obtain ⟨b15, e_b15, hj⟩ := Option.bind_eq_some_iff.mp hj
          subst e_b15
          obtain ⟨v16, g_v16, hj⟩ := Option.bind_eq_some_iff.mp hj
          refine r_aldZ cx hP g_v16 dX6_input_69 ?_
          obtain ⟨b17, e_b17, hj⟩ := Option.bind_eq_some_iff.mp hj
          subst e_b17
          obtain ⟨M18, g_M18, hj⟩ := Option.bind_eq_some_iff.mp hj
          refine r_astZ cx hP hS g_M18 dX6_input_70 (fun H locs hP hS => ?_)
          refine lv_iinc (v := (p2 + (1 : Int32))) (lv' := [(2, .int (p2 + (1 : Int32))), (0, .ref p0), (1, .int p1)]) hx hb dX6_input_71 hl (k := 2) rfl rfl (by decide) rfl (fun ls hl => ?_)
          refine lv_goto (tgt := 36) hx hb dX6_input_74 (by decide) ?_
          exact ih_36 M18 p0 p1 (p2 + (1 : Int32)) H locs ls hj hP hS (lv_sub hl [1, 2, 0] rfl)
    have J_21 : ∀ (M : hm) (H : Heap) (locs : List Loc) (ls : Array Slot), j_X6_input_21 g M = some RR → hp X M H → va_S (hA X) s.heap H locs → lv_has ls 3 [] → W p l e ({ frames := 7, cells := 0, slots := 0, locals := 168 } : Room) s m _ below meth c H locs 0 0 (MQ below (qI X RR) _ s 0 0 (hA X)) (F0 m 21 ls []) := by
      intro M H locs ls hj hP hS hl
      unfold j_X6_input_21 at hj
      refine lv_iconst (v := 0) hx hb dX6_input_21 (by decide) ?_
      exact t_I cx hr hlocks hP hS (Option.some.inj hj) (Nat.le_of_ble_eq_true rfl) (Nat.le_of_ble_eq_true rfl) dX6_input_22
    intro H locs hP hS
    refine lv_iload_n hx hb dX6_input_0 rfl (lv_at hl 1 rfl) ?_
    refine lv_iconst (v := 0) hx hb dX6_input_1 (by decide) ?_
    refine lv_bipush (v := 11) hx hb dX6_input_2 (by decide) ?_
    obtain ⟨v19, g_v19, hj⟩ := Option.bind_eq_some_iff.mp hj
    refine f_I (k_S (As := [.int a1, .int (0 : Int32), .int (11 : Int32)]) (n := 3) (rest := []) cx hl.1 hP hS (c_X6_isIn l X g M a1 (0 : Int32) (11 : Int32) v19 g_v19) mC_X6_isIn mM_X6_191 mT_X6_isIn mZ_X6 (by decide +kernel) ⟨Nat.le_of_ble_eq_true rfl, Nat.le_of_ble_eq_true rfl⟩ rfl rfl (Nat.le_of_ble_eq_true rfl) dX6_input_4 ⟨Nat.le_of_ble_eq_true rfl, Nat.le_of_ble_eq_true rfl⟩) hS (fun H locs hP hS => ?_)
    have hP : hp X M H := hP
    refine W.eq (g2 := F0 m 7 ls [.int v19]) rfl ?_
    refine W.widen (k := 0) (n := 0) (Nat.le_of_ble_eq_true rfl) (Nat.le_of_ble_eq_true rfl) ?_
    refine lv_if_eq (tgt := 21) hx hb dX6_input_7 (by decide) (fun c20 => ?_) (fun c20 => ?_)
    · have hj := if_t c20 hj
      exact J_21 M H locs ls hj hP hS (lv_sub hl [] rfl)
    · have hj := if_f c20 hj
      refine lv_aload_n hx hb dX6_input_10 rfl (lv_at hl 0 rfl) ?_
      obtain ⟨v21, g_v21, hj⟩ := Option.bind_eq_some_iff.mp hj
      refine r_getR cx hP g_v21 iX6 rfl (by decide) mF_X6_22 dX6_input_11 ?_
      refine lv_iconst (v := 4) hx hb dX6_input_14 (by decide) ?_
      refine lv_iload_n hx hb dX6_input_15 rfl (lv_at hl 1 rfl) ?_
      refine lv_imul hx hb dX6_input_16 ?_
      obtain ⟨b22, e_b22, hj⟩ := Option.bind_eq_some_iff.mp hj
      subst e_b22
      obtain ⟨v23, g_v23, hj⟩ := Option.bind_eq_some_iff.mp hj
      refine r_aldI cx hP g_v23 dX6_input_17 ?_
      refine lv_if_ge (tgt := 23) hx hb dX6_input_18 (by decide) (fun c24 => ?_) (fun c24 => ?_)
      · have hj := if_t c24 hj
        refine lv_aload_n hx hb dX6_input_23 rfl (lv_at hl 0 rfl) ?_
        obtain ⟨_, o25, hj⟩ := Option.bind_eq_some_iff.mp hj
        obtain ⟨M26, g_M26, hj⟩ := Option.bind_eq_some_iff.mp hj
        refine f_V (k_V (b := a0) (As := []) (n := 0) (rest := []) cx hl.1 hP hS (c_X6_picture l X g M a0 M26 g_M26) o25 rfl mC_X6_picture mM_X6_212 mI_X6_picture mS_X6_picture mZ_X6 (by decide +kernel) ⟨Nat.le_of_ble_eq_true rfl, Nat.le_of_ble_eq_true rfl⟩ rfl rfl (Nat.le_of_ble_eq_true rfl) dX6_input_24 ⟨Nat.le_of_ble_eq_true rfl, Nat.le_of_ble_eq_true rfl⟩) hS (fun H locs hP hS => ?_)
        have hP : hp X M26 H := hP
        refine W.eq (g2 := F0 m 27 ls []) rfl ?_
        refine W.widen (k := 0) (n := 0) (Nat.le_of_ble_eq_true rfl) (Nat.le_of_ble_eq_true rfl) ?_
        refine lv_aload_n hx hb dX6_input_27 rfl (lv_at hl 0 rfl) ?_
        obtain ⟨_, o27, hj⟩ := Option.bind_eq_some_iff.mp hj
        obtain ⟨M28, g_M28, hj⟩ := Option.bind_eq_some_iff.mp hj
        refine f_V (k_V (b := a0) (As := []) (n := 0) (rest := []) cx hl.1 hP hS (c_X6_reckonAll l X g M26 a0 M28 g_M28) o27 rfl mC_X6_reckonAll mM_X6_226 mI_X6_reckonAll mS_X6_reckonAll mZ_X6 (by decide +kernel) ⟨Nat.le_of_ble_eq_true rfl, Nat.le_of_ble_eq_true rfl⟩ rfl rfl (Nat.le_of_ble_eq_true rfl) dX6_input_28 ⟨Nat.le_of_ble_eq_true rfl, Nat.le_of_ble_eq_true rfl⟩) hS (fun H locs hP hS => ?_)
        have hP : hp X M28 H := hP
        refine W.eq (g2 := F0 m 31 ls []) rfl ?_
        refine W.widen (k := 0) (n := 0) (Nat.le_of_ble_eq_true rfl) (Nat.le_of_ble_eq_true rfl) ?_
        refine lv_bipush (v := 16) hx hb dX6_input_31 (by decide) ?_
        refine lv_iload_n hx hb dX6_input_33 rfl (lv_at hl 1 rfl) ?_
        refine lv_imul hx hb dX6_input_34 ?_
        refine lv_istore_n (lv' := [(2, .int ((16 : Int32) * a1)), (0, .ref a0), (1, .int a1)]) hx hb dX6_input_35 rfl hl (by decide) rfl (fun ls hl => ?_)
        exact L_36 g M28 a0 a1 ((16 : Int32) * a1) H locs ls hj hP hS (lv_sub hl [1, 2, 0] rfl)
      · have hj := if_f c24 hj
        exact J_21 M H locs ls hj hP hS (lv_sub hl [] rfl)
  exact hgo _ _ hP hS
set_option maxHeartbeats 4000000 in
set_option maxRecDepth 100000 in
theorem c_X6_isBlank (l : Launch) (X : hX) (g : Nat) (M : hm) (a0 : Nat) (a1 : Int32) (a2 : Int32) (RR : hm × Int32) (hj : j_X6_isBlank g M a0 a1 a2 = some RR) : Ct l X yX6_isBlank cX6_isBlank 3 (some .boolean) { frames := 8, cells := 0, slots := 0, locals := 190 } [.ref a0, .int a1, .int a2] M (qI X RR) := by
  refine h_enter (own := RX6) (by decide) rfl (Nat.le_of_ble_eq_true rfl) ?_
  intro p e s m below meth c ls cx hr hlocks hnm hP hS hl
  have hx := cx.1
  have hb := cx.2.1
  have hl : lv_has ls 3 [(0, .ref a0), (1, .int a1), (2, .int a2)] := hl
  unfold j_X6_isBlank at hj
  have hgo : ∀ (H : Heap) (locs : List Loc), hp X M H → va_S (hA X) s.heap H locs → W p l e ({ frames := 8, cells := 0, slots := 0, locals := 190 } : Room) s m _ below meth c H locs 0 0 (MQ below (qI X RR) _ s 0 0 (hA X)) (F0 m 0 ls []) := by
    have J_28 : ∀ (M : hm) (s0 : Int32) (H : Heap) (locs : List Loc) (ls : Array Slot), j_X6_isBlank_28 g M s0 = some RR → hp X M H → va_S (hA X) s.heap H locs → lv_has ls 3 [] → W p l e ({ frames := 8, cells := 0, slots := 0, locals := 190 } : Room) s m _ below meth c H locs 0 0 (MQ below (qI X RR) _ s 0 0 (hA X)) (F0 m 28 ls [.int s0]) := by
      intro M s0 H locs ls hj hP hS hl
      unfold j_X6_isBlank_28 at hj
      obtain ⟨z1, g_z1, hj⟩ := Option.bind_eq_some_iff.mp hj
      exact t_Z cx hr hlocks hP hS (zb_eq g_z1).1 (Option.some.inj hj) (Nat.le_of_ble_eq_true rfl) (Nat.le_of_ble_eq_true rfl) dX6_isBlank_28
    have J_27 : ∀ (M : hm) (H : Heap) (locs : List Loc) (ls : Array Slot), j_X6_isBlank_27 g M = some RR → hp X M H → va_S (hA X) s.heap H locs → lv_has ls 3 [] → W p l e ({ frames := 8, cells := 0, slots := 0, locals := 190 } : Room) s m _ below meth c H locs 0 0 (MQ below (qI X RR) _ s 0 0 (hA X)) (F0 m 27 ls []) := by
      intro M H locs ls hj hP hS hl
      unfold j_X6_isBlank_27 at hj
      refine lv_iconst (v := 0) hx hb dX6_isBlank_27 (by decide) ?_
      exact J_28 M (0 : Int32) H locs ls hj hP hS (lv_sub hl [] rfl)
    intro H locs hP hS
    refine lv_aload_n hx hb dX6_isBlank_0 rfl (lv_at hl 0 rfl) ?_
    refine lv_iload_n hx hb dX6_isBlank_1 rfl (lv_at hl 1 rfl) ?_
    refine lv_iload_n hx hb dX6_isBlank_2 rfl (lv_at hl 2 rfl) ?_
    obtain ⟨_, o2, hj⟩ := Option.bind_eq_some_iff.mp hj
    obtain ⟨⟨Mq3, vq3⟩, g_q3, hj⟩ := Option.bind_eq_some_iff.mp hj
    refine f_I (k_V (b := a0) (As := [.int a1, .int a2]) (n := 2) (rest := []) cx hl.1 hP hS (c_X6_isThere l X g M a0 a1 a2 (Mq3, vq3) g_q3) o2 rfl mC_X6_isThere mM_X6_242 mI_X6_isThere mS_X6_isThere mZ_X6 (by decide +kernel) ⟨Nat.le_of_ble_eq_true rfl, Nat.le_of_ble_eq_true rfl⟩ rfl rfl (Nat.le_of_ble_eq_true rfl) dX6_isBlank_3 ⟨Nat.le_of_ble_eq_true rfl, Nat.le_of_ble_eq_true rfl⟩) hS (fun H locs hP hS => ?_)
    have hP : hp X Mq3 H := hP
    refine W.eq (g2 := F0 m 6 ls [.int vq3]) rfl ?_
    refine W.widen (k := 0) (n := 0) (Nat.le_of_ble_eq_true rfl) (Nat.le_of_ble_eq_true rfl) ?_
    refine lv_if_eq (tgt := 27) hx hb dX6_isBlank_6 (by decide) (fun c4 => ?_) (fun c4 => ?_)
    · have hj := if_t c4 hj
      exact J_27 Mq3 H locs ls hj hP hS (lv_sub hl [] rfl)
    · have hj := if_f c4 hj
      refine lv_aload_n hx hb dX6_isBlank_9 rfl (lv_at hl 0 rfl) ?_
      obtain ⟨v5, g_v5, hj⟩ := Option.bind_eq_some_iff.mp hj
      refine r_getR cx hP g_v5 iX6 rfl (by decide) mF_X6_29 dX6_isBlank_10 ?_
      refine lv_bipush (v := 16) hx hb dX6_isBlank_13 (by decide) ?_
      refine lv_iload_n hx hb dX6_isBlank_15 rfl (lv_at hl 1 rfl) ?_
      refine lv_imul hx hb dX6_isBlank_16 ?_
      refine lv_iload_n hx hb dX6_isBlank_17 rfl (lv_at hl 2 rfl) ?_
      refine lv_iadd hx hb dX6_isBlank_18 ?_
      obtain ⟨b6, e_b6, hj⟩ := Option.bind_eq_some_iff.mp hj
      subst e_b6
      obtain ⟨v7, g_v7, hj⟩ := Option.bind_eq_some_iff.mp hj
      refine r_aldZ cx hP g_v7 dX6_isBlank_19 ?_
      refine lv_if_eq (tgt := 27) hx hb dX6_isBlank_20 (by decide) (fun c8 => ?_) (fun c8 => ?_)
      · have hj := if_t c8 hj
        exact J_27 Mq3 H locs ls hj hP hS (lv_sub hl [] rfl)
      · have hj := if_f c8 hj
        refine lv_iconst (v := 1) hx hb dX6_isBlank_23 (by decide) ?_
        refine lv_goto (tgt := 28) hx hb dX6_isBlank_24 (by decide) ?_
        exact J_28 Mq3 (1 : Int32) H locs ls hj hP hS (lv_sub hl [] rfl)
  exact hgo _ _ hP hS
