set_option maxHeartbeats 4000000 in
set_option maxRecDepth 100000 in
theorem c_X5_isConstant (l : Launch) (X : hX) (g : Nat) (M : hm) (a0 : Int32) (RR : Int32) (hj : j_X5_isConstant g a0 = some RR) : Ct l X yX5_isConstant cX5_isConstant 1 (some .boolean) { frames := 0, cells := 0, slots := 0, locals := 0 } [.int a0] M (qI X (M, RR)) := by
  refine h_enter (own := RX5) (by decide) rfl (Nat.le_of_ble_eq_true rfl) ?_
  intro p e s m below meth c ls cx hr hlocks hnm hP hS hl
  have hx := cx.1
  have hb := cx.2.1
  have hl : lv_has ls 1 [(0, .int a0)] := hl
  unfold j_X5_isConstant at hj
  have hgo : ∀ (H : Heap) (locs : List Loc), hp X M H → va_S (hA X) s.heap H locs → W p l e ({ frames := 0, cells := 0, slots := 0, locals := 0 } : Room) s m _ below meth c H locs 0 0 (MQ below (qI X (M, RR)) _ s 0 0 (hA X)) (F0 m 0 ls []) := by
    have J_15 : ∀ (s0 : Int32) (H : Heap) (locs : List Loc) (ls : Array Slot), j_X5_isConstant_15 g s0 = some RR → hp X M H → va_S (hA X) s.heap H locs → lv_has ls 1 [] → W p l e ({ frames := 0, cells := 0, slots := 0, locals := 0 } : Room) s m _ below meth c H locs 0 0 (MQ below (qI X (M, RR)) _ s 0 0 (hA X)) (F0 m 15 ls [.int s0]) := by
      intro s0 H locs ls hj hP hS hl
      unfold j_X5_isConstant_15 at hj
      obtain ⟨z1, g_z1, hj⟩ := Option.bind_eq_some_iff.mp hj
      exact t_Z cx hr hlocks hP hS (zb_eq g_z1).1 (congrArg (Prod.mk M) (Option.some.inj hj)) (Nat.le_of_ble_eq_true rfl) (Nat.le_of_ble_eq_true rfl) dX5_isConstant_15
    have J_14 : ∀ (H : Heap) (locs : List Loc) (ls : Array Slot), j_X5_isConstant_14 g  = some RR → hp X M H → va_S (hA X) s.heap H locs → lv_has ls 1 [] → W p l e ({ frames := 0, cells := 0, slots := 0, locals := 0 } : Room) s m _ below meth c H locs 0 0 (MQ below (qI X (M, RR)) _ s 0 0 (hA X)) (F0 m 14 ls []) := by
      intro  H locs ls hj hP hS hl
      unfold j_X5_isConstant_14 at hj
      refine lv_iconst (v := 0) hx hb dX5_isConstant_14 (by decide) ?_
      exact J_15 (0 : Int32) H locs ls hj hP hS (lv_sub hl [] rfl)
    intro H locs hP hS
    refine lv_iload_n hx hb dX5_isConstant_0 rfl (lv_at hl 0 rfl) ?_
    refine lv_if_lt (tgt := 14) hx hb dX5_isConstant_1 (by decide) (fun c2 => ?_) (fun c2 => ?_)
    · have hj := if_t c2 hj
      exact J_14  H locs ls hj hP hS (lv_sub hl [] rfl)
    · have hj := if_f c2 hj
      refine lv_iload_n hx hb dX5_isConstant_4 rfl (lv_at hl 0 rfl) ?_
      refine lv_bipush (v := 8) hx hb dX5_isConstant_5 (by decide) ?_
      refine lv_icmp_ge (tgt := 14) hx hb dX5_isConstant_7 (by decide) (fun c3 => ?_) (fun c3 => ?_)
      · have hj := if_t c3 hj
        exact J_14  H locs ls hj hP hS (lv_sub hl [] rfl)
      · have hj := if_f c3 hj
        refine lv_iconst (v := 1) hx hb dX5_isConstant_10 (by decide) ?_
        refine lv_goto (tgt := 15) hx hb dX5_isConstant_11 (by decide) ?_
        exact J_15 (1 : Int32) H locs ls hj hP hS (lv_sub hl [] rfl)
  exact hgo _ _ hP hS
set_option maxHeartbeats 4000000 in
set_option maxRecDepth 100000 in
theorem c_X5_alarm (l : Launch) (X : hX) (g : Nat) (M : hm) (a0 : Nat) (a1 : Int32) (a2 : Int32) (a3 : Int32) (RR : hm × Int32) (hj : j_X5_alarm g M a0 a1 a2 a3 = some RR) : Ct l X yX5_alarm cX5_alarm 4 (some .int) { frames := 2, cells := 1, slots := 6, locals := 35 } [.ref a0, .int a1, .int a2, .int a3] M (qI X RR) := by
  refine h_enter (own := RX5) (by decide) rfl (Nat.le_of_ble_eq_true rfl) ?_
  intro p e s m below meth c ls cx hr hlocks hnm hP hS hl
  have hx := cx.1
  have hb := cx.2.1
  have hl : lv_has ls 4 [(0, .ref a0), (1, .int a1), (2, .int a2), (3, .int a3)] := hl
  unfold j_X5_alarm at hj
  have hgo : ∀ (H : Heap) (locs : List Loc), hp X M H → va_S (hA X) s.heap H locs → W p l e ({ frames := 2, cells := 1, slots := 6, locals := 35 } : Room) s m _ below meth c H locs 0 0 (MQ below (qI X RR) _ s 1 6 (hA X)) (F0 m 0 ls []) := by
    have J_44 : ∀ (M : hm) (p0 : Nat) (p1 : Int32) (p2 : Int32) (p3 : Int32) (H : Heap) (locs : List Loc) (ls : Array Slot), j_X5_alarm_44 g M p0 p1 p2 p3 = some RR → hp X M H → va_S (hA X) s.heap H locs → lv_has ls 4 [(0, .ref p0), (1, .int p1), (2, .int p2), (3, .int p3)] → W p l e ({ frames := 2, cells := 1, slots := 6, locals := 35 } : Room) s m _ below meth c H locs 0 0 (MQ below (qI X RR) _ s 1 6 (hA X)) (F0 m 44 ls []) := by
      intro M p0 p1 p2 p3 H locs ls hj hP hS hl
      unfold j_X5_alarm_44 at hj
      refine lv_aload_n hx hb dX5_alarm_44 rfl (lv_at hl 0 rfl) ?_
      obtain ⟨v1, g_v1, hj⟩ := Option.bind_eq_some_iff.mp hj
      refine r_getR cx hP g_v1 iX5 rfl (by decide) mF_X5_18 dX5_alarm_45 ?_
      refine lv_aload_n hx hb dX5_alarm_48 rfl (lv_at hl 0 rfl) ?_
      obtain ⟨v2, g_v2, hj⟩ := Option.bind_eq_some_iff.mp hj
      refine r_getI cx hP g_v2 iX5 rfl (by decide) mF_X5_37 dX5_alarm_49 ?_
      obtain ⟨⟨Mq3, aq3⟩, g_q3, hj⟩ := Option.bind_eq_some_iff.mp hj
      refine r_new (ci := 0) (fs := [.int 0, .int 0, .int 0, .int 0, .int 0, .int 0]) cx hP hS g_q3 iX0 tyX0 tyX0_ok mL_X5_16 mN_X0 mZ_X0 rfl (fun j hj => by rcases (show j = 0 ∨ j = 1 ∨ j = 2 ∨ j = 3 ∨ j = 4 ∨ j = 5 by omega) with rfl | rfl | rfl | rfl | rfl | rfl <;> rfl) (Nat.le_of_ble_eq_true rfl) (Nat.le_of_ble_eq_true rfl) dX5_alarm_52 (fun H hP hS => ?_)
      have hP : hp X Mq3 H := hP
      refine lv_dup hx hb dX5_alarm_55 rfl ?_
      refine lv_iload_n hx hb dX5_alarm_56 rfl (lv_at hl 1 rfl) ?_
      refine lv_iload_n hx hb dX5_alarm_57 rfl (lv_at hl 2 rfl) ?_
      refine lv_iload_n hx hb dX5_alarm_58 rfl (lv_at hl 3 rfl) ?_
      obtain ⟨M4, g_M4, hj⟩ := Option.bind_eq_some_iff.mp hj
      refine f_V (k_I (b := aq3) (As := [.int p1, .int p2, .int p3]) (n := 3) (rest := [.ref aq3, .int v2, va_rf v1]) cx hl.1 hP hS (c_X0_init l X g Mq3 aq3 p1 p2 p3 M4 g_M4) mC_X0_init mM_X5_130 mI_X0_init mZ_X0 rfl (by decide +kernel) ⟨Nat.le_of_ble_eq_true rfl, Nat.le_of_ble_eq_true rfl⟩ rfl rfl (by simp [cat_rf, Value.category]) dX5_alarm_59 ⟨Nat.le_of_ble_eq_true rfl, Nat.le_of_ble_eq_true rfl⟩) hS (fun H locs hP hS => ?_)
      have hP : hp X M4 H := hP
      refine W.eq (g2 := F0 m 62 ls [.ref aq3, .int v2, va_rf v1]) rfl ?_
      refine W.widen (k := 1) (n := 6) (Nat.le_of_ble_eq_true rfl) (Nat.le_of_ble_eq_true rfl) ?_
      obtain ⟨b5, e_b5, hj⟩ := Option.bind_eq_some_iff.mp hj
      subst e_b5
      obtain ⟨M6, g_M6, hj⟩ := Option.bind_eq_some_iff.mp hj
      refine r_astR (v := some aq3) (k := 4) (ci := 0) (r := (RX0, TX0, 6)) cx hP hS rfl rfl g_M6 dX5_alarm_62 (fun H locs hP hS => ?_)
      refine lv_aload_n hx hb dX5_alarm_63 rfl (lv_at hl 0 rfl) ?_
      refine lv_dup hx hb dX5_alarm_64 rfl ?_
      obtain ⟨v7, g_v7, hj⟩ := Option.bind_eq_some_iff.mp hj
      refine r_getI cx hP g_v7 iX5 rfl (by decide) mF_X5_37 dX5_alarm_65 ?_
      refine lv_iconst (v := 1) hx hb dX5_alarm_68 (by decide) ?_
      refine lv_iadd hx hb dX5_alarm_69 ?_
      obtain ⟨M8, g_M8, hj⟩ := Option.bind_eq_some_iff.mp hj
      refine r_put cx hP hS g_M8 iX5 tyX5 tyX5_ok nmX5 rfl (by decide) mF_X5_37 rfl rfl rfl dX5_alarm_70 (fun H locs hP hS => ?_)
      refine lv_aload_n hx hb dX5_alarm_73 rfl (lv_at hl 0 rfl) ?_
      obtain ⟨v9, g_v9, hj⟩ := Option.bind_eq_some_iff.mp hj
      refine r_getI cx hP g_v9 iX5 rfl (by decide) mF_X5_37 dX5_alarm_74 ?_
      refine lv_iconst (v := 1) hx hb dX5_alarm_77 (by decide) ?_
      refine lv_isub hx hb dX5_alarm_78 ?_
      exact t_I cx hr hlocks hP hS (Option.some.inj hj) (Nat.le_of_ble_eq_true rfl) (Nat.le_of_ble_eq_true rfl) dX5_alarm_79
    have J_23 : ∀ (M : hm) (H : Heap) (locs : List Loc) (ls : Array Slot), j_X5_alarm_23 g M = some RR → hp X M H → va_S (hA X) s.heap H locs → lv_has ls 4 [] → W p l e ({ frames := 2, cells := 1, slots := 6, locals := 35 } : Room) s m _ below meth c H locs 0 0 (MQ below (qI X RR) _ s 1 6 (hA X)) (F0 m 23 ls []) := by
      intro M H locs ls hj hP hS hl
      unfold j_X5_alarm_23 at hj
      refine lv_iconst (v := -1) hx hb dX5_alarm_23 (by decide) ?_
      exact t_I cx hr hlocks hP hS (Option.some.inj hj) (Nat.le_of_ble_eq_true rfl) (Nat.le_of_ble_eq_true rfl) dX5_alarm_24
    intro H locs hP hS
    refine lv_iload_n hx hb dX5_alarm_0 rfl (lv_at hl 1 rfl) ?_
    obtain ⟨v10, g_v10, hj⟩ := Option.bind_eq_some_iff.mp hj
    refine f_I (k_S (As := [.int a1]) (n := 1) (rest := []) cx hl.1 hP hS (c_X5_isColumn l X g M a1 v10 g_v10) mC_X5_isColumn mM_X5_86 mT_X5_isColumn mZ_X5 (by decide +kernel) ⟨Nat.le_of_ble_eq_true rfl, Nat.le_of_ble_eq_true rfl⟩ rfl rfl (Nat.le_of_ble_eq_true rfl) dX5_alarm_1 ⟨Nat.le_of_ble_eq_true rfl, Nat.le_of_ble_eq_true rfl⟩) hS (fun H locs hP hS => ?_)
    have hP : hp X M H := hP
    refine W.eq (g2 := F0 m 4 ls [.int v10]) rfl ?_
    refine W.widen (k := 0) (n := 0) (Nat.le_of_ble_eq_true rfl) (Nat.le_of_ble_eq_true rfl) ?_
    refine lv_if_eq (tgt := 23) hx hb dX5_alarm_4 (by decide) (fun c11 => ?_) (fun c11 => ?_)
    · have hj := if_t c11 hj
      exact J_23 M H locs ls hj hP hS (lv_sub hl [] rfl)
    · have hj := if_f c11 hj
      refine lv_iload_n hx hb dX5_alarm_7 rfl (lv_at hl 2 rfl) ?_
      obtain ⟨v12, g_v12, hj⟩ := Option.bind_eq_some_iff.mp hj
      refine f_I (k_S (As := [.int a2]) (n := 1) (rest := []) cx hl.1 hP hS (c_X5_isComparison l X g M a2 v12 g_v12) mC_X5_isComparison mM_X5_89 mT_X5_isComparison mZ_X5 (by decide +kernel) ⟨Nat.le_of_ble_eq_true rfl, Nat.le_of_ble_eq_true rfl⟩ rfl rfl (Nat.le_of_ble_eq_true rfl) dX5_alarm_8 ⟨Nat.le_of_ble_eq_true rfl, Nat.le_of_ble_eq_true rfl⟩) hS (fun H locs hP hS => ?_)
      have hP : hp X M H := hP
      refine W.eq (g2 := F0 m 11 ls [.int v12]) rfl ?_
      refine W.widen (k := 0) (n := 0) (Nat.le_of_ble_eq_true rfl) (Nat.le_of_ble_eq_true rfl) ?_
      refine lv_if_eq (tgt := 23) hx hb dX5_alarm_11 (by decide) (fun c13 => ?_) (fun c13 => ?_)
      · have hj := if_t c13 hj
        exact J_23 M H locs ls hj hP hS (lv_sub hl [] rfl)
      · have hj := if_f c13 hj
        refine lv_aload_n hx hb dX5_alarm_14 rfl (lv_at hl 0 rfl) ?_
        obtain ⟨v14, g_v14, hj⟩ := Option.bind_eq_some_iff.mp hj
        refine r_getI cx hP g_v14 iX5 rfl (by decide) mF_X5_37 dX5_alarm_15 ?_
        refine lv_bipush (v := 10) hx hb dX5_alarm_18 (by decide) ?_
        refine lv_icmp_lt (tgt := 25) hx hb dX5_alarm_20 (by decide) (fun c15 => ?_) (fun c15 => ?_)
        · have hj := if_t c15 hj
          refine lv_iload_n hx hb dX5_alarm_25 rfl (lv_at hl 3 rfl) ?_
          obtain ⟨v16, g_v16, hj⟩ := Option.bind_eq_some_iff.mp hj
          refine f_I (k_S (As := [.int a3]) (n := 1) (rest := []) cx hl.1 hP hS (c_X5_isColumn l X g M a3 v16 g_v16) mC_X5_isColumn mM_X5_86 mT_X5_isColumn mZ_X5 (by decide +kernel) ⟨Nat.le_of_ble_eq_true rfl, Nat.le_of_ble_eq_true rfl⟩ rfl rfl (Nat.le_of_ble_eq_true rfl) dX5_alarm_26 ⟨Nat.le_of_ble_eq_true rfl, Nat.le_of_ble_eq_true rfl⟩) hS (fun H locs hP hS => ?_)
          have hP : hp X M H := hP
          refine W.eq (g2 := F0 m 29 ls [.int v16]) rfl ?_
          refine W.widen (k := 0) (n := 0) (Nat.le_of_ble_eq_true rfl) (Nat.le_of_ble_eq_true rfl) ?_
          refine lv_if_ne (tgt := 44) hx hb dX5_alarm_29 (by decide) (fun c17 => ?_) (fun c17 => ?_)
          · have hj := if_f c17 hj
            exact J_44 M a0 a1 a2 a3 H locs ls hj hP hS (lv_sub hl [0, 1, 2, 3] rfl)
          · have hj := if_t c17 hj
            refine lv_iload_n hx hb dX5_alarm_32 rfl (lv_at hl 3 rfl) ?_
            refine lv_bipush (v := 16) hx hb dX5_alarm_33 (by decide) ?_
            refine lv_isub hx hb dX5_alarm_35 ?_
            obtain ⟨v18, g_v18, hj⟩ := Option.bind_eq_some_iff.mp hj
            refine f_I (k_S (As := [.int (a3 - (16 : Int32))]) (n := 1) (rest := []) cx hl.1 hP hS (c_X5_isConstant l X g M (a3 - (16 : Int32)) v18 g_v18) mC_X5_isConstant mM_X5_79 mT_X5_isConstant mZ_X5 (by decide +kernel) ⟨Nat.le_of_ble_eq_true rfl, Nat.le_of_ble_eq_true rfl⟩ rfl rfl (Nat.le_of_ble_eq_true rfl) dX5_alarm_36 ⟨Nat.le_of_ble_eq_true rfl, Nat.le_of_ble_eq_true rfl⟩) hS (fun H locs hP hS => ?_)
            have hP : hp X M H := hP
            refine W.eq (g2 := F0 m 39 ls [.int v18]) rfl ?_
            refine W.widen (k := 0) (n := 0) (Nat.le_of_ble_eq_true rfl) (Nat.le_of_ble_eq_true rfl) ?_
            refine lv_if_ne (tgt := 44) hx hb dX5_alarm_39 (by decide) (fun c19 => ?_) (fun c19 => ?_)
            · have hj := if_f c19 hj
              exact J_44 M a0 a1 a2 a3 H locs ls hj hP hS (lv_sub hl [0, 1, 2, 3] rfl)
            · have hj := if_t c19 hj
              refine lv_iconst (v := -1) hx hb dX5_alarm_42 (by decide) ?_
              exact t_I cx hr hlocks hP hS (Option.some.inj hj) (Nat.le_of_ble_eq_true rfl) (Nat.le_of_ble_eq_true rfl) dX5_alarm_43
        · have hj := if_f c15 hj
          exact J_23 M H locs ls hj hP hS (lv_sub hl [] rfl)
  exact hgo _ _ hP hS
set_option maxHeartbeats 4000000 in
set_option maxRecDepth 100000 in
theorem c_X5_alarmed (l : Launch) (X : hX) (g : Nat) (M : hm) (a0 : Nat) (a1 : Int32) (a2 : Int32) (RR : Int32) (hj : j_X5_alarmed g M a0 a1 a2 = some RR) : Ct l X yX5_alarmed cX5_alarmed 4 (some .int) { frames := 2, cells := 0, slots := 0, locals := 42 } [.ref a0, .int a1, .int a2] M (qI X (M, RR)) := by
  refine h_enter (own := RX5) (by decide) rfl (Nat.le_of_ble_eq_true rfl) ?_
  intro p e s m below meth c ls cx hr hlocks hnm hP hS hl
  have hx := cx.1
  have hb := cx.2.1
  have hl : lv_has ls 4 [(0, .ref a0), (1, .int a1), (2, .int a2)] := hl
  unfold j_X5_alarmed at hj
  have hgo : ∀ (H : Heap) (locs : List Loc), hp X M H → va_S (hA X) s.heap H locs → W p l e ({ frames := 2, cells := 0, slots := 0, locals := 42 } : Room) s m _ below meth c H locs 0 0 (MQ below (qI X (M, RR)) _ s 0 0 (hA X)) (F0 m 0 ls []) := by
    have J_34 : ∀ (s0 : Int32) (H : Heap) (locs : List Loc) (ls : Array Slot), j_X5_alarmed_34 g M s0 = some RR → hp X M H → va_S (hA X) s.heap H locs → lv_has ls 4 [] → W p l e ({ frames := 2, cells := 0, slots := 0, locals := 42 } : Room) s m _ below meth c H locs 0 0 (MQ below (qI X (M, RR)) _ s 0 0 (hA X)) (F0 m 34 ls [.int s0]) := by
      intro s0 H locs ls hj hP hS hl
      unfold j_X5_alarmed_34 at hj
      exact t_I cx hr hlocks hP hS (congrArg (Prod.mk M) (Option.some.inj hj)) (Nat.le_of_ble_eq_true rfl) (Nat.le_of_ble_eq_true rfl) dX5_alarmed_34
    have J_12 : ∀ (H : Heap) (locs : List Loc) (ls : Array Slot), j_X5_alarmed_12 g M  = some RR → hp X M H → va_S (hA X) s.heap H locs → lv_has ls 4 [] → W p l e ({ frames := 2, cells := 0, slots := 0, locals := 42 } : Room) s m _ below meth c H locs 0 0 (MQ below (qI X (M, RR)) _ s 0 0 (hA X)) (F0 m 12 ls []) := by
      intro  H locs ls hj hP hS hl
      unfold j_X5_alarmed_12 at hj
      refine lv_iconst (v := -1) hx hb dX5_alarmed_12 (by decide) ?_
      exact t_I cx hr hlocks hP hS (congrArg (Prod.mk M) (Option.some.inj hj)) (Nat.le_of_ble_eq_true rfl) (Nat.le_of_ble_eq_true rfl) dX5_alarmed_13
    intro H locs hP hS
    refine lv_iload_n hx hb dX5_alarmed_0 rfl (lv_at hl 1 rfl) ?_
    refine lv_if_lt (tgt := 12) hx hb dX5_alarmed_1 (by decide) (fun c1 => ?_) (fun c1 => ?_)
    · have hj := if_t c1 hj
      exact J_12  H locs ls hj hP hS (lv_sub hl [] rfl)
    · have hj := if_f c1 hj
      refine lv_iload_n hx hb dX5_alarmed_4 rfl (lv_at hl 1 rfl) ?_
      refine lv_aload_n hx hb dX5_alarmed_5 rfl (lv_at hl 0 rfl) ?_
      obtain ⟨v2, g_v2, hj⟩ := Option.bind_eq_some_iff.mp hj
      refine r_getI cx hP g_v2 iX5 rfl (by decide) mF_X5_37 dX5_alarmed_6 ?_
      refine lv_icmp_lt (tgt := 14) hx hb dX5_alarmed_9 (by decide) (fun c3 => ?_) (fun c3 => ?_)
      · have hj := if_t c3 hj
        refine lv_aload_n hx hb dX5_alarmed_14 rfl (lv_at hl 0 rfl) ?_
        obtain ⟨v4, g_v4, hj⟩ := Option.bind_eq_some_iff.mp hj
        refine r_getR cx hP g_v4 iX5 rfl (by decide) mF_X5_18 dX5_alarmed_15 ?_
        refine lv_iload_n hx hb dX5_alarmed_18 rfl (lv_at hl 1 rfl) ?_
        obtain ⟨b5, e_b5, hj⟩ := Option.bind_eq_some_iff.mp hj
        subst e_b5
        obtain ⟨v6, g_v6, hj⟩ := Option.bind_eq_some_iff.mp hj
        refine r_aldR cx hP (k := 4) rfl g_v6 dX5_alarmed_19 ?_
        refine h_astore_n (lv' := [(3, va_rf v6), (0, .ref a0), (1, .int a1), (2, .int a2)]) hx hb dX5_alarmed_20 rfl hl (by decide) rfl (fun ls hl => ?_)
        refine h_aload_n hx hb dX5_alarmed_21 rfl (lv_at hl 0 rfl) ?_
        cases v6 with
        | none =>
          refine lv_ifnonnullN hx hb dX5_alarmed_22 ?_
          refine lv_iconst (v := -1) hx hb dX5_alarmed_25 (by decide) ?_
          refine lv_goto (tgt := 34) hx hb dX5_alarmed_26 (by decide) ?_
          exact J_34 (-1 : Int32) H locs ls hj hP hS (lv_sub hl [] rfl)
        | some b7 =>
          refine lv_ifnonnull (tgt := 29) hx hb dX5_alarmed_22 (by decide) ?_
          refine lv_aload_n hx hb dX5_alarmed_29 rfl (lv_at hl 0 rfl) ?_
          refine lv_iload_n hx hb dX5_alarmed_30 rfl (lv_at hl 3 rfl) ?_
          obtain ⟨_, o8, hj⟩ := Option.bind_eq_some_iff.mp hj
          obtain ⟨v9, g_v9, hj⟩ := Option.bind_eq_some_iff.mp hj
          refine f_I (k_V (b := b7) (As := [.int a2]) (n := 1) (rest := []) cx hl.1 hP hS (c_X0_answer l X g M b7 a2 v9 g_v9) o8 rfl mC_X0_answer mM_X5_172 mI_X0_answer mS_X0_answer mZ_X0 (by decide +kernel) ⟨Nat.le_of_ble_eq_true rfl, Nat.le_of_ble_eq_true rfl⟩ rfl rfl (Nat.le_of_ble_eq_true rfl) dX5_alarmed_31 ⟨Nat.le_of_ble_eq_true rfl, Nat.le_of_ble_eq_true rfl⟩) hS (fun H locs hP hS => ?_)
          have hP : hp X M H := hP
          refine W.eq (g2 := F0 m 34 ls [.int v9]) rfl ?_
          refine W.widen (k := 0) (n := 0) (Nat.le_of_ble_eq_true rfl) (Nat.le_of_ble_eq_true rfl) ?_
          exact J_34 v9 H locs ls hj hP hS (lv_sub hl [] rfl)
      · have hj := if_f c3 hj
        exact J_12  H locs ls hj hP hS (lv_sub hl [] rfl)
  exact hgo _ _ hP hS
set_option maxHeartbeats 4000000 in
set_option maxRecDepth 100000 in
theorem c_X5_back (l : Launch) (X : hX) (g : Nat) (M : hm) (a0 : Nat) (RR : hm × Int32) (hj : j_X5_back g M a0 = some RR) : Ct l X yX5_back cX5_back 2 (some .int) { frames := 0, cells := 0, slots := 0, locals := 0 } [.ref a0] M (qI X RR) := by
  refine h_enter (own := RX5) (by decide) rfl (Nat.le_of_ble_eq_true rfl) ?_
  intro p e s m below meth c ls cx hr hlocks hnm hP hS hl
  have hx := cx.1
  have hb := cx.2.1
  have hl : lv_has ls 2 [(0, .ref a0)] := hl
  unfold j_X5_back at hj
  have hgo : ∀ (H : Heap) (locs : List Loc), hp X M H → va_S (hA X) s.heap H locs → W p l e ({ frames := 0, cells := 0, slots := 0, locals := 0 } : Room) s m _ below meth c H locs 0 0 (MQ below (qI X RR) _ s 0 0 (hA X)) (F0 m 0 ls []) := by
    intro H locs hP hS
    refine lv_aload_n hx hb dX5_back_0 rfl (lv_at hl 0 rfl) ?_
    obtain ⟨v1, g_v1, hj⟩ := Option.bind_eq_some_iff.mp hj
    refine r_getR cx hP g_v1 iX5 rfl (by decide) mF_X5_29 dX5_back_1 ?_
    refine h_astore_n (lv' := [(1, va_rf v1), (0, .ref a0)]) hx hb dX5_back_4 rfl hl (by decide) rfl (fun ls hl => ?_)
    refine h_aload_n hx hb dX5_back_5 rfl (lv_at hl 0 rfl) ?_
    cases v1 with
    | none =>
      refine lv_ifnonnullN hx hb dX5_back_6 ?_
      refine lv_iconst (v := -1) hx hb dX5_back_9 (by decide) ?_
      exact t_I cx hr hlocks hP hS (Option.some.inj hj) (Nat.le_of_ble_eq_true rfl) (Nat.le_of_ble_eq_true rfl) dX5_back_10
    | some b2 =>
      refine lv_ifnonnull (tgt := 11) hx hb dX5_back_6 (by decide) ?_
      refine lv_aload_n hx hb dX5_back_11 rfl (lv_at hl 1 rfl) ?_
      obtain ⟨v3, g_v3, hj⟩ := Option.bind_eq_some_iff.mp hj
      refine r_getR cx hP g_v3 iX5 rfl (by decide) mF_X5_11 dX5_back_12 ?_
      refine lv_aload_n hx hb dX5_back_15 rfl (lv_at hl 0 rfl) ?_
      obtain ⟨v4, g_v4, hj⟩ := Option.bind_eq_some_iff.mp hj
      refine r_getI cx hP g_v4 iX1 rfl (by decide) mF_X5_118 dX5_back_16 ?_
      refine lv_aload_n hx hb dX5_back_19 rfl (lv_at hl 0 rfl) ?_
      obtain ⟨v5, g_v5, hj⟩ := Option.bind_eq_some_iff.mp hj
      refine r_getR cx hP g_v5 iX1 rfl (by decide) mF_X5_123 dX5_back_20 ?_
      obtain ⟨b6, e_b6, hj⟩ := Option.bind_eq_some_iff.mp hj
      subst e_b6
      obtain ⟨M7, g_M7, hj⟩ := Option.bind_eq_some_iff.mp hj
      refine r_astR (k := 3) (ci := 3) (r := (RX3, TX3, 7)) cx hP hS rfl rfl g_M7 dX5_back_23 (fun H locs hP hS => ?_)
      refine lv_aload_n hx hb dX5_back_24 rfl (lv_at hl 1 rfl) ?_
      refine lv_dup hx hb dX5_back_25 rfl ?_
      obtain ⟨v8, g_v8, hj⟩ := Option.bind_eq_some_iff.mp hj
      refine r_getI cx hP g_v8 iX5 rfl (by decide) mF_X5_43 dX5_back_26 ?_
      refine lv_iconst (v := 1) hx hb dX5_back_29 (by decide) ?_
      refine lv_aload_n hx hb dX5_back_30 rfl (lv_at hl 0 rfl) ?_
      obtain ⟨v9, g_v9, hj⟩ := Option.bind_eq_some_iff.mp hj
      refine r_getI cx hP g_v9 iX1 rfl (by decide) mF_X5_118 dX5_back_31 ?_
      refine lv_ishl hx hb dX5_back_34 ?_
      refine lv_ior hx hb dX5_back_35 ?_
      obtain ⟨M10, g_M10, hj⟩ := Option.bind_eq_some_iff.mp hj
      refine r_put cx hP hS g_M10 iX5 tyX5 tyX5_ok nmX5 rfl (by decide) mF_X5_43 rfl rfl rfl dX5_back_36 (fun H locs hP hS => ?_)
      refine lv_aload_n hx hb dX5_back_39 rfl (lv_at hl 1 rfl) ?_
      refine lv_aload_n hx hb dX5_back_40 rfl (lv_at hl 0 rfl) ?_
      obtain ⟨v11, g_v11, hj⟩ := Option.bind_eq_some_iff.mp hj
      refine r_getR cx hP g_v11 iX1 rfl (by decide) mF_X5_127 dX5_back_41 ?_
      obtain ⟨M12, g_M12, hj⟩ := Option.bind_eq_some_iff.mp hj
      refine r_put cx hP hS g_M12 iX5 tyX5 tyX5_ok nmX5 rfl (by decide) mF_X5_29 rfl (nar_rf _ _).1 (nar_rf _ _).2 dX5_back_44 (fun H locs hP hS => ?_)
      refine lv_aload_n hx hb dX5_back_47 rfl (lv_at hl 1 rfl) ?_
      refine lv_dup hx hb dX5_back_48 rfl ?_
      obtain ⟨v13, g_v13, hj⟩ := Option.bind_eq_some_iff.mp hj
      refine r_getI cx hP g_v13 iX5 rfl (by decide) mF_X5_33 dX5_back_49 ?_
      refine lv_iconst (v := 1) hx hb dX5_back_52 (by decide) ?_
      refine lv_isub hx hb dX5_back_53 ?_
      obtain ⟨M14, g_M14, hj⟩ := Option.bind_eq_some_iff.mp hj
      refine r_put cx hP hS g_M14 iX5 tyX5 tyX5_ok nmX5 rfl (by decide) mF_X5_33 rfl rfl rfl dX5_back_54 (fun H locs hP hS => ?_)
      refine lv_aload_n hx hb dX5_back_57 rfl (lv_at hl 1 rfl) ?_
      obtain ⟨v15, g_v15, hj⟩ := Option.bind_eq_some_iff.mp hj
      refine r_getI cx hP g_v15 iX5 rfl (by decide) mF_X5_33 dX5_back_58 ?_
      exact t_I cx hr hlocks hP hS (Option.some.inj hj) (Nat.le_of_ble_eq_true rfl) (Nat.le_of_ble_eq_true rfl) dX5_back_61
  exact hgo _ _ hP hS
set_option maxHeartbeats 4000000 in
set_option maxRecDepth 100000 in
theorem c_X5_settle (l : Launch) (X : hX) (g : Nat) (M : hm) (a0 : Nat) (RR : hm) (hj : j_X5_settle g M a0 = some RR) : Ct l X yX5_settle cX5_settle 3 none { frames := 5, cells := 0, slots := 0, locals := 135 } [.ref a0] M (qV X RR) := by
  refine h_enter (own := RX5) (by decide) rfl (Nat.le_of_ble_eq_true rfl) ?_
  intro p e s m below meth c ls cx hr hlocks hnm hP hS hl
  have hx := cx.1
  have hb := cx.2.1
  have hl : lv_has ls 3 [(0, .ref a0)] := hl
  unfold j_X5_settle at hj
  have hgo : ∀ (H : Heap) (locs : List Loc), hp X M H → va_S (hA X) s.heap H locs → W p l e ({ frames := 5, cells := 0, slots := 0, locals := 135 } : Room) s m _ below meth c H locs 0 0 (MQ below (qV X RR) _ s 0 0 (hA X)) (F0 m 0 ls []) := by
    have J_72 : ∀ (M : hm) (p0 : Nat) (H : Heap) (locs : List Loc) (ls : Array Slot), j_X5_settle_72 g M p0 = some RR → hp X M H → va_S (hA X) s.heap H locs → lv_has ls 3 [(0, .ref p0)] → W p l e ({ frames := 5, cells := 0, slots := 0, locals := 135 } : Room) s m _ below meth c H locs 0 0 (MQ below (qV X RR) _ s 0 0 (hA X)) (F0 m 72 ls []) := by
      intro M p0 H locs ls hj hP hS hl
      unfold j_X5_settle_72 at hj
      refine lv_aload_n hx hb dX5_settle_72 rfl (lv_at hl 0 rfl) ?_
      refine lv_iconst (v := 0) hx hb dX5_settle_73 (by decide) ?_
      obtain ⟨M1, g_M1, hj⟩ := Option.bind_eq_some_iff.mp hj
      refine r_put cx hP hS g_M1 iX5 tyX5 tyX5_ok nmX5 rfl (by decide) mF_X5_43 rfl rfl rfl dX5_settle_74 (fun H locs hP hS => ?_)
      exact t_V cx hr hlocks hP hS (Option.some.inj hj) (Nat.le_of_ble_eq_true rfl) (Nat.le_of_ble_eq_true rfl) dX5_settle_77
    have L_10 : ∀ (n10 : Nat) (M : hm) (p0 : Nat) (p1 : Int32) (H : Heap) (locs : List Loc) (ls : Array Slot), j_X5_settle_10 g n10 M p0 p1 = some RR → hp X M H → va_S (hA X) s.heap H locs → lv_has ls 3 [(0, .ref p0), (1, .int p1)] → W p l e ({ frames := 5, cells := 0, slots := 0, locals := 135 } : Room) s m _ below meth c H locs 0 0 (MQ below (qV X RR) _ s 0 0 (hA X)) (F0 m 10 ls []) := by
      intro n10
      induction n10 with
      | zero =>
        intro M p0 p1 H locs ls hj
        exact no_zero hj
      | succ n10 ih_10 =>
        have J_66 : ∀ (M : hm) (p0 : Nat) (p1 : Int32) (H : Heap) (locs : List Loc) (ls : Array Slot), j_X5_settle_66 g (fun M p0 p1 => j_X5_settle_10 g n10 M p0 p1) M p0 p1 = some RR → hp X M H → va_S (hA X) s.heap H locs → lv_has ls 3 [(0, .ref p0), (1, .int p1)] → W p l e ({ frames := 5, cells := 0, slots := 0, locals := 135 } : Room) s m _ below meth c H locs 0 0 (MQ below (qV X RR) _ s 0 0 (hA X)) (F0 m 66 ls []) := by
          intro M p0 p1 H locs ls hj hP hS hl
          unfold j_X5_settle_66 at hj
          refine lv_iinc (v := (p1 + (1 : Int32))) (lv' := [(1, .int (p1 + (1 : Int32))), (0, .ref p0)]) hx hb dX5_settle_66 hl (k := 1) rfl rfl (by decide) rfl (fun ls hl => ?_)
          refine lv_goto (tgt := 10) hx hb dX5_settle_69 (by decide) ?_
          exact ih_10 M p0 (p1 + (1 : Int32)) H locs ls hj hP hS (lv_sub hl [1, 0] rfl)
        intro M p0 p1 H locs ls hj hP hS hl
        rw [j_X5_settle_10_s] at hj
        refine lv_iload_n hx hb dX5_settle_10 rfl (lv_at hl 1 rfl) ?_
        refine lv_bipush (v := 12) hx hb dX5_settle_11 (by decide) ?_
        refine lv_icmp_ge (tgt := 72) hx hb dX5_settle_13 (by decide) (fun c2 => ?_) (fun c2 => ?_)
        · have hj := if_t c2 hj
          exact J_72 M p0 H locs ls hj hP hS (lv_sub hl [0] rfl)
        · have hj := if_f c2 hj
          refine lv_aload_n hx hb dX5_settle_16 rfl (lv_at hl 0 rfl) ?_
          obtain ⟨v3, g_v3, hj⟩ := Option.bind_eq_some_iff.mp hj
          refine r_getR cx hP g_v3 iX5 rfl (by decide) mF_X5_11 dX5_settle_17 ?_
          refine lv_iload_n hx hb dX5_settle_20 rfl (lv_at hl 1 rfl) ?_
          obtain ⟨b4, e_b4, hj⟩ := Option.bind_eq_some_iff.mp hj
          subst e_b4
          obtain ⟨v5, g_v5, hj⟩ := Option.bind_eq_some_iff.mp hj
          refine r_aldR cx hP (k := 3) rfl g_v5 dX5_settle_21 ?_
          refine h_astore_n (lv' := [(2, va_rf v5), (0, .ref p0), (1, .int p1)]) hx hb dX5_settle_22 rfl hl (by decide) rfl (fun ls hl => ?_)
          refine h_aload_n hx hb dX5_settle_23 rfl (lv_at hl 0 rfl) ?_
          obtain ⟨b6, e_b6, hj⟩ := Option.bind_eq_some_iff.mp hj
          subst e_b6
          obtain ⟨_, o7, hj⟩ := Option.bind_eq_some_iff.mp hj
          obtain ⟨v8, g_v8, hj⟩ := Option.bind_eq_some_iff.mp hj
          refine f_I (k_V (b := b6) (As := []) (n := 0) (rest := []) cx hl.1 hP hS (c_X3_hasFormula l X g M b6 v8 g_v8) o7 rfl mC_X3_hasFormula mM_X5_104 mI_X3_hasFormula mS_X3_hasFormula mZ_X3 (by decide +kernel) ⟨Nat.le_of_ble_eq_true rfl, Nat.le_of_ble_eq_true rfl⟩ rfl rfl (Nat.le_of_ble_eq_true rfl) dX5_settle_24 ⟨Nat.le_of_ble_eq_true rfl, Nat.le_of_ble_eq_true rfl⟩) hS (fun H locs hP hS => ?_)
          have hP : hp X M H := hP
          refine W.eq (g2 := F0 m 27 ls [.int v8]) rfl ?_
          refine W.widen (k := 0) (n := 0) (Nat.le_of_ble_eq_true rfl) (Nat.le_of_ble_eq_true rfl) ?_
          refine lv_if_eq (tgt := 66) hx hb dX5_settle_27 (by decide) (fun c9 => ?_) (fun c9 => ?_)
          · have hj := if_t c9 hj
            exact J_66 M p0 p1 H locs ls hj hP hS (lv_sub hl [1, 2] rfl)
          · have hj := if_f c9 hj
            refine lv_aload_n hx hb dX5_settle_30 rfl (lv_at hl 0 rfl) ?_
            refine lv_aload_n hx hb dX5_settle_31 rfl (lv_at hl 1 rfl) ?_
            obtain ⟨v10, g_v10, hj⟩ := Option.bind_eq_some_iff.mp hj
            refine r_getI cx hP g_v10 iX5 rfl (by decide) mF_X5_43 dX5_settle_32 ?_
            refine lv_iload_n hx hb dX5_settle_35 rfl (lv_at hl 2 rfl) ?_
            obtain ⟨_, o11, hj⟩ := Option.bind_eq_some_iff.mp hj
            obtain ⟨v12, g_v12, hj⟩ := Option.bind_eq_some_iff.mp hj
            refine f_I (k_V (b := b6) (As := [.int v10, .int p1]) (n := 2) (rest := []) cx hl.1 hP hS (c_X3_isTouched l X g M b6 v10 p1 v12 g_v12) o11 rfl mC_X3_isTouched mM_X5_208 mI_X3_isTouched mS_X3_isTouched mZ_X3 (by decide +kernel) ⟨Nat.le_of_ble_eq_true rfl, Nat.le_of_ble_eq_true rfl⟩ rfl rfl (Nat.le_of_ble_eq_true rfl) dX5_settle_36 ⟨Nat.le_of_ble_eq_true rfl, Nat.le_of_ble_eq_true rfl⟩) hS (fun H locs hP hS => ?_)
            have hP : hp X M H := hP
            refine W.eq (g2 := F0 m 39 ls [.int v12]) rfl ?_
            refine W.widen (k := 0) (n := 0) (Nat.le_of_ble_eq_true rfl) (Nat.le_of_ble_eq_true rfl) ?_
            refine lv_if_eq (tgt := 66) hx hb dX5_settle_39 (by decide) (fun c13 => ?_) (fun c13 => ?_)
            · have hj := if_t c13 hj
              exact J_66 M p0 p1 H locs ls hj hP hS (lv_sub hl [1, 2] rfl)
            · have hj := if_f c13 hj
              refine lv_aload_n hx hb dX5_settle_42 rfl (lv_at hl 1 rfl) ?_
              obtain ⟨v14, g_v14, hj⟩ := Option.bind_eq_some_iff.mp hj
              refine r_getR cx hP g_v14 iX5 rfl (by decide) mF_X5_25 dX5_settle_43 ?_
              refine lv_aload_n hx hb dX5_settle_46 rfl (lv_at hl 0 rfl) ?_
              refine lv_aload_n hx hb dX5_settle_47 rfl (lv_at hl 1 rfl) ?_
              obtain ⟨v15, g_v15, hj⟩ := Option.bind_eq_some_iff.mp hj
              refine r_getR cx hP g_v15 iX5 rfl (by decide) mF_X5_11 dX5_settle_48 ?_
              obtain ⟨b16, e_b16, hj⟩ := Option.bind_eq_some_iff.mp hj
              subst e_b16
              obtain ⟨_, o17, hj⟩ := Option.bind_eq_some_iff.mp hj
              obtain ⟨M18, g_M18, hj⟩ := Option.bind_eq_some_iff.mp hj
              refine f_V (k_V (b := b16) (As := [.ref b6, va_rf v15]) (n := 2) (rest := []) cx hl.1 hP hS (c_X2_reckon l X g M b16 (some b6) v15 M18 g_M18) o17 rfl mC_X2_reckon mM_X5_211 mI_X2_reckon mS_X2_reckon mZ_X2 (by decide +kernel) ⟨Nat.le_of_ble_eq_true rfl, Nat.le_of_ble_eq_true rfl⟩ rfl rfl (Nat.le_of_ble_eq_true rfl) dX5_settle_51 ⟨Nat.le_of_ble_eq_true rfl, Nat.le_of_ble_eq_true rfl⟩) hS (fun H locs hP hS => ?_)
              have hP : hp X M18 H := hP
              refine W.eq (g2 := F0 m 54 ls []) rfl ?_
              refine W.widen (k := 0) (n := 0) (Nat.le_of_ble_eq_true rfl) (Nat.le_of_ble_eq_true rfl) ?_
              refine lv_aload_n hx hb dX5_settle_54 rfl (lv_at hl 1 rfl) ?_
              refine lv_dup hx hb dX5_settle_55 rfl ?_
              obtain ⟨v19, g_v19, hj⟩ := Option.bind_eq_some_iff.mp hj
              refine r_getI cx hP g_v19 iX5 rfl (by decide) mF_X5_43 dX5_settle_56 ?_
              refine lv_iconst (v := 1) hx hb dX5_settle_59 (by decide) ?_
              refine lv_iload_n hx hb dX5_settle_60 rfl (lv_at hl 2 rfl) ?_
              refine lv_ishl hx hb dX5_settle_61 ?_
              refine lv_ior hx hb dX5_settle_62 ?_
              obtain ⟨M20, g_M20, hj⟩ := Option.bind_eq_some_iff.mp hj
              refine r_put cx hP hS g_M20 iX5 tyX5 tyX5_ok nmX5 rfl (by decide) mF_X5_43 rfl rfl rfl dX5_settle_63 (fun H locs hP hS => ?_)
              exact J_66 M20 p0 p1 H locs ls hj hP hS (lv_sub hl [1, 2] rfl)
    intro H locs hP hS
    refine lv_aload_n hx hb dX5_settle_0 rfl (lv_at hl 0 rfl) ?_
    obtain ⟨v21, g_v21, hj⟩ := Option.bind_eq_some_iff.mp hj
    refine r_getI cx hP g_v21 iX5 rfl (by decide) mF_X5_43 dX5_settle_1 ?_
    refine lv_if_ne (tgt := 8) hx hb dX5_settle_4 (by decide) (fun c22 => ?_) (fun c22 => ?_)
    · have hj := if_f c22 hj
      refine lv_iconst (v := 0) hx hb dX5_settle_8 (by decide) ?_
      refine lv_istore_n (lv' := [(1, .int (0 : Int32)), (0, .ref a0)]) hx hb dX5_settle_9 rfl hl (by decide) rfl (fun ls hl => ?_)
      exact L_10 g M a0 (0 : Int32) H locs ls hj hP hS (lv_sub hl [1, 0] rfl)
    · have hj := if_t c22 hj
      exact t_V cx hr hlocks hP hS (Option.some.inj hj) (Nat.le_of_ble_eq_true rfl) (Nat.le_of_ble_eq_true rfl) dX5_settle_7
  exact hgo _ _ hP hS
set_option maxHeartbeats 4000000 in
set_option maxRecDepth 100000 in
theorem c_X5_isPlace (l : Launch) (X : hX) (g : Nat) (M : hm) (a0 : Int32) (RR : Int32) (hj : j_X5_isPlace g a0 = some RR) : Ct l X yX5_isPlace cX5_isPlace 1 (some .boolean) { frames := 0, cells := 0, slots := 0, locals := 0 } [.int a0] M (qI X (M, RR)) := by
  refine h_enter (own := RX5) (by decide) rfl (Nat.le_of_ble_eq_true rfl) ?_
  intro p e s m below meth c ls cx hr hlocks hnm hP hS hl
  have hx := cx.1
  have hb := cx.2.1
  have hl : lv_has ls 1 [(0, .int a0)] := hl
  unfold j_X5_isPlace at hj
  have hgo : ∀ (H : Heap) (locs : List Loc), hp X M H → va_S (hA X) s.heap H locs → W p l e ({ frames := 0, cells := 0, slots := 0, locals := 0 } : Room) s m _ below meth c H locs 0 0 (MQ below (qI X (M, RR)) _ s 0 0 (hA X)) (F0 m 0 ls []) := by
    have J_15 : ∀ (s0 : Int32) (H : Heap) (locs : List Loc) (ls : Array Slot), j_X5_isPlace_15 g s0 = some RR → hp X M H → va_S (hA X) s.heap H locs → lv_has ls 1 [] → W p l e ({ frames := 0, cells := 0, slots := 0, locals := 0 } : Room) s m _ below meth c H locs 0 0 (MQ below (qI X (M, RR)) _ s 0 0 (hA X)) (F0 m 15 ls [.int s0]) := by
      intro s0 H locs ls hj hP hS hl
      unfold j_X5_isPlace_15 at hj
      obtain ⟨z1, g_z1, hj⟩ := Option.bind_eq_some_iff.mp hj
      exact t_Z cx hr hlocks hP hS (zb_eq g_z1).1 (congrArg (Prod.mk M) (Option.some.inj hj)) (Nat.le_of_ble_eq_true rfl) (Nat.le_of_ble_eq_true rfl) dX5_isPlace_15
    have J_14 : ∀ (H : Heap) (locs : List Loc) (ls : Array Slot), j_X5_isPlace_14 g  = some RR → hp X M H → va_S (hA X) s.heap H locs → lv_has ls 1 [] → W p l e ({ frames := 0, cells := 0, slots := 0, locals := 0 } : Room) s m _ below meth c H locs 0 0 (MQ below (qI X (M, RR)) _ s 0 0 (hA X)) (F0 m 14 ls []) := by
      intro  H locs ls hj hP hS hl
      unfold j_X5_isPlace_14 at hj
      refine lv_iconst (v := 0) hx hb dX5_isPlace_14 (by decide) ?_
      exact J_15 (0 : Int32) H locs ls hj hP hS (lv_sub hl [] rfl)
    intro H locs hP hS
    refine lv_iload_n hx hb dX5_isPlace_0 rfl (lv_at hl 0 rfl) ?_
    refine lv_if_lt (tgt := 14) hx hb dX5_isPlace_1 (by decide) (fun c2 => ?_) (fun c2 => ?_)
    · have hj := if_t c2 hj
      exact J_14  H locs ls hj hP hS (lv_sub hl [] rfl)
    · have hj := if_f c2 hj
      refine lv_iload_n hx hb dX5_isPlace_4 rfl (lv_at hl 0 rfl) ?_
      refine lv_bipush (v := 16) hx hb dX5_isPlace_5 (by decide) ?_
      refine lv_icmp_ge (tgt := 14) hx hb dX5_isPlace_7 (by decide) (fun c3 => ?_) (fun c3 => ?_)
      · have hj := if_t c3 hj
        exact J_14  H locs ls hj hP hS (lv_sub hl [] rfl)
      · have hj := if_f c3 hj
        refine lv_iconst (v := 1) hx hb dX5_isPlace_10 (by decide) ?_
        refine lv_goto (tgt := 15) hx hb dX5_isPlace_11 (by decide) ?_
        exact J_15 (1 : Int32) H locs ls hj hP hS (lv_sub hl [] rfl)
  exact hgo _ _ hP hS
set_option maxHeartbeats 4000000 in
set_option maxRecDepth 100000 in
theorem c_X5_isNumber (l : Launch) (X : hX) (g : Nat) (M : hm) (a0 : Nat) (a1 : Int32) (a2 : Int32) (RR : Int32) (hj : j_X5_isNumber g M a0 a1 a2 = some RR) : Ct l X yX5_isNumber cX5_isNumber 3 (some .boolean) { frames := 1, cells := 0, slots := 0, locals := 21 } [.ref a0, .int a1, .int a2] M (qI X (M, RR)) := by
  refine h_enter (own := RX5) (by decide) rfl (Nat.le_of_ble_eq_true rfl) ?_
  intro p e s m below meth c ls cx hr hlocks hnm hP hS hl
  have hx := cx.1
  have hb := cx.2.1
  have hl : lv_has ls 3 [(0, .ref a0), (1, .int a1), (2, .int a2)] := hl
  unfold j_X5_isNumber at hj
  have hgo : ∀ (H : Heap) (locs : List Loc), hp X M H → va_S (hA X) s.heap H locs → W p l e ({ frames := 1, cells := 0, slots := 0, locals := 21 } : Room) s m _ below meth c H locs 0 0 (MQ below (qI X (M, RR)) _ s 0 0 (hA X)) (F0 m 0 ls []) := by
    have J_32 : ∀ (s0 : Int32) (H : Heap) (locs : List Loc) (ls : Array Slot), j_X5_isNumber_32 g M s0 = some RR → hp X M H → va_S (hA X) s.heap H locs → lv_has ls 3 [] → W p l e ({ frames := 1, cells := 0, slots := 0, locals := 21 } : Room) s m _ below meth c H locs 0 0 (MQ below (qI X (M, RR)) _ s 0 0 (hA X)) (F0 m 32 ls [.int s0]) := by
      intro s0 H locs ls hj hP hS hl
      unfold j_X5_isNumber_32 at hj
      obtain ⟨z1, g_z1, hj⟩ := Option.bind_eq_some_iff.mp hj
      exact t_Z cx hr hlocks hP hS (zb_eq g_z1).1 (congrArg (Prod.mk M) (Option.some.inj hj)) (Nat.le_of_ble_eq_true rfl) (Nat.le_of_ble_eq_true rfl) dX5_isNumber_32
    have J_31 : ∀ (H : Heap) (locs : List Loc) (ls : Array Slot), j_X5_isNumber_31 g M  = some RR → hp X M H → va_S (hA X) s.heap H locs → lv_has ls 3 [] → W p l e ({ frames := 1, cells := 0, slots := 0, locals := 21 } : Room) s m _ below meth c H locs 0 0 (MQ below (qI X (M, RR)) _ s 0 0 (hA X)) (F0 m 31 ls []) := by
      intro  H locs ls hj hP hS hl
      unfold j_X5_isNumber_31 at hj
      refine lv_iconst (v := 0) hx hb dX5_isNumber_31 (by decide) ?_
      exact J_32 (0 : Int32) H locs ls hj hP hS (lv_sub hl [] rfl)
    intro H locs hP hS
    refine lv_iload_n hx hb dX5_isNumber_0 rfl (lv_at hl 1 rfl) ?_
    obtain ⟨v2, g_v2, hj⟩ := Option.bind_eq_some_iff.mp hj
    refine f_I (k_S (As := [.int a1]) (n := 1) (rest := []) cx hl.1 hP hS (c_X5_isColumn l X g M a1 v2 g_v2) mC_X5_isColumn mM_X5_86 mT_X5_isColumn mZ_X5 (by decide +kernel) ⟨Nat.le_of_ble_eq_true rfl, Nat.le_of_ble_eq_true rfl⟩ rfl rfl (Nat.le_of_ble_eq_true rfl) dX5_isNumber_1 ⟨Nat.le_of_ble_eq_true rfl, Nat.le_of_ble_eq_true rfl⟩) hS (fun H locs hP hS => ?_)
    have hP : hp X M H := hP
    refine W.eq (g2 := F0 m 4 ls [.int v2]) rfl ?_
    refine W.widen (k := 0) (n := 0) (Nat.le_of_ble_eq_true rfl) (Nat.le_of_ble_eq_true rfl) ?_
    refine lv_if_eq (tgt := 31) hx hb dX5_isNumber_4 (by decide) (fun c3 => ?_) (fun c3 => ?_)
    · have hj := if_t c3 hj
      exact J_31  H locs ls hj hP hS (lv_sub hl [] rfl)
    · have hj := if_f c3 hj
      refine lv_iload_n hx hb dX5_isNumber_7 rfl (lv_at hl 2 rfl) ?_
      obtain ⟨v4, g_v4, hj⟩ := Option.bind_eq_some_iff.mp hj
      refine f_I (k_S (As := [.int a2]) (n := 1) (rest := []) cx hl.1 hP hS (c_X5_isPlace l X g M a2 v4 g_v4) mC_X5_isPlace mM_X5_153 mT_X5_isPlace mZ_X5 (by decide +kernel) ⟨Nat.le_of_ble_eq_true rfl, Nat.le_of_ble_eq_true rfl⟩ rfl rfl (Nat.le_of_ble_eq_true rfl) dX5_isNumber_8 ⟨Nat.le_of_ble_eq_true rfl, Nat.le_of_ble_eq_true rfl⟩) hS (fun H locs hP hS => ?_)
      have hP : hp X M H := hP
      refine W.eq (g2 := F0 m 11 ls [.int v4]) rfl ?_
      refine W.widen (k := 0) (n := 0) (Nat.le_of_ble_eq_true rfl) (Nat.le_of_ble_eq_true rfl) ?_
      refine lv_if_eq (tgt := 31) hx hb dX5_isNumber_11 (by decide) (fun c5 => ?_) (fun c5 => ?_)
      · have hj := if_t c5 hj
        exact J_31  H locs ls hj hP hS (lv_sub hl [] rfl)
      · have hj := if_f c5 hj
        refine lv_aload_n hx hb dX5_isNumber_14 rfl (lv_at hl 0 rfl) ?_
        obtain ⟨v6, g_v6, hj⟩ := Option.bind_eq_some_iff.mp hj
        refine r_getR cx hP g_v6 iX5 rfl (by decide) mF_X5_11 dX5_isNumber_15 ?_
        refine lv_iload_n hx hb dX5_isNumber_18 rfl (lv_at hl 1 rfl) ?_
        obtain ⟨b7, e_b7, hj⟩ := Option.bind_eq_some_iff.mp hj
        subst e_b7
        obtain ⟨v8, g_v8, hj⟩ := Option.bind_eq_some_iff.mp hj
        refine r_aldR cx hP (k := 3) rfl g_v8 dX5_isNumber_19 ?_
        refine lv_iload_n hx hb dX5_isNumber_20 rfl (lv_at hl 2 rfl) ?_
        obtain ⟨b9, e_b9, hj⟩ := Option.bind_eq_some_iff.mp hj
        subst e_b9
        obtain ⟨_, o10, hj⟩ := Option.bind_eq_some_iff.mp hj
        obtain ⟨v11, g_v11, hj⟩ := Option.bind_eq_some_iff.mp hj
        refine f_I (k_V (b := b9) (As := [.int a2]) (n := 1) (rest := []) cx hl.1 hP hS (c_X3_blankAt l X g M b9 a2 v11 g_v11) o10 rfl mC_X3_blankAt mM_X5_156 mI_X3_blankAt mS_X3_blankAt mZ_X3 (by decide +kernel) ⟨Nat.le_of_ble_eq_true rfl, Nat.le_of_ble_eq_true rfl⟩ rfl rfl (Nat.le_of_ble_eq_true rfl) dX5_isNumber_21 ⟨Nat.le_of_ble_eq_true rfl, Nat.le_of_ble_eq_true rfl⟩) hS (fun H locs hP hS => ?_)
        have hP : hp X M H := hP
        refine W.eq (g2 := F0 m 24 ls [.int v11]) rfl ?_
        refine W.widen (k := 0) (n := 0) (Nat.le_of_ble_eq_true rfl) (Nat.le_of_ble_eq_true rfl) ?_
        refine lv_if_ne (tgt := 31) hx hb dX5_isNumber_24 (by decide) (fun c12 => ?_) (fun c12 => ?_)
        · have hj := if_f c12 hj
          exact J_31  H locs ls hj hP hS (lv_sub hl [] rfl)
        · have hj := if_t c12 hj
          refine lv_iconst (v := 1) hx hb dX5_isNumber_27 (by decide) ?_
          refine lv_goto (tgt := 32) hx hb dX5_isNumber_28 (by decide) ?_
          exact J_32 (1 : Int32) H locs ls hj hP hS (lv_sub hl [] rfl)
  exact hgo _ _ hP hS
set_option maxHeartbeats 4000000 in
set_option maxRecDepth 100000 in
theorem c_X5_bits (l : Launch) (X : hX) (g : Nat) (M : hm) (a0 : Nat) (a1 : Int32) (a2 : Int32) (RR : hm × Int64) (hj : j_X5_bits g M a0 a1 a2 = some RR) : Ct l X yX5_bits cX5_bits 4 (some .long) { frames := 6, cells := 0, slots := 0, locals := 157 } [.ref a0, .int a1, .int a2] M (qL X RR) := by
  refine h_enter (own := RX5) (by decide) rfl (Nat.le_of_ble_eq_true rfl) ?_
  intro p e s m below meth c ls cx hr hlocks hnm hP hS hl
  have hx := cx.1
  have hb := cx.2.1
  have hl : lv_has ls 4 [(0, .ref a0), (1, .int a1), (2, .int a2)] := hl
  unfold j_X5_bits at hj
  have hgo : ∀ (H : Heap) (locs : List Loc), hp X M H → va_S (hA X) s.heap H locs → W p l e ({ frames := 6, cells := 0, slots := 0, locals := 157 } : Room) s m _ below meth c H locs 0 0 (MQ below (qL X RR) _ s 0 0 (hA X)) (F0 m 0 ls []) := by
    intro H locs hP hS
    refine lv_aload_n hx hb dX5_bits_0 rfl (lv_at hl 0 rfl) ?_
    obtain ⟨_, o1, hj⟩ := Option.bind_eq_some_iff.mp hj
    obtain ⟨M2, g_M2, hj⟩ := Option.bind_eq_some_iff.mp hj
    refine f_V (k_V (b := a0) (As := []) (n := 0) (rest := []) cx hl.1 hP hS (c_X5_settle l X g M a0 M2 g_M2) o1 rfl mC_X5_settle mM_X5_107 mI_X5_settle mS_X5_settle mZ_X5 (by decide +kernel) ⟨Nat.le_of_ble_eq_true rfl, Nat.le_of_ble_eq_true rfl⟩ rfl rfl (Nat.le_of_ble_eq_true rfl) dX5_bits_1 ⟨Nat.le_of_ble_eq_true rfl, Nat.le_of_ble_eq_true rfl⟩) hS (fun H locs hP hS => ?_)
    have hP : hp X M2 H := hP
    refine W.eq (g2 := F0 m 4 ls []) rfl ?_
    refine W.widen (k := 0) (n := 0) (Nat.le_of_ble_eq_true rfl) (Nat.le_of_ble_eq_true rfl) ?_
    refine lv_aload_n hx hb dX5_bits_4 rfl (lv_at hl 0 rfl) ?_
    refine lv_iload_n hx hb dX5_bits_5 rfl (lv_at hl 1 rfl) ?_
    refine lv_iload_n hx hb dX5_bits_6 rfl (lv_at hl 2 rfl) ?_
    obtain ⟨_, o3, hj⟩ := Option.bind_eq_some_iff.mp hj
    obtain ⟨v4, g_v4, hj⟩ := Option.bind_eq_some_iff.mp hj
    refine f_I (k_V (b := a0) (As := [.int a1, .int a2]) (n := 2) (rest := []) cx hl.1 hP hS (c_X5_isNumber l X g M2 a0 a1 a2 v4 g_v4) o3 rfl mC_X5_isNumber mM_X5_146 mI_X5_isNumber mS_X5_isNumber mZ_X5 (by decide +kernel) ⟨Nat.le_of_ble_eq_true rfl, Nat.le_of_ble_eq_true rfl⟩ rfl rfl (Nat.le_of_ble_eq_true rfl) dX5_bits_7 ⟨Nat.le_of_ble_eq_true rfl, Nat.le_of_ble_eq_true rfl⟩) hS (fun H locs hP hS => ?_)
    have hP : hp X M2 H := hP
    refine W.eq (g2 := F0 m 10 ls [.int v4]) rfl ?_
    refine W.widen (k := 0) (n := 0) (Nat.le_of_ble_eq_true rfl) (Nat.le_of_ble_eq_true rfl) ?_
    refine lv_if_ne (tgt := 15) hx hb dX5_bits_10 (by decide) (fun c5 => ?_) (fun c5 => ?_)
    · have hj := if_f c5 hj
      refine lv_aload_n hx hb dX5_bits_15 rfl (lv_at hl 0 rfl) ?_
      obtain ⟨v6, g_v6, hj⟩ := Option.bind_eq_some_iff.mp hj
      refine r_getR cx hP g_v6 iX5 rfl (by decide) mF_X5_11 dX5_bits_16 ?_
      refine lv_iload_n hx hb dX5_bits_19 rfl (lv_at hl 1 rfl) ?_
      obtain ⟨b7, e_b7, hj⟩ := Option.bind_eq_some_iff.mp hj
      subst e_b7
      obtain ⟨v8, g_v8, hj⟩ := Option.bind_eq_some_iff.mp hj
      refine r_aldR cx hP (k := 3) rfl g_v8 dX5_bits_20 ?_
      refine h_astore_n (lv' := [(3, va_rf v8), (0, .ref a0), (1, .int a1), (2, .int a2)]) hx hb dX5_bits_21 rfl hl (by decide) rfl (fun ls hl => ?_)
      refine lv_aload_n hx hb dX5_bits_22 rfl (lv_at hl 1 rfl) ?_
      obtain ⟨v9, g_v9, hj⟩ := Option.bind_eq_some_iff.mp hj
      refine r_getR cx hP g_v9 iX5 rfl (by decide) mF_X5_25 dX5_bits_23 ?_
      obtain ⟨b10, e_b10, hj⟩ := Option.bind_eq_some_iff.mp hj
      subst e_b10
      obtain ⟨v11, g_v11, hj⟩ := Option.bind_eq_some_iff.mp hj
      refine r_getR cx hP g_v11 iX2 rfl (by decide) mF_X5_58 dX5_bits_26 ?_
      refine h_aload_n hx hb dX5_bits_29 rfl (lv_at hl 0 rfl) ?_
      obtain ⟨b12, e_b12, hj⟩ := Option.bind_eq_some_iff.mp hj
      subst e_b12
      obtain ⟨v13, g_v13, hj⟩ := Option.bind_eq_some_iff.mp hj
      refine r_getR cx hP g_v13 iX3 rfl (by decide) mF_X5_149 dX5_bits_30 ?_
      refine lv_iload_n hx hb dX5_bits_33 rfl (lv_at hl 3 rfl) ?_
      obtain ⟨b14, e_b14, hj⟩ := Option.bind_eq_some_iff.mp hj
      subst e_b14
      obtain ⟨v15, g_v15, hj⟩ := Option.bind_eq_some_iff.mp hj
      refine r_aldD cx hP g_v15 dX5_bits_34 ?_
      refine lv_aload_n hx hb dX5_bits_35 rfl (lv_at hl 0 rfl) ?_
      obtain ⟨v16, g_v16, hj⟩ := Option.bind_eq_some_iff.mp hj
      refine r_getI cx hP g_v16 iX3 rfl (by decide) mF_X5_110 dX5_bits_36 ?_
      obtain ⟨b17, e_b17, hj⟩ := Option.bind_eq_some_iff.mp hj
      subst e_b17
      obtain ⟨_, o18, hj⟩ := Option.bind_eq_some_iff.mp hj
      obtain ⟨v19, g_v19, hj⟩ := Option.bind_eq_some_iff.mp hj
      refine f_L (k_V (b := b17) (As := [.double v15, .int v16]) (n := 2) (rest := []) cx hl.1 hP hS (c_X4_bitsOf l X g M2 b17 v15 v16 v19 g_v19) o18 rfl mC_X4_bitsOf mM_X5_163 mI_X4_bitsOf mS_X4_bitsOf mZ_X4 (by decide +kernel) ⟨Nat.le_of_ble_eq_true rfl, Nat.le_of_ble_eq_true rfl⟩ rfl rfl (Nat.le_of_ble_eq_true rfl) dX5_bits_39 ⟨Nat.le_of_ble_eq_true rfl, Nat.le_of_ble_eq_true rfl⟩) hS (fun H locs hP hS => ?_)
      have hP : hp X M2 H := hP
      refine W.eq (g2 := F0 m 42 ls [.long v19]) rfl ?_
      refine W.widen (k := 0) (n := 0) (Nat.le_of_ble_eq_true rfl) (Nat.le_of_ble_eq_true rfl) ?_
      exact t_L cx hr hlocks hP hS (Option.some.inj hj) (Nat.le_of_ble_eq_true rfl) (Nat.le_of_ble_eq_true rfl) dX5_bits_42
    · have hj := if_t c5 hj
      refine lv_lconst (v := 0) hx hb dX5_bits_13 (by decide) ?_
      exact t_L cx hr hlocks hP hS (Option.some.inj hj) (Nat.le_of_ble_eq_true rfl) (Nat.le_of_ble_eq_true rfl) dX5_bits_14
  exact hgo _ _ hP hS
set_option maxHeartbeats 4000000 in
set_option maxRecDepth 100000 in
theorem c_X5_changed (l : Launch) (X : hX) (g : Nat) (M : hm) (a0 : Nat) (a1 : Int32) (RR : hm × (Option Nat)) (hj : j_X5_changed g M a0 a1 = some RR) : Ct l X yX5_changed cX5_changed 4 (some (.object "TideBook$Row")) { frames := 3, cells := 3, slots := 26, locals := 53 } [.ref a0, .int a1] M (qR X RR) := by
  refine h_enter (own := RX5) (by decide) rfl (Nat.le_of_ble_eq_true rfl) ?_
  intro p e s m below meth c ls cx hr hlocks hnm hP hS hl
  have hx := cx.1
  have hb := cx.2.1
  have hl : lv_has ls 4 [(0, .ref a0), (1, .int a1)] := hl
  unfold j_X5_changed at hj
  have hgo : ∀ (H : Heap) (locs : List Loc), hp X M H → va_S (hA X) s.heap H locs → W p l e ({ frames := 3, cells := 3, slots := 26, locals := 53 } : Room) s m _ below meth c H locs 0 0 (MQ below (qR X RR) _ s 3 26 (hA X)) (F0 m 0 ls []) := by
    intro H locs hP hS
    refine lv_aload_n hx hb dX5_changed_0 rfl (lv_at hl 0 rfl) ?_
    obtain ⟨v1, g_v1, hj⟩ := Option.bind_eq_some_iff.mp hj
    refine r_getR cx hP g_v1 iX5 rfl (by decide) mF_X5_11 dX5_changed_1 ?_
    refine lv_iload_n hx hb dX5_changed_4 rfl (lv_at hl 1 rfl) ?_
    obtain ⟨b2, e_b2, hj⟩ := Option.bind_eq_some_iff.mp hj
    subst e_b2
    obtain ⟨v3, g_v3, hj⟩ := Option.bind_eq_some_iff.mp hj
    refine r_aldR cx hP (k := 3) rfl g_v3 dX5_changed_5 ?_
    refine h_astore_n (lv' := [(2, va_rf v3), (0, .ref a0), (1, .int a1)]) hx hb dX5_changed_6 rfl hl (by decide) rfl (fun ls hl => ?_)
    refine lv_aload_n hx hb dX5_changed_7 rfl (lv_at hl 1 rfl) ?_
    obtain ⟨⟨Mq4, aq4⟩, g_q4, hj⟩ := Option.bind_eq_some_iff.mp hj
    refine r_new (ci := 1) (fs := [.int 0, .null, .null]) cx hP hS g_q4 iX1 tyX1 tyX1_ok mL_X5_119 mN_X1 mZ_X1 rfl (fun j hj => by rcases (show j = 0 ∨ j = 1 ∨ j = 2 by omega) with rfl | rfl | rfl <;> rfl) (Nat.le_of_ble_eq_true rfl) (Nat.le_of_ble_eq_true rfl) dX5_changed_8 (fun H hP hS => ?_)
    have hP : hp X Mq4 H := hP
    refine lv_dup hx hb dX5_changed_11 rfl ?_
    refine lv_iload_n hx hb dX5_changed_12 rfl (lv_at hl 2 rfl) ?_
    refine h_aload_n hx hb dX5_changed_13 rfl (lv_at hl 0 rfl) ?_
    refine lv_aload_n hx hb dX5_changed_14 rfl (lv_at hl 1 rfl) ?_
    obtain ⟨v5, g_v5, hj⟩ := Option.bind_eq_some_iff.mp hj
    refine r_getR cx hP g_v5 iX5 rfl (by decide) mF_X5_29 dX5_changed_15 ?_
    obtain ⟨M6, g_M6, hj⟩ := Option.bind_eq_some_iff.mp hj
    refine f_V (k_I (b := aq4) (As := [.int a1, va_rf v3, va_rf v5]) (n := 3) (rest := [.ref aq4, .ref a0]) cx hl.1 hP hS (c_X1_init l X g Mq4 aq4 a1 v3 v5 M6 g_M6) mC_X1_init mM_X5_185 mI_X1_init mZ_X1 rfl (by decide +kernel) ⟨Nat.le_of_ble_eq_true rfl, Nat.le_of_ble_eq_true rfl⟩ rfl rfl (Nat.le_of_ble_eq_true rfl) dX5_changed_18 ⟨Nat.le_of_ble_eq_true rfl, Nat.le_of_ble_eq_true rfl⟩) hS (fun H locs hP hS => ?_)
    have hP : hp X M6 H := hP
    refine W.eq (g2 := F0 m 21 ls [.ref aq4, .ref a0]) rfl ?_
    refine W.widen (k := 1) (n := 3) (Nat.le_of_ble_eq_true rfl) (Nat.le_of_ble_eq_true rfl) ?_
    obtain ⟨M7, g_M7, hj⟩ := Option.bind_eq_some_iff.mp hj
    refine r_put cx hP hS g_M7 iX5 tyX5 tyX5_ok nmX5 rfl (by decide) mF_X5_29 rfl rfl rfl dX5_changed_21 (fun H locs hP hS => ?_)
    refine lv_aload_n hx hb dX5_changed_24 rfl (lv_at hl 1 rfl) ?_
    refine lv_dup hx hb dX5_changed_25 rfl ?_
    obtain ⟨v8, g_v8, hj⟩ := Option.bind_eq_some_iff.mp hj
    refine r_getI cx hP g_v8 iX5 rfl (by decide) mF_X5_33 dX5_changed_26 ?_
    refine lv_iconst (v := 1) hx hb dX5_changed_29 (by decide) ?_
    refine lv_iadd hx hb dX5_changed_30 ?_
    obtain ⟨M9, g_M9, hj⟩ := Option.bind_eq_some_iff.mp hj
    refine r_put cx hP hS g_M9 iX5 tyX5 tyX5_ok nmX5 rfl (by decide) mF_X5_33 rfl rfl rfl dX5_changed_31 (fun H locs hP hS => ?_)
    refine h_aload_n hx hb dX5_changed_34 rfl (lv_at hl 0 rfl) ?_
    obtain ⟨b10, e_b10, hj⟩ := Option.bind_eq_some_iff.mp hj
    subst e_b10
    obtain ⟨_, o11, hj⟩ := Option.bind_eq_some_iff.mp hj
    obtain ⟨⟨Mq12, vq12⟩, g_q12, hj⟩ := Option.bind_eq_some_iff.mp hj
    refine f_R (k_V (b := b10) (As := []) (n := 0) (rest := []) cx hl.1 hP hS (c_X3_copy l X g M9 b10 (Mq12, vq12) g_q12) o11 rfl mC_X3_copy mM_X5_188 mI_X3_copy mS_X3_copy mZ_X3 (by decide +kernel) ⟨Nat.le_of_ble_eq_true rfl, Nat.le_of_ble_eq_true rfl⟩ rfl rfl (Nat.le_of_ble_eq_true rfl) dX5_changed_35 ⟨Nat.le_of_ble_eq_true rfl, Nat.le_of_ble_eq_true rfl⟩) hS (fun H locs hP hS => ?_)
    have hP : hp X Mq12 H := hP
    refine W.eq (g2 := F0 m 38 ls [va_rf vq12]) rfl ?_
    refine W.widen (k := 3) (n := 26) (Nat.le_of_ble_eq_true rfl) (Nat.le_of_ble_eq_true rfl) ?_
    refine h_astore_n (lv' := [(3, va_rf vq12), (2, .ref b10), (0, .ref a0), (1, .int a1)]) hx hb dX5_changed_38 rfl hl (by decide) rfl (fun ls hl => ?_)
    refine lv_aload_n hx hb dX5_changed_39 rfl (lv_at hl 2 rfl) ?_
    obtain ⟨v13, g_v13, hj⟩ := Option.bind_eq_some_iff.mp hj
    refine r_getR cx hP g_v13 iX5 rfl (by decide) mF_X5_11 dX5_changed_40 ?_
    refine lv_iload_n hx hb dX5_changed_43 rfl (lv_at hl 3 rfl) ?_
    refine h_aload_n hx hb dX5_changed_44 rfl (lv_at hl 0 rfl) ?_
    obtain ⟨b14, e_b14, hj⟩ := Option.bind_eq_some_iff.mp hj
    subst e_b14
    obtain ⟨M15, g_M15, hj⟩ := Option.bind_eq_some_iff.mp hj
    refine r_astR (k := 3) (ci := 3) (r := (RX3, TX3, 7)) cx hP hS rfl rfl g_M15 dX5_changed_45 (fun H locs hP hS => ?_)
    refine lv_aload_n hx hb dX5_changed_46 rfl (lv_at hl 2 rfl) ?_
    refine lv_dup hx hb dX5_changed_47 rfl ?_
    obtain ⟨v16, g_v16, hj⟩ := Option.bind_eq_some_iff.mp hj
    refine r_getI cx hP g_v16 iX5 rfl (by decide) mF_X5_43 dX5_changed_48 ?_
    refine lv_iconst (v := 1) hx hb dX5_changed_51 (by decide) ?_
    refine lv_iload_n hx hb dX5_changed_52 rfl (lv_at hl 3 rfl) ?_
    refine lv_ishl hx hb dX5_changed_53 ?_
    refine lv_ior hx hb dX5_changed_54 ?_
    obtain ⟨M17, g_M17, hj⟩ := Option.bind_eq_some_iff.mp hj
    refine r_put cx hP hS g_M17 iX5 tyX5 tyX5_ok nmX5 rfl (by decide) mF_X5_43 rfl rfl rfl dX5_changed_55 (fun H locs hP hS => ?_)
    refine h_aload_n hx hb dX5_changed_58 rfl (lv_at hl 0 rfl) ?_
    exact t_R (v := vq12) cx hr hlocks hP hS (Option.some.inj hj) (Nat.le_of_ble_eq_true rfl) (Nat.le_of_ble_eq_true rfl) dX5_changed_59
  exact hgo _ _ hP hS
set_option maxHeartbeats 4000000 in
set_option maxRecDepth 100000 in
theorem c_X5_placesWhere (l : Launch) (X : hX) (g : Nat) (M : hm) (a0 : Nat) (a1 : Int32) (a2 : Int32) (a3 : Int32) (RR : Int32) (hj : j_X5_placesWhere g M a0 a1 a2 a3 = some RR) : Ct l X yX5_placesWhere cX5_placesWhere 9 (some .int) { frames := 2, cells := 0, slots := 0, locals := 51 } [.ref a0, .int a1, .int a2, .int a3] M (qI X (M, RR)) := by
  refine h_enter (own := RX5) (by decide) rfl (Nat.le_of_ble_eq_true rfl) ?_
  intro p e s m below meth c ls cx hr hlocks hnm hP hS hl
  have hx := cx.1
  have hb := cx.2.1
  have hl : lv_has ls 9 [(0, .ref a0), (1, .int a1), (2, .int a2), (3, .int a3)] := hl
  unfold j_X5_placesWhere at hj
  have hgo : ∀ (H : Heap) (locs : List Loc), hp X M H → va_S (hA X) s.heap H locs → W p l e ({ frames := 2, cells := 0, slots := 0, locals := 51 } : Room) s m _ below meth c H locs 0 0 (MQ below (qI X (M, RR)) _ s 0 0 (hA X)) (F0 m 0 ls []) := by
    have J_99 : ∀ (p7 : Int32) (H : Heap) (locs : List Loc) (ls : Array Slot), j_X5_placesWhere_99 g M p7 = some RR → hp X M H → va_S (hA X) s.heap H locs → lv_has ls 9 [(7, .int p7)] → W p l e ({ frames := 2, cells := 0, slots := 0, locals := 51 } : Room) s m _ below meth c H locs 0 0 (MQ below (qI X (M, RR)) _ s 0 0 (hA X)) (F0 m 99 ls []) := by
      intro p7 H locs ls hj hP hS hl
      unfold j_X5_placesWhere_99 at hj
      refine lv_iload hx hb dX5_placesWhere_99 (lv_at hl 0 rfl) ?_
      exact t_I cx hr hlocks hP hS (congrArg (Prod.mk M) (Option.some.inj hj)) (Nat.le_of_ble_eq_true rfl) (Nat.le_of_ble_eq_true rfl) dX5_placesWhere_101
    have L_50 : ∀ (n50 : Nat) (p2 : Int32) (p3 : Int32) (p4 : Int32) (p5 : Option Nat) (p6 : Option Nat) (p7 : Int32) (p8 : Int32) (H : Heap) (locs : List Loc) (ls : Array Slot), j_X5_placesWhere_50 g M n50 p2 p3 p4 p5 p6 p7 p8 = some RR → hp X M H → va_S (hA X) s.heap H locs → lv_has ls 9 [(2, .int p2), (3, .int p3), (4, .int p4), (5, va_rf p5), (6, va_rf p6), (7, .int p7), (8, .int p8)] → W p l e ({ frames := 2, cells := 0, slots := 0, locals := 51 } : Room) s m _ below meth c H locs 0 0 (MQ below (qI X (M, RR)) _ s 0 0 (hA X)) (F0 m 50 ls []) := by
      intro n50
      induction n50 with
      | zero =>
        intro p2 p3 p4 p5 p6 p7 p8 H locs ls hj
        exact no_zero hj
      | succ n50 ih_50 =>
        have J_93 : ∀ (p2 : Int32) (p3 : Int32) (p4 : Int32) (p5 : Option Nat) (p6 : Option Nat) (p7 : Int32) (p8 : Int32) (H : Heap) (locs : List Loc) (ls : Array Slot), j_X5_placesWhere_93 g (fun p2 p3 p4 p5 p6 p7 p8 => j_X5_placesWhere_50 g M n50 p2 p3 p4 p5 p6 p7 p8) M p2 p3 p4 p5 p6 p7 p8 = some RR → hp X M H → va_S (hA X) s.heap H locs → lv_has ls 9 [(2, .int p2), (3, .int p3), (4, .int p4), (5, va_rf p5), (6, va_rf p6), (7, .int p7), (8, .int p8)] → W p l e ({ frames := 2, cells := 0, slots := 0, locals := 51 } : Room) s m _ below meth c H locs 0 0 (MQ below (qI X (M, RR)) _ s 0 0 (hA X)) (F0 m 93 ls []) := by
          intro p2 p3 p4 p5 p6 p7 p8 H locs ls hj hP hS hl
          unfold j_X5_placesWhere_93 at hj
          refine lv_iinc (v := (p8 + (1 : Int32))) (lv' := [(8, .int (p8 + (1 : Int32))), (2, .int p2), (3, .int p3), (4, .int p4), (5, va_rf p5), (6, va_rf p6), (7, .int p7)]) hx hb dX5_placesWhere_93 hl (k := 6) rfl rfl (by decide) rfl (fun ls hl => ?_)
          refine lv_goto (tgt := 50) hx hb dX5_placesWhere_96 (by decide) ?_
          exact ih_50 p2 p3 p4 p5 p6 p7 (p8 + (1 : Int32)) H locs ls hj hP hS (lv_sub hl [1, 2, 3, 4, 5, 6, 0] rfl)
        have J_78 : ∀ (p2 : Int32) (p3 : Int32) (p4 : Int32) (p5 : Option Nat) (p6 : Option Nat) (p7 : Int32) (p8 : Int32) (s0 : Int32) (s1 : Option Nat) (s2 : Int32) (s3 : Option Nat) (s4 : Int32) (H : Heap) (locs : List Loc) (ls : Array Slot), j_X5_placesWhere_78 g (fun p2 p3 p4 p5 p6 p7 p8 => j_X5_placesWhere_50 g M n50 p2 p3 p4 p5 p6 p7 p8) M p2 p3 p4 p5 p6 p7 p8 s0 s1 s2 s3 s4 = some RR → hp X M H → va_S (hA X) s.heap H locs → lv_has ls 9 [(2, .int p2), (3, .int p3), (4, .int p4), (5, va_rf p5), (6, va_rf p6), (7, .int p7), (8, .int p8)] → W p l e ({ frames := 2, cells := 0, slots := 0, locals := 51 } : Room) s m _ below meth c H locs 0 0 (MQ below (qI X (M, RR)) _ s 0 0 (hA X)) (F0 m 78 ls [.int s0, va_rf s1, .int s2, va_rf s3, .int s4]) := by
          intro p2 p3 p4 p5 p6 p7 p8 s0 s1 s2 s3 s4 H locs ls hj hP hS hl
          unfold j_X5_placesWhere_78 at hj
          obtain ⟨v1, g_v1, hj⟩ := Option.bind_eq_some_iff.mp hj
          refine f_I (k_S (As := [.int s4, va_rf s3, .int s2, va_rf s1, .int s0]) (n := 5) (rest := []) cx hl.1 hP hS (c_X5_isSo l X g M s4 s3 s2 s1 s0 v1 g_v1) mC_X5_isSo mM_X5_215 mT_X5_isSo mZ_X5 (by decide +kernel) ⟨Nat.le_of_ble_eq_true rfl, Nat.le_of_ble_eq_true rfl⟩ rfl rfl (Nat.le_of_ble_eq_true rfl) dX5_placesWhere_78 ⟨Nat.le_of_ble_eq_true rfl, Nat.le_of_ble_eq_true rfl⟩) hS (fun H locs hP hS => ?_)
          have hP : hp X M H := hP
          refine W.eq (g2 := F0 m 81 ls [.int v1]) rfl ?_
          refine W.widen (k := 0) (n := 0) (Nat.le_of_ble_eq_true rfl) (Nat.le_of_ble_eq_true rfl) ?_
          refine lv_if_eq (tgt := 93) hx hb dX5_placesWhere_81 (by decide) (fun c2 => ?_) (fun c2 => ?_)
          · have hj := if_t c2 hj
            exact J_93 p2 p3 p4 p5 p6 p7 p8 H locs ls hj hP hS (lv_sub hl [0, 1, 2, 3, 4, 5, 6] rfl)
          · have hj := if_f c2 hj
            refine lv_iload hx hb dX5_placesWhere_84 (lv_at hl 5 rfl) ?_
            refine lv_iconst (v := 1) hx hb dX5_placesWhere_86 (by decide) ?_
            refine lv_iload hx hb dX5_placesWhere_87 (lv_at hl 6 rfl) ?_
            refine lv_ishl hx hb dX5_placesWhere_89 ?_
            refine lv_ior hx hb dX5_placesWhere_90 ?_
            refine lv_istore (lv' := [(7, .int (p7 ||| ((1 : Int32) <<< (p8 &&& 31)))), (2, .int p2), (3, .int p3), (4, .int p4), (5, va_rf p5), (6, va_rf p6), (8, .int p8)]) hx hb dX5_placesWhere_91 hl (by decide) rfl (fun ls hl => ?_)
            exact J_93 p2 p3 p4 p5 p6 (p7 ||| ((1 : Int32) <<< (p8 &&& 31))) p8 H locs ls hj hP hS (lv_sub hl [1, 2, 3, 4, 5, 0, 6] rfl)
        intro p2 p3 p4 p5 p6 p7 p8 H locs ls hj hP hS hl
        rw [j_X5_placesWhere_50_s] at hj
        refine lv_iload hx hb dX5_placesWhere_50 (lv_at hl 6 rfl) ?_
        refine lv_bipush (v := 16) hx hb dX5_placesWhere_52 (by decide) ?_
        refine lv_icmp_ge (tgt := 99) hx hb dX5_placesWhere_54 (by decide) (fun c3 => ?_) (fun c3 => ?_)
        · have hj := if_t c3 hj
          exact J_99 p7 H locs ls hj hP hS (lv_sub hl [5] rfl)
        · have hj := if_f c3 hj
          refine lv_iload_n hx hb dX5_placesWhere_57 rfl (lv_at hl 0 rfl) ?_
          refine h_aload hx hb dX5_placesWhere_58 (lv_at hl 3 rfl) ?_
          refine lv_iload hx hb dX5_placesWhere_60 (lv_at hl 6 rfl) ?_
          refine h_aload hx hb dX5_placesWhere_62 (lv_at hl 4 rfl) ?_
          refine lv_iload hx hb dX5_placesWhere_64 (lv_at hl 2 rfl) ?_
          refine lv_if_eq (tgt := 76) hx hb dX5_placesWhere_66 (by decide) (fun c4 => ?_) (fun c4 => ?_)
          · have hj := if_t c4 hj
            refine lv_iload hx hb dX5_placesWhere_76 (lv_at hl 6 rfl) ?_
            exact J_78 p2 p3 p4 p5 p6 p7 p8 p8 p6 p8 p5 p2 H locs ls hj hP hS (lv_sub hl [0, 1, 2, 3, 4, 5, 6] rfl)
          · have hj := if_f c4 hj
            refine lv_iload_n hx hb dX5_placesWhere_69 rfl (lv_at hl 1 rfl) ?_
            refine lv_bipush (v := 16) hx hb dX5_placesWhere_70 (by decide) ?_
            refine lv_isub hx hb dX5_placesWhere_72 ?_
            refine lv_goto (tgt := 78) hx hb dX5_placesWhere_73 (by decide) ?_
            exact J_78 p2 p3 p4 p5 p6 p7 p8 (p3 - (16 : Int32)) p6 p8 p5 p2 H locs ls hj hP hS (lv_sub hl [0, 1, 2, 3, 4, 5, 6] rfl)
    have J_42 : ∀ (p2 : Int32) (p3 : Int32) (p4 : Int32) (p5 : Option Nat) (s0 : Option Nat) (H : Heap) (locs : List Loc) (ls : Array Slot), j_X5_placesWhere_42 g M p2 p3 p4 p5 s0 = some RR → hp X M H → va_S (hA X) s.heap H locs → lv_has ls 9 [(2, .int p2), (3, .int p3), (4, .int p4), (5, va_rf p5)] → W p l e ({ frames := 2, cells := 0, slots := 0, locals := 51 } : Room) s m _ below meth c H locs 0 0 (MQ below (qI X (M, RR)) _ s 0 0 (hA X)) (F0 m 42 ls [va_rf s0]) := by
      intro p2 p3 p4 p5 s0 H locs ls hj hP hS hl
      unfold j_X5_placesWhere_42 at hj
      refine h_astore (lv' := [(6, va_rf s0), (2, .int p2), (3, .int p3), (4, .int p4), (5, va_rf p5)]) hx hb dX5_placesWhere_42 hl (by decide) rfl (fun ls hl => ?_)
      refine lv_iconst (v := 0) hx hb dX5_placesWhere_44 (by decide) ?_
      refine lv_istore (lv' := [(7, .int (0 : Int32)), (6, va_rf s0), (2, .int p2), (3, .int p3), (4, .int p4), (5, va_rf p5)]) hx hb dX5_placesWhere_45 hl (by decide) rfl (fun ls hl => ?_)
      refine lv_iconst (v := 0) hx hb dX5_placesWhere_47 (by decide) ?_
      refine lv_istore (lv' := [(8, .int (0 : Int32)), (7, .int (0 : Int32)), (6, va_rf s0), (2, .int p2), (3, .int p3), (4, .int p4), (5, va_rf p5)]) hx hb dX5_placesWhere_48 hl (by decide) rfl (fun ls hl => ?_)
      exact L_50 g p2 p3 p4 p5 s0 (0 : Int32) (0 : Int32) H locs ls hj hP hS (lv_sub hl [3, 4, 5, 6, 2, 1, 0] rfl)
    have J_11 : ∀ (p0 : Nat) (p1 : Int32) (p2 : Int32) (p3 : Int32) (s0 : Int32) (H : Heap) (locs : List Loc) (ls : Array Slot), j_X5_placesWhere_11 g M p0 p1 p2 p3 s0 = some RR → hp X M H → va_S (hA X) s.heap H locs → lv_has ls 9 [(0, .ref p0), (1, .int p1), (2, .int p2), (3, .int p3)] → W p l e ({ frames := 2, cells := 0, slots := 0, locals := 51 } : Room) s m _ below meth c H locs 0 0 (MQ below (qI X (M, RR)) _ s 0 0 (hA X)) (F0 m 11 ls [.int s0]) := by
      intro p0 p1 p2 p3 s0 H locs ls hj hP hS hl
      unfold j_X5_placesWhere_11 at hj
      refine lv_istore (lv' := [(4, .int s0), (0, .ref p0), (1, .int p1), (2, .int p2), (3, .int p3)]) hx hb dX5_placesWhere_11 hl (by decide) rfl (fun ls hl => ?_)
      refine lv_aload_n hx hb dX5_placesWhere_13 rfl (lv_at hl 1 rfl) ?_
      obtain ⟨v5, g_v5, hj⟩ := Option.bind_eq_some_iff.mp hj
      refine r_getR cx hP g_v5 iX5 rfl (by decide) mF_X5_11 dX5_placesWhere_14 ?_
      refine lv_iload_n hx hb dX5_placesWhere_17 rfl (lv_at hl 2 rfl) ?_
      obtain ⟨b6, e_b6, hj⟩ := Option.bind_eq_some_iff.mp hj
      subst e_b6
      obtain ⟨v7, g_v7, hj⟩ := Option.bind_eq_some_iff.mp hj
      refine r_aldR cx hP (k := 3) rfl g_v7 dX5_placesWhere_18 ?_
      refine h_astore (lv' := [(5, va_rf v7), (4, .int s0), (0, .ref p0), (1, .int p1), (2, .int p2), (3, .int p3)]) hx hb dX5_placesWhere_19 hl (by decide) rfl (fun ls hl => ?_)
      refine lv_iload hx hb dX5_placesWhere_21 (lv_at hl 1 rfl) ?_
      refine lv_if_eq (tgt := 36) hx hb dX5_placesWhere_23 (by decide) (fun c8 => ?_) (fun c8 => ?_)
      · have hj := if_t c8 hj
        refine lv_aload_n hx hb dX5_placesWhere_36 rfl (lv_at hl 2 rfl) ?_
        obtain ⟨v9, g_v9, hj⟩ := Option.bind_eq_some_iff.mp hj
        refine r_getR cx hP g_v9 iX5 rfl (by decide) mF_X5_11 dX5_placesWhere_37 ?_
        refine lv_iload_n hx hb dX5_placesWhere_40 rfl (lv_at hl 5 rfl) ?_
        obtain ⟨b10, e_b10, hj⟩ := Option.bind_eq_some_iff.mp hj
        subst e_b10
        obtain ⟨v11, g_v11, hj⟩ := Option.bind_eq_some_iff.mp hj
        refine r_aldR cx hP (k := 3) rfl g_v11 dX5_placesWhere_41 ?_
        exact J_42 p2 p3 s0 v7 v11 H locs ls hj hP hS (lv_sub hl [4, 5, 1, 0] rfl)
      · have hj := if_f c8 hj
        refine lv_aload_n hx hb dX5_placesWhere_26 rfl (lv_at hl 2 rfl) ?_
        obtain ⟨v12, g_v12, hj⟩ := Option.bind_eq_some_iff.mp hj
        refine r_getR cx hP g_v12 iX5 rfl (by decide) mF_X5_11 dX5_placesWhere_27 ?_
        refine lv_bipush (v := 12) hx hb dX5_placesWhere_30 (by decide) ?_
        obtain ⟨b13, e_b13, hj⟩ := Option.bind_eq_some_iff.mp hj
        subst e_b13
        obtain ⟨v14, g_v14, hj⟩ := Option.bind_eq_some_iff.mp hj
        refine r_aldR cx hP (k := 3) rfl g_v14 dX5_placesWhere_32 ?_
        refine lv_goto (tgt := 42) hx hb dX5_placesWhere_33 (by decide) ?_
        exact J_42 p2 p3 s0 v7 v14 H locs ls hj hP hS (lv_sub hl [4, 5, 1, 0] rfl)
    intro H locs hP hS
    refine lv_iload_n hx hb dX5_placesWhere_0 rfl (lv_at hl 3 rfl) ?_
    refine lv_bipush (v := 16) hx hb dX5_placesWhere_1 (by decide) ?_
    refine lv_icmp_lt (tgt := 10) hx hb dX5_placesWhere_3 (by decide) (fun c15 => ?_) (fun c15 => ?_)
    · have hj := if_t c15 hj
      refine lv_iconst (v := 0) hx hb dX5_placesWhere_10 (by decide) ?_
      exact J_11 a0 a1 a2 a3 (0 : Int32) H locs ls hj hP hS (lv_sub hl [0, 1, 2, 3] rfl)
    · have hj := if_f c15 hj
      refine lv_iconst (v := 1) hx hb dX5_placesWhere_6 (by decide) ?_
      refine lv_goto (tgt := 11) hx hb dX5_placesWhere_7 (by decide) ?_
      exact J_11 a0 a1 a2 a3 (1 : Int32) H locs ls hj hP hS (lv_sub hl [0, 1, 2, 3] rfl)
  exact hgo _ _ hP hS
set_option maxHeartbeats 4000000 in
set_option maxRecDepth 100000 in
theorem c_X5_compared (l : Launch) (X : hX) (g : Nat) (M : hm) (a0 : Nat) (a1 : Int32) (a2 : Int32) (a3 : Int32) (RR : hm × Int32) (hj : j_X5_compared g M a0 a1 a2 a3 = some RR) : Ct l X yX5_compared cX5_compared 4 (some .int) { frames := 6, cells := 0, slots := 0, locals := 157 } [.ref a0, .int a1, .int a2, .int a3] M (qI X RR) := by
  refine h_enter (own := RX5) (by decide) rfl (Nat.le_of_ble_eq_true rfl) ?_
  intro p e s m below meth c ls cx hr hlocks hnm hP hS hl
  have hx := cx.1
  have hb := cx.2.1
  have hl : lv_has ls 4 [(0, .ref a0), (1, .int a1), (2, .int a2), (3, .int a3)] := hl
  unfold j_X5_compared at hj
  have hgo : ∀ (H : Heap) (locs : List Loc), hp X M H → va_S (hA X) s.heap H locs → W p l e ({ frames := 6, cells := 0, slots := 0, locals := 157 } : Room) s m _ below meth c H locs 0 0 (MQ below (qI X RR) _ s 0 0 (hA X)) (F0 m 0 ls []) := by
    have J_21 : ∀ (M : hm) (H : Heap) (locs : List Loc) (ls : Array Slot), j_X5_compared_21 g M = some RR → hp X M H → va_S (hA X) s.heap H locs → lv_has ls 4 [] → W p l e ({ frames := 6, cells := 0, slots := 0, locals := 157 } : Room) s m _ below meth c H locs 0 0 (MQ below (qI X RR) _ s 0 0 (hA X)) (F0 m 21 ls []) := by
      intro M H locs ls hj hP hS hl
      unfold j_X5_compared_21 at hj
      refine lv_iconst (v := -1) hx hb dX5_compared_21 (by decide) ?_
      exact t_I cx hr hlocks hP hS (Option.some.inj hj) (Nat.le_of_ble_eq_true rfl) (Nat.le_of_ble_eq_true rfl) dX5_compared_22
    intro H locs hP hS
    refine lv_iload_n hx hb dX5_compared_0 rfl (lv_at hl 1 rfl) ?_
    obtain ⟨v1, g_v1, hj⟩ := Option.bind_eq_some_iff.mp hj
    refine f_I (k_S (As := [.int a1]) (n := 1) (rest := []) cx hl.1 hP hS (c_X5_isColumn l X g M a1 v1 g_v1) mC_X5_isColumn mM_X5_86 mT_X5_isColumn mZ_X5 (by decide +kernel) ⟨Nat.le_of_ble_eq_true rfl, Nat.le_of_ble_eq_true rfl⟩ rfl rfl (Nat.le_of_ble_eq_true rfl) dX5_compared_1 ⟨Nat.le_of_ble_eq_true rfl, Nat.le_of_ble_eq_true rfl⟩) hS (fun H locs hP hS => ?_)
    have hP : hp X M H := hP
    refine W.eq (g2 := F0 m 4 ls [.int v1]) rfl ?_
    refine W.widen (k := 0) (n := 0) (Nat.le_of_ble_eq_true rfl) (Nat.le_of_ble_eq_true rfl) ?_
    refine lv_if_eq (tgt := 21) hx hb dX5_compared_4 (by decide) (fun c2 => ?_) (fun c2 => ?_)
    · have hj := if_t c2 hj
      exact J_21 M H locs ls hj hP hS (lv_sub hl [] rfl)
    · have hj := if_f c2 hj
      refine lv_iload_n hx hb dX5_compared_7 rfl (lv_at hl 2 rfl) ?_
      obtain ⟨v3, g_v3, hj⟩ := Option.bind_eq_some_iff.mp hj
      refine f_I (k_S (As := [.int a2]) (n := 1) (rest := []) cx hl.1 hP hS (c_X5_isComparison l X g M a2 v3 g_v3) mC_X5_isComparison mM_X5_89 mT_X5_isComparison mZ_X5 (by decide +kernel) ⟨Nat.le_of_ble_eq_true rfl, Nat.le_of_ble_eq_true rfl⟩ rfl rfl (Nat.le_of_ble_eq_true rfl) dX5_compared_8 ⟨Nat.le_of_ble_eq_true rfl, Nat.le_of_ble_eq_true rfl⟩) hS (fun H locs hP hS => ?_)
      have hP : hp X M H := hP
      refine W.eq (g2 := F0 m 11 ls [.int v3]) rfl ?_
      refine W.widen (k := 0) (n := 0) (Nat.le_of_ble_eq_true rfl) (Nat.le_of_ble_eq_true rfl) ?_
      refine lv_if_eq (tgt := 21) hx hb dX5_compared_11 (by decide) (fun c4 => ?_) (fun c4 => ?_)
      · have hj := if_t c4 hj
        exact J_21 M H locs ls hj hP hS (lv_sub hl [] rfl)
      · have hj := if_f c4 hj
        refine lv_iload_n hx hb dX5_compared_14 rfl (lv_at hl 3 rfl) ?_
        obtain ⟨v5, g_v5, hj⟩ := Option.bind_eq_some_iff.mp hj
        refine f_I (k_S (As := [.int a3]) (n := 1) (rest := []) cx hl.1 hP hS (c_X5_isColumn l X g M a3 v5 g_v5) mC_X5_isColumn mM_X5_86 mT_X5_isColumn mZ_X5 (by decide +kernel) ⟨Nat.le_of_ble_eq_true rfl, Nat.le_of_ble_eq_true rfl⟩ rfl rfl (Nat.le_of_ble_eq_true rfl) dX5_compared_15 ⟨Nat.le_of_ble_eq_true rfl, Nat.le_of_ble_eq_true rfl⟩) hS (fun H locs hP hS => ?_)
        have hP : hp X M H := hP
        refine W.eq (g2 := F0 m 18 ls [.int v5]) rfl ?_
        refine W.widen (k := 0) (n := 0) (Nat.le_of_ble_eq_true rfl) (Nat.le_of_ble_eq_true rfl) ?_
        refine lv_if_ne (tgt := 23) hx hb dX5_compared_18 (by decide) (fun c6 => ?_) (fun c6 => ?_)
        · have hj := if_f c6 hj
          refine lv_aload_n hx hb dX5_compared_23 rfl (lv_at hl 0 rfl) ?_
          obtain ⟨_, o7, hj⟩ := Option.bind_eq_some_iff.mp hj
          obtain ⟨M8, g_M8, hj⟩ := Option.bind_eq_some_iff.mp hj
          refine f_V (k_V (b := a0) (As := []) (n := 0) (rest := []) cx hl.1 hP hS (c_X5_settle l X g M a0 M8 g_M8) o7 rfl mC_X5_settle mM_X5_107 mI_X5_settle mS_X5_settle mZ_X5 (by decide +kernel) ⟨Nat.le_of_ble_eq_true rfl, Nat.le_of_ble_eq_true rfl⟩ rfl rfl (Nat.le_of_ble_eq_true rfl) dX5_compared_24 ⟨Nat.le_of_ble_eq_true rfl, Nat.le_of_ble_eq_true rfl⟩) hS (fun H locs hP hS => ?_)
          have hP : hp X M8 H := hP
          refine W.eq (g2 := F0 m 27 ls []) rfl ?_
          refine W.widen (k := 0) (n := 0) (Nat.le_of_ble_eq_true rfl) (Nat.le_of_ble_eq_true rfl) ?_
          refine lv_aload_n hx hb dX5_compared_27 rfl (lv_at hl 0 rfl) ?_
          refine lv_iload_n hx hb dX5_compared_28 rfl (lv_at hl 1 rfl) ?_
          refine lv_iload_n hx hb dX5_compared_29 rfl (lv_at hl 2 rfl) ?_
          refine lv_iload_n hx hb dX5_compared_30 rfl (lv_at hl 3 rfl) ?_
          obtain ⟨_, o9, hj⟩ := Option.bind_eq_some_iff.mp hj
          obtain ⟨v10, g_v10, hj⟩ := Option.bind_eq_some_iff.mp hj
          refine f_I (k_V (b := a0) (As := [.int a1, .int a2, .int a3]) (n := 3) (rest := []) cx hl.1 hP hS (c_X5_placesWhere l X g M8 a0 a1 a2 a3 v10 g_v10) o9 rfl mC_X5_placesWhere mM_X5_138 mI_X5_placesWhere mS_X5_placesWhere mZ_X5 (by decide +kernel) ⟨Nat.le_of_ble_eq_true rfl, Nat.le_of_ble_eq_true rfl⟩ rfl rfl (Nat.le_of_ble_eq_true rfl) dX5_compared_31 ⟨Nat.le_of_ble_eq_true rfl, Nat.le_of_ble_eq_true rfl⟩) hS (fun H locs hP hS => ?_)
          have hP : hp X M8 H := hP
          refine W.eq (g2 := F0 m 34 ls [.int v10]) rfl ?_
          refine W.widen (k := 0) (n := 0) (Nat.le_of_ble_eq_true rfl) (Nat.le_of_ble_eq_true rfl) ?_
          obtain ⟨v11, g_v11, hj⟩ := Option.bind_eq_some_iff.mp hj
          refine f_I (k_S (As := [.int v10]) (n := 1) (rest := []) cx hl.1 hP hS (c_J6_bitCount_0f7a4 l X g M8 v10 v11 g_v11) mC_J6_bitCount_0f7a4 mM_X5_167 mT_J6_bitCount_0f7a4 mZ_J6 (by decide +kernel) ⟨Nat.le_of_ble_eq_true rfl, Nat.le_of_ble_eq_true rfl⟩ rfl rfl (Nat.le_of_ble_eq_true rfl) dX5_compared_34 ⟨Nat.le_of_ble_eq_true rfl, Nat.le_of_ble_eq_true rfl⟩) hS (fun H locs hP hS => ?_)
          have hP : hp X M8 H := hP
          refine W.eq (g2 := F0 m 37 ls [.int v11]) rfl ?_
          refine W.widen (k := 0) (n := 0) (Nat.le_of_ble_eq_true rfl) (Nat.le_of_ble_eq_true rfl) ?_
          exact t_I cx hr hlocks hP hS (Option.some.inj hj) (Nat.le_of_ble_eq_true rfl) (Nat.le_of_ble_eq_true rfl) dX5_compared_37
        · have hj := if_t c6 hj
          exact J_21 M H locs ls hj hP hS (lv_sub hl [] rfl)
  exact hgo _ _ hP hS
set_option maxHeartbeats 4000000 in
set_option maxRecDepth 100000 in
theorem c_X5_isExponent (l : Launch) (X : hX) (g : Nat) (M : hm) (a0 : Int32) (RR : Int32) (hj : j_X5_isExponent g a0 = some RR) : Ct l X yX5_isExponent cX5_isExponent 1 (some .boolean) { frames := 0, cells := 0, slots := 0, locals := 0 } [.int a0] M (qI X (M, RR)) := by
  refine h_enter (own := RX5) (by decide) rfl (Nat.le_of_ble_eq_true rfl) ?_
  intro p e s m below meth c ls cx hr hlocks hnm hP hS hl
  have hx := cx.1
  have hb := cx.2.1
  have hl : lv_has ls 1 [(0, .int a0)] := hl
  unfold j_X5_isExponent at hj
  have hgo : ∀ (H : Heap) (locs : List Loc), hp X M H → va_S (hA X) s.heap H locs → W p l e ({ frames := 0, cells := 0, slots := 0, locals := 0 } : Room) s m _ below meth c H locs 0 0 (MQ below (qI X (M, RR)) _ s 0 0 (hA X)) (F0 m 0 ls []) := by
    have J_19 : ∀ (s0 : Int32) (H : Heap) (locs : List Loc) (ls : Array Slot), j_X5_isExponent_19 g s0 = some RR → hp X M H → va_S (hA X) s.heap H locs → lv_has ls 1 [] → W p l e ({ frames := 0, cells := 0, slots := 0, locals := 0 } : Room) s m _ below meth c H locs 0 0 (MQ below (qI X (M, RR)) _ s 0 0 (hA X)) (F0 m 19 ls [.int s0]) := by
      intro s0 H locs ls hj hP hS hl
      unfold j_X5_isExponent_19 at hj
      obtain ⟨z1, g_z1, hj⟩ := Option.bind_eq_some_iff.mp hj
      exact t_Z cx hr hlocks hP hS (zb_eq g_z1).1 (congrArg (Prod.mk M) (Option.some.inj hj)) (Nat.le_of_ble_eq_true rfl) (Nat.le_of_ble_eq_true rfl) dX5_isExponent_19
    have J_18 : ∀ (H : Heap) (locs : List Loc) (ls : Array Slot), j_X5_isExponent_18 g  = some RR → hp X M H → va_S (hA X) s.heap H locs → lv_has ls 1 [] → W p l e ({ frames := 0, cells := 0, slots := 0, locals := 0 } : Room) s m _ below meth c H locs 0 0 (MQ below (qI X (M, RR)) _ s 0 0 (hA X)) (F0 m 18 ls []) := by
      intro  H locs ls hj hP hS hl
      unfold j_X5_isExponent_18 at hj
      refine lv_iconst (v := 0) hx hb dX5_isExponent_18 (by decide) ?_
      exact J_19 (0 : Int32) H locs ls hj hP hS (lv_sub hl [] rfl)
    intro H locs hP hS
    refine lv_iload_n hx hb dX5_isExponent_0 rfl (lv_at hl 0 rfl) ?_
    refine lv_sipush (v := -1000) hx hb dX5_isExponent_1 (by decide) ?_
    refine lv_icmp_lt (tgt := 18) hx hb dX5_isExponent_4 (by decide) (fun c2 => ?_) (fun c2 => ?_)
    · have hj := if_t c2 hj
      exact J_18  H locs ls hj hP hS (lv_sub hl [] rfl)
    · have hj := if_f c2 hj
      refine lv_iload_n hx hb dX5_isExponent_7 rfl (lv_at hl 0 rfl) ?_
      refine lv_sipush (v := 900) hx hb dX5_isExponent_8 (by decide) ?_
      refine lv_icmp_gt (tgt := 18) hx hb dX5_isExponent_11 (by decide) (fun c3 => ?_) (fun c3 => ?_)
      · have hj := if_t c3 hj
        exact J_18  H locs ls hj hP hS (lv_sub hl [] rfl)
      · have hj := if_f c3 hj
        refine lv_iconst (v := 1) hx hb dX5_isExponent_14 (by decide) ?_
        refine lv_goto (tgt := 19) hx hb dX5_isExponent_15 (by decide) ?_
        exact J_19 (1 : Int32) H locs ls hj hP hS (lv_sub hl [] rfl)
  exact hgo _ _ hP hS
set_option maxHeartbeats 4000000 in
set_option maxRecDepth 100000 in
theorem c_X5_isFull (l : Launch) (X : hX) (g : Nat) (M : hm) (a0 : Nat) (RR : Int32) (hj : j_X5_isFull g M a0 = some RR) : Ct l X yX5_isFull cX5_isFull 1 (some .boolean) { frames := 0, cells := 0, slots := 0, locals := 0 } [.ref a0] M (qI X (M, RR)) := by
  refine h_enter (own := RX5) (by decide) rfl (Nat.le_of_ble_eq_true rfl) ?_
  intro p e s m below meth c ls cx hr hlocks hnm hP hS hl
  have hx := cx.1
  have hb := cx.2.1
  have hl : lv_has ls 1 [(0, .ref a0)] := hl
  unfold j_X5_isFull at hj
  have hgo : ∀ (H : Heap) (locs : List Loc), hp X M H → va_S (hA X) s.heap H locs → W p l e ({ frames := 0, cells := 0, slots := 0, locals := 0 } : Room) s m _ below meth c H locs 0 0 (MQ below (qI X (M, RR)) _ s 0 0 (hA X)) (F0 m 0 ls []) := by
    have J_15 : ∀ (s0 : Int32) (H : Heap) (locs : List Loc) (ls : Array Slot), j_X5_isFull_15 g M s0 = some RR → hp X M H → va_S (hA X) s.heap H locs → lv_has ls 1 [] → W p l e ({ frames := 0, cells := 0, slots := 0, locals := 0 } : Room) s m _ below meth c H locs 0 0 (MQ below (qI X (M, RR)) _ s 0 0 (hA X)) (F0 m 15 ls [.int s0]) := by
      intro s0 H locs ls hj hP hS hl
      unfold j_X5_isFull_15 at hj
      obtain ⟨z1, g_z1, hj⟩ := Option.bind_eq_some_iff.mp hj
      exact t_Z cx hr hlocks hP hS (zb_eq g_z1).1 (congrArg (Prod.mk M) (Option.some.inj hj)) (Nat.le_of_ble_eq_true rfl) (Nat.le_of_ble_eq_true rfl) dX5_isFull_15
    intro H locs hP hS
    refine lv_aload_n hx hb dX5_isFull_0 rfl (lv_at hl 0 rfl) ?_
    obtain ⟨v2, g_v2, hj⟩ := Option.bind_eq_some_iff.mp hj
    refine r_getI cx hP g_v2 iX5 rfl (by decide) mF_X5_33 dX5_isFull_1 ?_
    refine lv_sipush (v := 512) hx hb dX5_isFull_4 (by decide) ?_
    refine lv_icmp_lt (tgt := 14) hx hb dX5_isFull_7 (by decide) (fun c3 => ?_) (fun c3 => ?_)
    · have hj := if_t c3 hj
      refine lv_iconst (v := 0) hx hb dX5_isFull_14 (by decide) ?_
      exact J_15 (0 : Int32) H locs ls hj hP hS (lv_sub hl [] rfl)
    · have hj := if_f c3 hj
      refine lv_iconst (v := 1) hx hb dX5_isFull_10 (by decide) ?_
      refine lv_goto (tgt := 15) hx hb dX5_isFull_11 (by decide) ?_
      exact J_15 (1 : Int32) H locs ls hj hP hS (lv_sub hl [] rfl)
  exact hgo _ _ hP hS
