set_option maxHeartbeats 4000000 in
set_option maxRecDepth 100000 in
theorem c_X6_isIn (l : Launch) (X : hX) (g : Nat) (M : hm) (a0 : Int32) (a1 : Int32) (a2 : Int32) (RR : Int32) (hj : j_X6_isIn g a0 a1 a2 = some RR) : Ct l X yX6_isIn cX6_isIn 3 (some .boolean) { frames := 0, cells := 0, slots := 0, locals := 0 } [.int a0, .int a1, .int a2] M (qI X (M, RR)) := by
  refine h_enter (own := RX6) (by decide) rfl (Nat.le_of_ble_eq_true rfl) ?_
  intro p e s m below meth c ls cx hr hlocks hnm hP hS hl
  have hx := cx.1
  have hb := cx.2.1
  have hl : lv_has ls 3 [(0, .int a0), (1, .int a1), (2, .int a2)] := hl
  unfold j_X6_isIn at hj
  have hgo : ∀ (H : Heap) (locs : List Loc), hp X M H → va_S (hA X) s.heap H locs → W p l e ({ frames := 0, cells := 0, slots := 0, locals := 0 } : Room) s m _ below meth c H locs 0 0 (MQ below (qI X (M, RR)) _ s 0 0 (hA X)) (F0 m 0 ls []) := by
    have J_15 : ∀ (s0 : Int32) (H : Heap) (locs : List Loc) (ls : Array Slot), j_X6_isIn_15 g s0 = some RR → hp X M H → va_S (hA X) s.heap H locs → lv_has ls 3 [] → W p l e ({ frames := 0, cells := 0, slots := 0, locals := 0 } : Room) s m _ below meth c H locs 0 0 (MQ below (qI X (M, RR)) _ s 0 0 (hA X)) (F0 m 15 ls [.int s0]) := by
      intro s0 H locs ls hj hP hS hl
      unfold j_X6_isIn_15 at hj
      obtain ⟨z1, g_z1, hj⟩ := Option.bind_eq_some_iff.mp hj
      exact t_Z cx hr hlocks hP hS (zb_eq g_z1).1 (congrArg (Prod.mk M) (Option.some.inj hj)) (Nat.le_of_ble_eq_true rfl) (Nat.le_of_ble_eq_true rfl) dX6_isIn_15
    have J_14 : ∀ (H : Heap) (locs : List Loc) (ls : Array Slot), j_X6_isIn_14 g  = some RR → hp X M H → va_S (hA X) s.heap H locs → lv_has ls 3 [] → W p l e ({ frames := 0, cells := 0, slots := 0, locals := 0 } : Room) s m _ below meth c H locs 0 0 (MQ below (qI X (M, RR)) _ s 0 0 (hA X)) (F0 m 14 ls []) := by
      intro  H locs ls hj hP hS hl
      unfold j_X6_isIn_14 at hj
      refine lv_iconst (v := 0) hx hb dX6_isIn_14 (by decide) ?_
      exact J_15 (0 : Int32) H locs ls hj hP hS (lv_sub hl [] rfl)
    intro H locs hP hS
    refine lv_iload_n hx hb dX6_isIn_0 rfl (lv_at hl 0 rfl) ?_
    refine lv_iload_n hx hb dX6_isIn_1 rfl (lv_at hl 1 rfl) ?_
    refine lv_icmp_lt (tgt := 14) hx hb dX6_isIn_2 (by decide) (fun c2 => ?_) (fun c2 => ?_)
    · have hj := if_t c2 hj
      exact J_14  H locs ls hj hP hS (lv_sub hl [] rfl)
    · have hj := if_f c2 hj
      refine lv_iload_n hx hb dX6_isIn_5 rfl (lv_at hl 0 rfl) ?_
      refine lv_iload_n hx hb dX6_isIn_6 rfl (lv_at hl 2 rfl) ?_
      refine lv_icmp_gt (tgt := 14) hx hb dX6_isIn_7 (by decide) (fun c3 => ?_) (fun c3 => ?_)
      · have hj := if_t c3 hj
        exact J_14  H locs ls hj hP hS (lv_sub hl [] rfl)
      · have hj := if_f c3 hj
        refine lv_iconst (v := 1) hx hb dX6_isIn_10 (by decide) ?_
        refine lv_goto (tgt := 15) hx hb dX6_isIn_11 (by decide) ?_
        exact J_15 (1 : Int32) H locs ls hj hP hS (lv_sub hl [] rfl)
  exact hgo _ _ hP hS
set_option maxHeartbeats 4000000 in
set_option maxRecDepth 100000 in
theorem c_X6_alarm (l : Launch) (X : hX) (g : Nat) (M : hm) (a0 : Nat) (a1 : Int32) (a2 : Int32) (a3 : Int32) (RR : hm × Int32) (hj : j_X6_alarm g M a0 a1 a2 a3 = some RR) : Ct l X yX6_alarm cX6_alarm 4 (some .int) { frames := 1, cells := 0, slots := 0, locals := 22 } [.ref a0, .int a1, .int a2, .int a3] M (qI X RR) := by
  refine h_enter (own := RX6) (by decide) rfl (Nat.le_of_ble_eq_true rfl) ?_
  intro p e s m below meth c ls cx hr hlocks hnm hP hS hl
  have hx := cx.1
  have hb := cx.2.1
  have hl : lv_has ls 4 [(0, .ref a0), (1, .int a1), (2, .int a2), (3, .int a3)] := hl
  unfold j_X6_alarm at hj
  have hgo : ∀ (H : Heap) (locs : List Loc), hp X M H → va_S (hA X) s.heap H locs → W p l e ({ frames := 1, cells := 0, slots := 0, locals := 22 } : Room) s m _ below meth c H locs 0 0 (MQ below (qI X RR) _ s 0 0 (hA X)) (F0 m 0 ls []) := by
    have J_50 : ∀ (M : hm) (H : Heap) (locs : List Loc) (ls : Array Slot), j_X6_alarm_50 g M = some RR → hp X M H → va_S (hA X) s.heap H locs → lv_has ls 4 [] → W p l e ({ frames := 1, cells := 0, slots := 0, locals := 22 } : Room) s m _ below meth c H locs 0 0 (MQ below (qI X RR) _ s 0 0 (hA X)) (F0 m 50 ls []) := by
      intro M H locs ls hj hP hS hl
      unfold j_X6_alarm_50 at hj
      refine lv_iconst (v := -1) hx hb dX6_alarm_50 (by decide) ?_
      exact t_I cx hr hlocks hP hS (Option.some.inj hj) (Nat.le_of_ble_eq_true rfl) (Nat.le_of_ble_eq_true rfl) dX6_alarm_51
    have J_41 : ∀ (M : hm) (p0 : Nat) (p1 : Int32) (p2 : Int32) (p3 : Int32) (H : Heap) (locs : List Loc) (ls : Array Slot), j_X6_alarm_41 g M p0 p1 p2 p3 = some RR → hp X M H → va_S (hA X) s.heap H locs → lv_has ls 4 [(0, .ref p0), (1, .int p1), (2, .int p2), (3, .int p3)] → W p l e ({ frames := 1, cells := 0, slots := 0, locals := 22 } : Room) s m _ below meth c H locs 0 0 (MQ below (qI X RR) _ s 0 0 (hA X)) (F0 m 41 ls []) := by
      intro M p0 p1 p2 p3 H locs ls hj hP hS hl
      unfold j_X6_alarm_41 at hj
      refine lv_aload_n hx hb dX6_alarm_41 rfl (lv_at hl 0 rfl) ?_
      obtain ⟨v1, g_v1, hj⟩ := Option.bind_eq_some_iff.mp hj
      refine r_getI cx hP g_v1 iX6 rfl (by decide) mF_X6_229 dX6_alarm_42 ?_
      refine lv_bipush (v := 10) hx hb dX6_alarm_45 (by decide) ?_
      refine lv_icmp_ne (tgt := 52) hx hb dX6_alarm_47 (by decide) (fun c2 => ?_) (fun c2 => ?_)
      · have hj := if_f c2 hj
        refine lv_aload_n hx hb dX6_alarm_52 rfl (lv_at hl 0 rfl) ?_
        obtain ⟨v3, g_v3, hj⟩ := Option.bind_eq_some_iff.mp hj
        refine r_getR cx hP g_v3 iX6 rfl (by decide) mF_X6_45 dX6_alarm_53 ?_
        refine lv_iconst (v := 3) hx hb dX6_alarm_56 (by decide) ?_
        refine lv_aload_n hx hb dX6_alarm_57 rfl (lv_at hl 0 rfl) ?_
        obtain ⟨v4, g_v4, hj⟩ := Option.bind_eq_some_iff.mp hj
        refine r_getI cx hP g_v4 iX6 rfl (by decide) mF_X6_229 dX6_alarm_58 ?_
        refine lv_imul hx hb dX6_alarm_61 ?_
        refine lv_iload_n hx hb dX6_alarm_62 rfl (lv_at hl 1 rfl) ?_
        obtain ⟨b5, e_b5, hj⟩ := Option.bind_eq_some_iff.mp hj
        subst e_b5
        obtain ⟨M6, g_M6, hj⟩ := Option.bind_eq_some_iff.mp hj
        refine r_astI cx hP hS g_M6 dX6_alarm_63 (fun H locs hP hS => ?_)
        refine lv_aload_n hx hb dX6_alarm_64 rfl (lv_at hl 0 rfl) ?_
        obtain ⟨v7, g_v7, hj⟩ := Option.bind_eq_some_iff.mp hj
        refine r_getR cx hP g_v7 iX6 rfl (by decide) mF_X6_45 dX6_alarm_65 ?_
        refine lv_iconst (v := 3) hx hb dX6_alarm_68 (by decide) ?_
        refine lv_aload_n hx hb dX6_alarm_69 rfl (lv_at hl 0 rfl) ?_
        obtain ⟨v8, g_v8, hj⟩ := Option.bind_eq_some_iff.mp hj
        refine r_getI cx hP g_v8 iX6 rfl (by decide) mF_X6_229 dX6_alarm_70 ?_
        refine lv_imul hx hb dX6_alarm_73 ?_
        refine lv_iconst (v := 1) hx hb dX6_alarm_74 (by decide) ?_
        refine lv_iadd hx hb dX6_alarm_75 ?_
        refine lv_iload_n hx hb dX6_alarm_76 rfl (lv_at hl 2 rfl) ?_
        obtain ⟨b9, e_b9, hj⟩ := Option.bind_eq_some_iff.mp hj
        subst e_b9
        obtain ⟨M10, g_M10, hj⟩ := Option.bind_eq_some_iff.mp hj
        refine r_astI cx hP hS g_M10 dX6_alarm_77 (fun H locs hP hS => ?_)
        refine lv_aload_n hx hb dX6_alarm_78 rfl (lv_at hl 0 rfl) ?_
        obtain ⟨v11, g_v11, hj⟩ := Option.bind_eq_some_iff.mp hj
        refine r_getR cx hP g_v11 iX6 rfl (by decide) mF_X6_45 dX6_alarm_79 ?_
        refine lv_iconst (v := 3) hx hb dX6_alarm_82 (by decide) ?_
        refine lv_aload_n hx hb dX6_alarm_83 rfl (lv_at hl 0 rfl) ?_
        obtain ⟨v12, g_v12, hj⟩ := Option.bind_eq_some_iff.mp hj
        refine r_getI cx hP g_v12 iX6 rfl (by decide) mF_X6_229 dX6_alarm_84 ?_
        refine lv_imul hx hb dX6_alarm_87 ?_
        refine lv_iconst (v := 2) hx hb dX6_alarm_88 (by decide) ?_
        refine lv_iadd hx hb dX6_alarm_89 ?_
        refine lv_iload_n hx hb dX6_alarm_90 rfl (lv_at hl 3 rfl) ?_
        obtain ⟨b13, e_b13, hj⟩ := Option.bind_eq_some_iff.mp hj
        subst e_b13
        obtain ⟨M14, g_M14, hj⟩ := Option.bind_eq_some_iff.mp hj
        refine r_astI cx hP hS g_M14 dX6_alarm_91 (fun H locs hP hS => ?_)
        refine lv_aload_n hx hb dX6_alarm_92 rfl (lv_at hl 0 rfl) ?_
        refine lv_dup hx hb dX6_alarm_93 rfl ?_
        obtain ⟨v15, g_v15, hj⟩ := Option.bind_eq_some_iff.mp hj
        refine r_getI cx hP g_v15 iX6 rfl (by decide) mF_X6_229 dX6_alarm_94 ?_
        refine lv_iconst (v := 1) hx hb dX6_alarm_97 (by decide) ?_
        refine lv_iadd hx hb dX6_alarm_98 ?_
        obtain ⟨M16, g_M16, hj⟩ := Option.bind_eq_some_iff.mp hj
        refine r_put cx hP hS g_M16 iX6 tyX6 tyX6_ok nmX6 rfl (by decide) mF_X6_229 rfl rfl rfl dX6_alarm_99 (fun H locs hP hS => ?_)
        refine lv_aload_n hx hb dX6_alarm_102 rfl (lv_at hl 0 rfl) ?_
        obtain ⟨v17, g_v17, hj⟩ := Option.bind_eq_some_iff.mp hj
        refine r_getI cx hP g_v17 iX6 rfl (by decide) mF_X6_229 dX6_alarm_103 ?_
        refine lv_iconst (v := 1) hx hb dX6_alarm_106 (by decide) ?_
        refine lv_isub hx hb dX6_alarm_107 ?_
        exact t_I cx hr hlocks hP hS (Option.some.inj hj) (Nat.le_of_ble_eq_true rfl) (Nat.le_of_ble_eq_true rfl) dX6_alarm_108
      · have hj := if_t c2 hj
        exact J_50 M H locs ls hj hP hS (lv_sub hl [] rfl)
    intro H locs hP hS
    refine lv_iload_n hx hb dX6_alarm_0 rfl (lv_at hl 1 rfl) ?_
    refine lv_iconst (v := 0) hx hb dX6_alarm_1 (by decide) ?_
    refine lv_bipush (v := 11) hx hb dX6_alarm_2 (by decide) ?_
    obtain ⟨v18, g_v18, hj⟩ := Option.bind_eq_some_iff.mp hj
    refine f_I (k_S (As := [.int a1, .int (0 : Int32), .int (11 : Int32)]) (n := 3) (rest := []) cx hl.1 hP hS (c_X6_isIn l X g M a1 (0 : Int32) (11 : Int32) v18 g_v18) mC_X6_isIn mM_X6_191 mT_X6_isIn mZ_X6 (by decide +kernel) ⟨Nat.le_of_ble_eq_true rfl, Nat.le_of_ble_eq_true rfl⟩ rfl rfl (Nat.le_of_ble_eq_true rfl) dX6_alarm_4 ⟨Nat.le_of_ble_eq_true rfl, Nat.le_of_ble_eq_true rfl⟩) hS (fun H locs hP hS => ?_)
    have hP : hp X M H := hP
    refine W.eq (g2 := F0 m 7 ls [.int v18]) rfl ?_
    refine W.widen (k := 0) (n := 0) (Nat.le_of_ble_eq_true rfl) (Nat.le_of_ble_eq_true rfl) ?_
    refine lv_if_eq (tgt := 50) hx hb dX6_alarm_7 (by decide) (fun c19 => ?_) (fun c19 => ?_)
    · have hj := if_t c19 hj
      exact J_50 M H locs ls hj hP hS (lv_sub hl [] rfl)
    · have hj := if_f c19 hj
      refine lv_iload_n hx hb dX6_alarm_10 rfl (lv_at hl 2 rfl) ?_
      refine lv_iconst (v := 0) hx hb dX6_alarm_11 (by decide) ?_
      refine lv_bipush (v := 11) hx hb dX6_alarm_12 (by decide) ?_
      obtain ⟨v20, g_v20, hj⟩ := Option.bind_eq_some_iff.mp hj
      refine f_I (k_S (As := [.int a2, .int (0 : Int32), .int (11 : Int32)]) (n := 3) (rest := []) cx hl.1 hP hS (c_X6_isIn l X g M a2 (0 : Int32) (11 : Int32) v20 g_v20) mC_X6_isIn mM_X6_191 mT_X6_isIn mZ_X6 (by decide +kernel) ⟨Nat.le_of_ble_eq_true rfl, Nat.le_of_ble_eq_true rfl⟩ rfl rfl (Nat.le_of_ble_eq_true rfl) dX6_alarm_14 ⟨Nat.le_of_ble_eq_true rfl, Nat.le_of_ble_eq_true rfl⟩) hS (fun H locs hP hS => ?_)
      have hP : hp X M H := hP
      refine W.eq (g2 := F0 m 17 ls [.int v20]) rfl ?_
      refine W.widen (k := 0) (n := 0) (Nat.le_of_ble_eq_true rfl) (Nat.le_of_ble_eq_true rfl) ?_
      refine lv_if_eq (tgt := 50) hx hb dX6_alarm_17 (by decide) (fun c21 => ?_) (fun c21 => ?_)
      · have hj := if_t c21 hj
        exact J_50 M H locs ls hj hP hS (lv_sub hl [] rfl)
      · have hj := if_f c21 hj
        refine lv_iload_n hx hb dX6_alarm_20 rfl (lv_at hl 3 rfl) ?_
        refine lv_iconst (v := 0) hx hb dX6_alarm_21 (by decide) ?_
        refine lv_bipush (v := 11) hx hb dX6_alarm_22 (by decide) ?_
        obtain ⟨v22, g_v22, hj⟩ := Option.bind_eq_some_iff.mp hj
        refine f_I (k_S (As := [.int a3, .int (0 : Int32), .int (11 : Int32)]) (n := 3) (rest := []) cx hl.1 hP hS (c_X6_isIn l X g M a3 (0 : Int32) (11 : Int32) v22 g_v22) mC_X6_isIn mM_X6_191 mT_X6_isIn mZ_X6 (by decide +kernel) ⟨Nat.le_of_ble_eq_true rfl, Nat.le_of_ble_eq_true rfl⟩ rfl rfl (Nat.le_of_ble_eq_true rfl) dX6_alarm_24 ⟨Nat.le_of_ble_eq_true rfl, Nat.le_of_ble_eq_true rfl⟩) hS (fun H locs hP hS => ?_)
        have hP : hp X M H := hP
        refine W.eq (g2 := F0 m 27 ls [.int v22]) rfl ?_
        refine W.widen (k := 0) (n := 0) (Nat.le_of_ble_eq_true rfl) (Nat.le_of_ble_eq_true rfl) ?_
        refine lv_if_ne (tgt := 41) hx hb dX6_alarm_27 (by decide) (fun c23 => ?_) (fun c23 => ?_)
        · have hj := if_f c23 hj
          exact J_41 M a0 a1 a2 a3 H locs ls hj hP hS (lv_sub hl [0, 1, 2, 3] rfl)
        · have hj := if_t c23 hj
          refine lv_iload_n hx hb dX6_alarm_30 rfl (lv_at hl 3 rfl) ?_
          refine lv_bipush (v := 16) hx hb dX6_alarm_31 (by decide) ?_
          refine lv_bipush (v := 23) hx hb dX6_alarm_33 (by decide) ?_
          obtain ⟨v24, g_v24, hj⟩ := Option.bind_eq_some_iff.mp hj
          refine f_I (k_S (As := [.int a3, .int (16 : Int32), .int (23 : Int32)]) (n := 3) (rest := []) cx hl.1 hP hS (c_X6_isIn l X g M a3 (16 : Int32) (23 : Int32) v24 g_v24) mC_X6_isIn mM_X6_191 mT_X6_isIn mZ_X6 (by decide +kernel) ⟨Nat.le_of_ble_eq_true rfl, Nat.le_of_ble_eq_true rfl⟩ rfl rfl (Nat.le_of_ble_eq_true rfl) dX6_alarm_35 ⟨Nat.le_of_ble_eq_true rfl, Nat.le_of_ble_eq_true rfl⟩) hS (fun H locs hP hS => ?_)
          have hP : hp X M H := hP
          refine W.eq (g2 := F0 m 38 ls [.int v24]) rfl ?_
          refine W.widen (k := 0) (n := 0) (Nat.le_of_ble_eq_true rfl) (Nat.le_of_ble_eq_true rfl) ?_
          refine lv_if_eq (tgt := 50) hx hb dX6_alarm_38 (by decide) (fun c25 => ?_) (fun c25 => ?_)
          · have hj := if_t c25 hj
            exact J_50 M H locs ls hj hP hS (lv_sub hl [] rfl)
          · have hj := if_f c25 hj
            exact J_41 M a0 a1 a2 a3 H locs ls hj hP hS (lv_sub hl [0, 1, 2, 3] rfl)
  exact hgo _ _ hP hS
set_option maxHeartbeats 4000000 in
set_option maxRecDepth 100000 in
theorem c_X6_manyBits (l : Launch) (X : hX) (g : Nat) (M : hm) (a0 : Int32) (RR : Int32) (hj : j_X6_manyBits g a0 = some RR) : Ct l X yX6_manyBits cX6_manyBits 3 (some .int) { frames := 0, cells := 0, slots := 0, locals := 0 } [.int a0] M (qI X (M, RR)) := by
  refine h_enter (own := RX6) (by decide) rfl (Nat.le_of_ble_eq_true rfl) ?_
  intro p e s m below meth c ls cx hr hlocks hnm hP hS hl
  have hx := cx.1
  have hb := cx.2.1
  have hl : lv_has ls 3 [(0, .int a0)] := hl
  unfold j_X6_manyBits at hj
  have hgo : ∀ (H : Heap) (locs : List Loc), hp X M H → va_S (hA X) s.heap H locs → W p l e ({ frames := 0, cells := 0, slots := 0, locals := 0 } : Room) s m _ below meth c H locs 0 0 (MQ below (qI X (M, RR)) _ s 0 0 (hA X)) (F0 m 0 ls []) := by
    have J_24 : ∀ (p1 : Int32) (H : Heap) (locs : List Loc) (ls : Array Slot), j_X6_manyBits_24 g p1 = some RR → hp X M H → va_S (hA X) s.heap H locs → lv_has ls 3 [(1, .int p1)] → W p l e ({ frames := 0, cells := 0, slots := 0, locals := 0 } : Room) s m _ below meth c H locs 0 0 (MQ below (qI X (M, RR)) _ s 0 0 (hA X)) (F0 m 24 ls []) := by
      intro p1 H locs ls hj hP hS hl
      unfold j_X6_manyBits_24 at hj
      refine lv_iload_n hx hb dX6_manyBits_24 rfl (lv_at hl 0 rfl) ?_
      exact t_I cx hr hlocks hP hS (congrArg (Prod.mk M) (Option.some.inj hj)) (Nat.le_of_ble_eq_true rfl) (Nat.le_of_ble_eq_true rfl) dX6_manyBits_25
    have L_4 : ∀ (n4 : Nat) (p0 : Int32) (p1 : Int32) (p2 : Int32) (H : Heap) (locs : List Loc) (ls : Array Slot), j_X6_manyBits_4 g n4 p0 p1 p2 = some RR → hp X M H → va_S (hA X) s.heap H locs → lv_has ls 3 [(0, .int p0), (1, .int p1), (2, .int p2)] → W p l e ({ frames := 0, cells := 0, slots := 0, locals := 0 } : Room) s m _ below meth c H locs 0 0 (MQ below (qI X (M, RR)) _ s 0 0 (hA X)) (F0 m 4 ls []) := by
      intro n4
      induction n4 with
      | zero =>
        intro p0 p1 p2 H locs ls hj
        exact no_zero hj
      | succ n4 ih_4 =>
        intro p0 p1 p2 H locs ls hj hP hS hl
        rw [j_X6_manyBits_4_s] at hj
        refine lv_iload_n hx hb dX6_manyBits_4 rfl (lv_at hl 2 rfl) ?_
        refine lv_bipush (v := 16) hx hb dX6_manyBits_5 (by decide) ?_
        refine lv_icmp_ge (tgt := 24) hx hb dX6_manyBits_7 (by decide) (fun c1 => ?_) (fun c1 => ?_)
        · have hj := if_t c1 hj
          exact J_24 p1 H locs ls hj hP hS (lv_sub hl [1] rfl)
        · have hj := if_f c1 hj
          refine lv_iload_n hx hb dX6_manyBits_10 rfl (lv_at hl 1 rfl) ?_
          refine lv_iload_n hx hb dX6_manyBits_11 rfl (lv_at hl 0 rfl) ?_
          refine lv_iload_n hx hb dX6_manyBits_12 rfl (lv_at hl 2 rfl) ?_
          refine lv_ishr hx hb dX6_manyBits_13 ?_
          refine lv_iconst (v := 1) hx hb dX6_manyBits_14 (by decide) ?_
          refine lv_iand hx hb dX6_manyBits_15 ?_
          refine lv_iadd hx hb dX6_manyBits_16 ?_
          refine lv_istore_n (lv' := [(1, .int (p1 + ((p0 >>> (p2 &&& 31)) &&& (1 : Int32)))), (0, .int p0), (2, .int p2)]) hx hb dX6_manyBits_17 rfl hl (by decide) rfl (fun ls hl => ?_)
          refine lv_iinc (v := (p2 + (1 : Int32))) (lv' := [(2, .int (p2 + (1 : Int32))), (1, .int (p1 + ((p0 >>> (p2 &&& 31)) &&& (1 : Int32)))), (0, .int p0)]) hx hb dX6_manyBits_18 hl (k := 2) rfl rfl (by decide) rfl (fun ls hl => ?_)
          refine lv_goto (tgt := 4) hx hb dX6_manyBits_21 (by decide) ?_
          exact ih_4 p0 (p1 + ((p0 >>> (p2 &&& 31)) &&& (1 : Int32))) (p2 + (1 : Int32)) H locs ls hj hP hS (lv_sub hl [2, 1, 0] rfl)
    intro H locs hP hS
    refine lv_iconst (v := 0) hx hb dX6_manyBits_0 (by decide) ?_
    refine lv_istore_n (lv' := [(1, .int (0 : Int32)), (0, .int a0)]) hx hb dX6_manyBits_1 rfl hl (by decide) rfl (fun ls hl => ?_)
    refine lv_iconst (v := 0) hx hb dX6_manyBits_2 (by decide) ?_
    refine lv_istore_n (lv' := [(2, .int (0 : Int32)), (1, .int (0 : Int32)), (0, .int a0)]) hx hb dX6_manyBits_3 rfl hl (by decide) rfl (fun ls hl => ?_)
    exact L_4 g a0 (0 : Int32) (0 : Int32) H locs ls hj hP hS (lv_sub hl [2, 1, 0] rfl)
  exact hgo _ _ hP hS
set_option maxHeartbeats 4000000 in
set_option maxRecDepth 100000 in
theorem c_X6_alarmed (l : Launch) (X : hX) (g : Nat) (M : hm) (a0 : Nat) (a1 : Int32) (a2 : Int32) (RR : Int32) (hj : j_X6_alarmed g M a0 a1 a2 = some RR) : Ct l X yX6_alarmed cX6_alarmed 4 (some .int) { frames := 1, cells := 0, slots := 0, locals := 22 } [.ref a0, .int a1, .int a2] M (qI X (M, RR)) := by
  refine h_enter (own := RX6) (by decide) rfl (Nat.le_of_ble_eq_true rfl) ?_
  intro p e s m below meth c ls cx hr hlocks hnm hP hS hl
  have hx := cx.1
  have hb := cx.2.1
  have hl : lv_has ls 4 [(0, .ref a0), (1, .int a1), (2, .int a2)] := hl
  unfold j_X6_alarmed at hj
  have hgo : ∀ (H : Heap) (locs : List Loc), hp X M H → va_S (hA X) s.heap H locs → W p l e ({ frames := 1, cells := 0, slots := 0, locals := 22 } : Room) s m _ below meth c H locs 0 0 (MQ below (qI X (M, RR)) _ s 0 0 (hA X)) (F0 m 0 ls []) := by
    have J_100 : ∀ (s0 : Int32) (H : Heap) (locs : List Loc) (ls : Array Slot), j_X6_alarmed_100 g M s0 = some RR → hp X M H → va_S (hA X) s.heap H locs → lv_has ls 4 [] → W p l e ({ frames := 1, cells := 0, slots := 0, locals := 22 } : Room) s m _ below meth c H locs 0 0 (MQ below (qI X (M, RR)) _ s 0 0 (hA X)) (F0 m 100 ls [.int s0]) := by
      intro s0 H locs ls hj hP hS hl
      unfold j_X6_alarmed_100 at hj
      exact t_I cx hr hlocks hP hS (congrArg (Prod.mk M) (Option.some.inj hj)) (Nat.le_of_ble_eq_true rfl) (Nat.le_of_ble_eq_true rfl) dX6_alarmed_100
    have J_89 : ∀ (p3 : Int32) (H : Heap) (locs : List Loc) (ls : Array Slot), j_X6_alarmed_89 g M p3 = some RR → hp X M H → va_S (hA X) s.heap H locs → lv_has ls 4 [(3, .int p3)] → W p l e ({ frames := 1, cells := 0, slots := 0, locals := 22 } : Room) s m _ below meth c H locs 0 0 (MQ below (qI X (M, RR)) _ s 0 0 (hA X)) (F0 m 89 ls []) := by
      intro p3 H locs ls hj hP hS hl
      unfold j_X6_alarmed_89 at hj
      refine lv_iload_n hx hb dX6_alarmed_89 rfl (lv_at hl 0 rfl) ?_
      refine lv_bipush (v := 16) hx hb dX6_alarmed_90 (by decide) ?_
      refine lv_icmp_ge (tgt := 99) hx hb dX6_alarmed_92 (by decide) (fun c1 => ?_) (fun c1 => ?_)
      · have hj := if_t c1 hj
        refine lv_iconst (v := -1) hx hb dX6_alarmed_99 (by decide) ?_
        exact J_100 (-1 : Int32) H locs ls hj hP hS (lv_sub hl [] rfl)
      · have hj := if_f c1 hj
        refine lv_iload_n hx hb dX6_alarmed_95 rfl (lv_at hl 0 rfl) ?_
        refine lv_goto (tgt := 100) hx hb dX6_alarmed_96 (by decide) ?_
        exact J_100 p3 H locs ls hj hP hS (lv_sub hl [] rfl)
    have L_64 : ∀ (n64 : Nat) (p0 : Nat) (p1 : Int32) (p3 : Int32) (H : Heap) (locs : List Loc) (ls : Array Slot), j_X6_alarmed_64 g M n64 p0 p1 p3 = some RR → hp X M H → va_S (hA X) s.heap H locs → lv_has ls 4 [(0, .ref p0), (1, .int p1), (3, .int p3)] → W p l e ({ frames := 1, cells := 0, slots := 0, locals := 22 } : Room) s m _ below meth c H locs 0 0 (MQ below (qI X (M, RR)) _ s 0 0 (hA X)) (F0 m 64 ls []) := by
      intro n64
      induction n64 with
      | zero =>
        intro p0 p1 p3 H locs ls hj
        exact no_zero hj
      | succ n64 ih_64 =>
        intro p0 p1 p3 H locs ls hj hP hS hl
        rw [j_X6_alarmed_64_s] at hj
        refine lv_iload_n hx hb dX6_alarmed_64 rfl (lv_at hl 2 rfl) ?_
        refine lv_bipush (v := 16) hx hb dX6_alarmed_65 (by decide) ?_
        refine lv_icmp_ge (tgt := 89) hx hb dX6_alarmed_67 (by decide) (fun c2 => ?_) (fun c2 => ?_)
        · have hj := if_t c2 hj
          exact J_89 p3 H locs ls hj hP hS (lv_sub hl [2] rfl)
        · have hj := if_f c2 hj
          refine lv_aload_n hx hb dX6_alarmed_70 rfl (lv_at hl 0 rfl) ?_
          obtain ⟨v3, g_v3, hj⟩ := Option.bind_eq_some_iff.mp hj
          refine r_getR cx hP g_v3 iX6 rfl (by decide) mF_X6_51 dX6_alarmed_71 ?_
          refine lv_iload_n hx hb dX6_alarmed_74 rfl (lv_at hl 1 rfl) ?_
          obtain ⟨b4, e_b4, hj⟩ := Option.bind_eq_some_iff.mp hj
          subst e_b4
          obtain ⟨v5, g_v5, hj⟩ := Option.bind_eq_some_iff.mp hj
          refine r_aldI cx hP g_v5 dX6_alarmed_75 ?_
          refine lv_iload_n hx hb dX6_alarmed_76 rfl (lv_at hl 2 rfl) ?_
          refine lv_ishr hx hb dX6_alarmed_77 ?_
          refine lv_iconst (v := 1) hx hb dX6_alarmed_78 (by decide) ?_
          refine lv_iand hx hb dX6_alarmed_79 ?_
          refine lv_if_ne (tgt := 89) hx hb dX6_alarmed_80 (by decide) (fun c6 => ?_) (fun c6 => ?_)
          · have hj := if_f c6 hj
            exact J_89 p3 H locs ls hj hP hS (lv_sub hl [2] rfl)
          · have hj := if_t c6 hj
            refine lv_iinc (v := (p3 + (1 : Int32))) (lv' := [(3, .int (p3 + (1 : Int32))), (0, .ref p0), (1, .int p1)]) hx hb dX6_alarmed_83 hl (k := 2) rfl rfl (by decide) rfl (fun ls hl => ?_)
            refine lv_goto (tgt := 64) hx hb dX6_alarmed_86 (by decide) ?_
            exact ih_64 p0 p1 (p3 + (1 : Int32)) H locs ls hj hP hS (lv_sub hl [1, 2, 0] rfl)
    have J_58 : ∀ (s0 : Int32) (H : Heap) (locs : List Loc) (ls : Array Slot), j_X6_alarmed_58 g M s0 = some RR → hp X M H → va_S (hA X) s.heap H locs → lv_has ls 4 [] → W p l e ({ frames := 1, cells := 0, slots := 0, locals := 22 } : Room) s m _ below meth c H locs 0 0 (MQ below (qI X (M, RR)) _ s 0 0 (hA X)) (F0 m 58 ls [.int s0]) := by
      intro s0 H locs ls hj hP hS hl
      unfold j_X6_alarmed_58 at hj
      obtain ⟨v7, g_v7, hj⟩ := Option.bind_eq_some_iff.mp hj
      refine f_I (k_S (As := [.int s0]) (n := 1) (rest := []) cx hl.1 hP hS (c_X6_manyBits l X g M s0 v7 g_v7) mC_X6_manyBits mM_X6_235 mT_X6_manyBits mZ_X6 (by decide +kernel) ⟨Nat.le_of_ble_eq_true rfl, Nat.le_of_ble_eq_true rfl⟩ rfl rfl (Nat.le_of_ble_eq_true rfl) dX6_alarmed_58 ⟨Nat.le_of_ble_eq_true rfl, Nat.le_of_ble_eq_true rfl⟩) hS (fun H locs hP hS => ?_)
      have hP : hp X M H := hP
      refine W.eq (g2 := F0 m 61 ls [.int v7]) rfl ?_
      refine W.widen (k := 0) (n := 0) (Nat.le_of_ble_eq_true rfl) (Nat.le_of_ble_eq_true rfl) ?_
      exact t_I cx hr hlocks hP hS (congrArg (Prod.mk M) (Option.some.inj hj)) (Nat.le_of_ble_eq_true rfl) (Nat.le_of_ble_eq_true rfl) dX6_alarmed_61
    have J_32 : ∀ (H : Heap) (locs : List Loc) (ls : Array Slot), j_X6_alarmed_32 g M  = some RR → hp X M H → va_S (hA X) s.heap H locs → lv_has ls 4 [] → W p l e ({ frames := 1, cells := 0, slots := 0, locals := 22 } : Room) s m _ below meth c H locs 0 0 (MQ below (qI X (M, RR)) _ s 0 0 (hA X)) (F0 m 32 ls []) := by
      intro  H locs ls hj hP hS hl
      unfold j_X6_alarmed_32 at hj
      refine lv_iconst (v := -1) hx hb dX6_alarmed_32 (by decide) ?_
      exact t_I cx hr hlocks hP hS (congrArg (Prod.mk M) (Option.some.inj hj)) (Nat.le_of_ble_eq_true rfl) (Nat.le_of_ble_eq_true rfl) dX6_alarmed_33
    intro H locs hP hS
    refine lv_iload_n hx hb dX6_alarmed_0 rfl (lv_at hl 1 rfl) ?_
    refine lv_iconst (v := 0) hx hb dX6_alarmed_1 (by decide) ?_
    refine lv_aload_n hx hb dX6_alarmed_2 rfl (lv_at hl 0 rfl) ?_
    obtain ⟨v8, g_v8, hj⟩ := Option.bind_eq_some_iff.mp hj
    refine r_getI cx hP g_v8 iX6 rfl (by decide) mF_X6_229 dX6_alarmed_3 ?_
    refine lv_iconst (v := 1) hx hb dX6_alarmed_6 (by decide) ?_
    refine lv_isub hx hb dX6_alarmed_7 ?_
    obtain ⟨v9, g_v9, hj⟩ := Option.bind_eq_some_iff.mp hj
    refine f_I (k_S (As := [.int a1, .int (0 : Int32), .int (v8 - (1 : Int32))]) (n := 3) (rest := []) cx hl.1 hP hS (c_X6_isIn l X g M a1 (0 : Int32) (v8 - (1 : Int32)) v9 g_v9) mC_X6_isIn mM_X6_191 mT_X6_isIn mZ_X6 (by decide +kernel) ⟨Nat.le_of_ble_eq_true rfl, Nat.le_of_ble_eq_true rfl⟩ rfl rfl (Nat.le_of_ble_eq_true rfl) dX6_alarmed_8 ⟨Nat.le_of_ble_eq_true rfl, Nat.le_of_ble_eq_true rfl⟩) hS (fun H locs hP hS => ?_)
    have hP : hp X M H := hP
    refine W.eq (g2 := F0 m 11 ls [.int v9]) rfl ?_
    refine W.widen (k := 0) (n := 0) (Nat.le_of_ble_eq_true rfl) (Nat.le_of_ble_eq_true rfl) ?_
    refine lv_if_eq (tgt := 32) hx hb dX6_alarmed_11 (by decide) (fun c10 => ?_) (fun c10 => ?_)
    · have hj := if_t c10 hj
      exact J_32  H locs ls hj hP hS (lv_sub hl [] rfl)
    · have hj := if_f c10 hj
      refine lv_aload_n hx hb dX6_alarmed_14 rfl (lv_at hl 0 rfl) ?_
      obtain ⟨v11, g_v11, hj⟩ := Option.bind_eq_some_iff.mp hj
      refine r_getR cx hP g_v11 iX6 rfl (by decide) mF_X6_54 dX6_alarmed_15 ?_
      refine lv_iload_n hx hb dX6_alarmed_18 rfl (lv_at hl 1 rfl) ?_
      obtain ⟨b12, e_b12, hj⟩ := Option.bind_eq_some_iff.mp hj
      subst e_b12
      obtain ⟨v13, g_v13, hj⟩ := Option.bind_eq_some_iff.mp hj
      refine r_aldZ cx hP g_v13 dX6_alarmed_19 ?_
      refine lv_if_eq (tgt := 32) hx hb dX6_alarmed_20 (by decide) (fun c14 => ?_) (fun c14 => ?_)
      · have hj := if_t c14 hj
        exact J_32  H locs ls hj hP hS (lv_sub hl [] rfl)
      · have hj := if_f c14 hj
        refine lv_iload_n hx hb dX6_alarmed_23 rfl (lv_at hl 2 rfl) ?_
        refine lv_iconst (v := 0) hx hb dX6_alarmed_24 (by decide) ?_
        refine lv_iconst (v := 2) hx hb dX6_alarmed_25 (by decide) ?_
        obtain ⟨v15, g_v15, hj⟩ := Option.bind_eq_some_iff.mp hj
        refine f_I (k_S (As := [.int a2, .int (0 : Int32), .int (2 : Int32)]) (n := 3) (rest := []) cx hl.1 hP hS (c_X6_isIn l X g M a2 (0 : Int32) (2 : Int32) v15 g_v15) mC_X6_isIn mM_X6_191 mT_X6_isIn mZ_X6 (by decide +kernel) ⟨Nat.le_of_ble_eq_true rfl, Nat.le_of_ble_eq_true rfl⟩ rfl rfl (Nat.le_of_ble_eq_true rfl) dX6_alarmed_26 ⟨Nat.le_of_ble_eq_true rfl, Nat.le_of_ble_eq_true rfl⟩) hS (fun H locs hP hS => ?_)
        have hP : hp X M H := hP
        refine W.eq (g2 := F0 m 29 ls [.int v15]) rfl ?_
        refine W.widen (k := 0) (n := 0) (Nat.le_of_ble_eq_true rfl) (Nat.le_of_ble_eq_true rfl) ?_
        refine lv_if_ne (tgt := 34) hx hb dX6_alarmed_29 (by decide) (fun c16 => ?_) (fun c16 => ?_)
        · have hj := if_f c16 hj
          refine lv_iload_n hx hb dX6_alarmed_34 rfl (lv_at hl 2 rfl) ?_
          refine lv_iconst (v := 2) hx hb dX6_alarmed_35 (by decide) ?_
          refine lv_icmp_ge (tgt := 62) hx hb dX6_alarmed_36 (by decide) (fun c17 => ?_) (fun c17 => ?_)
          · have hj := if_t c17 hj
            refine lv_iconst (v := 0) hx hb dX6_alarmed_62 (by decide) ?_
            refine lv_istore_n (lv' := [(3, .int (0 : Int32)), (0, .ref a0), (1, .int a1), (2, .int a2)]) hx hb dX6_alarmed_63 rfl hl (by decide) rfl (fun ls hl => ?_)
            exact L_64 g a0 a1 (0 : Int32) H locs ls hj hP hS (lv_sub hl [1, 2, 0] rfl)
          · have hj := if_f c17 hj
            refine lv_iload_n hx hb dX6_alarmed_39 rfl (lv_at hl 2 rfl) ?_
            refine lv_if_ne (tgt := 52) hx hb dX6_alarmed_40 (by decide) (fun c18 => ?_) (fun c18 => ?_)
            · have hj := if_f c18 hj
              refine lv_aload_n hx hb dX6_alarmed_52 rfl (lv_at hl 0 rfl) ?_
              obtain ⟨v19, g_v19, hj⟩ := Option.bind_eq_some_iff.mp hj
              refine r_getR cx hP g_v19 iX6 rfl (by decide) mF_X6_51 dX6_alarmed_53 ?_
              refine lv_iload_n hx hb dX6_alarmed_56 rfl (lv_at hl 1 rfl) ?_
              obtain ⟨b20, e_b20, hj⟩ := Option.bind_eq_some_iff.mp hj
              subst e_b20
              obtain ⟨v21, g_v21, hj⟩ := Option.bind_eq_some_iff.mp hj
              refine r_aldI cx hP g_v21 dX6_alarmed_57 ?_
              exact J_58 v21 H locs ls hj hP hS (lv_sub hl [] rfl)
            · have hj := if_t c18 hj
              refine lv_aload_n hx hb dX6_alarmed_43 rfl (lv_at hl 0 rfl) ?_
              obtain ⟨v22, g_v22, hj⟩ := Option.bind_eq_some_iff.mp hj
              refine r_getR cx hP g_v22 iX6 rfl (by decide) mF_X6_48 dX6_alarmed_44 ?_
              refine lv_iload_n hx hb dX6_alarmed_47 rfl (lv_at hl 1 rfl) ?_
              obtain ⟨b23, e_b23, hj⟩ := Option.bind_eq_some_iff.mp hj
              subst e_b23
              obtain ⟨v24, g_v24, hj⟩ := Option.bind_eq_some_iff.mp hj
              refine r_aldI cx hP g_v24 dX6_alarmed_48 ?_
              refine lv_goto (tgt := 58) hx hb dX6_alarmed_49 (by decide) ?_
              exact J_58 v24 H locs ls hj hP hS (lv_sub hl [] rfl)
        · have hj := if_t c16 hj
          exact J_32  H locs ls hj hP hS (lv_sub hl [] rfl)
  exact hgo _ _ hP hS
set_option maxHeartbeats 4000000 in
set_option maxRecDepth 100000 in
theorem c_X6_at (l : Launch) (X : hX) (g : Nat) (M : hm) (a0 : Int32) (a1 : Int32) (RR : Int32) (hj : j_X6_at g a0 a1 = some RR) : Ct l X yX6_at cX6_at 2 (some .int) { frames := 0, cells := 0, slots := 0, locals := 0 } [.int a0, .int a1] M (qI X (M, RR)) := by
  refine h_enter (own := RX6) (by decide) rfl (Nat.le_of_ble_eq_true rfl) ?_
  intro p e s m below meth c ls cx hr hlocks hnm hP hS hl
  have hx := cx.1
  have hb := cx.2.1
  have hl : lv_has ls 2 [(0, .int a0), (1, .int a1)] := hl
  unfold j_X6_at at hj
  have hgo : ∀ (H : Heap) (locs : List Loc), hp X M H → va_S (hA X) s.heap H locs → W p l e ({ frames := 0, cells := 0, slots := 0, locals := 0 } : Room) s m _ below meth c H locs 0 0 (MQ below (qI X (M, RR)) _ s 0 0 (hA X)) (F0 m 0 ls []) := by
    have J_23 : ∀ (s0 : Int32) (H : Heap) (locs : List Loc) (ls : Array Slot), j_X6_at_23 g s0 = some RR → hp X M H → va_S (hA X) s.heap H locs → lv_has ls 2 [] → W p l e ({ frames := 0, cells := 0, slots := 0, locals := 0 } : Room) s m _ below meth c H locs 0 0 (MQ below (qI X (M, RR)) _ s 0 0 (hA X)) (F0 m 23 ls [.int s0]) := by
      intro s0 H locs ls hj hP hS hl
      unfold j_X6_at_23 at hj
      exact t_I cx hr hlocks hP hS (congrArg (Prod.mk M) (Option.some.inj hj)) (Nat.le_of_ble_eq_true rfl) (Nat.le_of_ble_eq_true rfl) dX6_at_23
    intro H locs hP hS
    refine lv_iload_n hx hb dX6_at_0 rfl (lv_at hl 0 rfl) ?_
    refine lv_bipush (v := 16) hx hb dX6_at_1 (by decide) ?_
    refine lv_icmp_lt (tgt := 17) hx hb dX6_at_3 (by decide) (fun c1 => ?_) (fun c1 => ?_)
    · have hj := if_t c1 hj
      refine lv_bipush (v := 16) hx hb dX6_at_17 (by decide) ?_
      refine lv_iload_n hx hb dX6_at_19 rfl (lv_at hl 0 rfl) ?_
      refine lv_imul hx hb dX6_at_20 ?_
      refine lv_iload_n hx hb dX6_at_21 rfl (lv_at hl 1 rfl) ?_
      refine lv_iadd hx hb dX6_at_22 ?_
      exact J_23 (((16 : Int32) * a0) + a1) H locs ls hj hP hS (lv_sub hl [] rfl)
    · have hj := if_f c1 hj
      refine lv_sipush (v := 192) hx hb dX6_at_6 (by decide) ?_
      refine lv_iload_n hx hb dX6_at_9 rfl (lv_at hl 0 rfl) ?_
      refine lv_iadd hx hb dX6_at_10 ?_
      refine lv_bipush (v := 16) hx hb dX6_at_11 (by decide) ?_
      refine lv_isub hx hb dX6_at_13 ?_
      refine lv_goto (tgt := 23) hx hb dX6_at_14 (by decide) ?_
      exact J_23 (((192 : Int32) + a0) - (16 : Int32)) H locs ls hj hP hS (lv_sub hl [] rfl)
  exact hgo _ _ hP hS
set_option maxHeartbeats 4000000 in
set_option maxRecDepth 100000 in
theorem c_X6_back (l : Launch) (X : hX) (g : Nat) (M : hm) (a0 : Nat) (RR : hm × Int32) (hj : j_X6_back g M a0 = some RR) : Ct l X yX6_back cX6_back 2 (some .int) { frames := 0, cells := 0, slots := 0, locals := 0 } [.ref a0] M (qI X RR) := by
  refine h_enter (own := RX6) (by decide) rfl (Nat.le_of_ble_eq_true rfl) ?_
  intro p e s m below meth c ls cx hr hlocks hnm hP hS hl
  have hx := cx.1
  have hb := cx.2.1
  have hl : lv_has ls 2 [(0, .ref a0)] := hl
  unfold j_X6_back at hj
  have hgo : ∀ (H : Heap) (locs : List Loc), hp X M H → va_S (hA X) s.heap H locs → W p l e ({ frames := 0, cells := 0, slots := 0, locals := 0 } : Room) s m _ below meth c H locs 0 0 (MQ below (qI X RR) _ s 0 0 (hA X)) (F0 m 0 ls []) := by
    have J_144 : ∀ (M : hm) (p0 : Nat) (H : Heap) (locs : List Loc) (ls : Array Slot), j_X6_back_144 g M p0 = some RR → hp X M H → va_S (hA X) s.heap H locs → lv_has ls 2 [(0, .ref p0)] → W p l e ({ frames := 0, cells := 0, slots := 0, locals := 0 } : Room) s m _ below meth c H locs 0 0 (MQ below (qI X RR) _ s 0 0 (hA X)) (F0 m 144 ls []) := by
      intro M p0 H locs ls hj hP hS hl
      unfold j_X6_back_144 at hj
      refine lv_aload_n hx hb dX6_back_144 rfl (lv_at hl 0 rfl) ?_
      obtain ⟨v1, g_v1, hj⟩ := Option.bind_eq_some_iff.mp hj
      refine r_getI cx hP g_v1 iX6 rfl (by decide) mF_X6_187 dX6_back_145 ?_
      exact t_I cx hr hlocks hP hS (Option.some.inj hj) (Nat.le_of_ble_eq_true rfl) (Nat.le_of_ble_eq_true rfl) dX6_back_148
    have L_112 : ∀ (n112 : Nat) (M : hm) (p0 : Nat) (p1 : Int32) (H : Heap) (locs : List Loc) (ls : Array Slot), j_X6_back_112 g n112 M p0 p1 = some RR → hp X M H → va_S (hA X) s.heap H locs → lv_has ls 2 [(0, .ref p0), (1, .int p1)] → W p l e ({ frames := 0, cells := 0, slots := 0, locals := 0 } : Room) s m _ below meth c H locs 0 0 (MQ below (qI X RR) _ s 0 0 (hA X)) (F0 m 112 ls []) := by
      intro n112
      induction n112 with
      | zero =>
        intro M p0 p1 H locs ls hj
        exact no_zero hj
      | succ n112 ih_112 =>
        intro M p0 p1 H locs ls hj hP hS hl
        rw [j_X6_back_112_s] at hj
        refine lv_iload_n hx hb dX6_back_112 rfl (lv_at hl 1 rfl) ?_
        refine lv_bipush (v := 48) hx hb dX6_back_113 (by decide) ?_
        refine lv_icmp_ge (tgt := 144) hx hb dX6_back_115 (by decide) (fun c2 => ?_) (fun c2 => ?_)
        · have hj := if_t c2 hj
          exact J_144 M p0 H locs ls hj hP hS (lv_sub hl [0] rfl)
        · have hj := if_f c2 hj
          refine lv_aload_n hx hb dX6_back_118 rfl (lv_at hl 0 rfl) ?_
          obtain ⟨v3, g_v3, hj⟩ := Option.bind_eq_some_iff.mp hj
          refine r_getR cx hP g_v3 iX6 rfl (by decide) mF_X6_22 dX6_back_119 ?_
          refine lv_iload_n hx hb dX6_back_122 rfl (lv_at hl 1 rfl) ?_
          refine lv_aload_n hx hb dX6_back_123 rfl (lv_at hl 0 rfl) ?_
          obtain ⟨v4, g_v4, hj⟩ := Option.bind_eq_some_iff.mp hj
          refine r_getR cx hP g_v4 iX6 rfl (by decide) mF_X6_42 dX6_back_124 ?_
          refine lv_bipush (v := 48) hx hb dX6_back_127 (by decide) ?_
          refine lv_aload_n hx hb dX6_back_129 rfl (lv_at hl 0 rfl) ?_
          obtain ⟨v5, g_v5, hj⟩ := Option.bind_eq_some_iff.mp hj
          refine r_getI cx hP g_v5 iX6 rfl (by decide) mF_X6_187 dX6_back_130 ?_
          refine lv_imul hx hb dX6_back_133 ?_
          refine lv_iload_n hx hb dX6_back_134 rfl (lv_at hl 1 rfl) ?_
          refine lv_iadd hx hb dX6_back_135 ?_
          obtain ⟨b6, e_b6, hj⟩ := Option.bind_eq_some_iff.mp hj
          subst e_b6
          obtain ⟨v7, g_v7, hj⟩ := Option.bind_eq_some_iff.mp hj
          refine r_aldI cx hP g_v7 dX6_back_136 ?_
          obtain ⟨b8, e_b8, hj⟩ := Option.bind_eq_some_iff.mp hj
          subst e_b8
          obtain ⟨M9, g_M9, hj⟩ := Option.bind_eq_some_iff.mp hj
          refine r_astI cx hP hS g_M9 dX6_back_137 (fun H locs hP hS => ?_)
          refine lv_iinc (v := (p1 + (1 : Int32))) (lv' := [(1, .int (p1 + (1 : Int32))), (0, .ref p0)]) hx hb dX6_back_138 hl (k := 1) rfl rfl (by decide) rfl (fun ls hl => ?_)
          refine lv_goto (tgt := 112) hx hb dX6_back_141 (by decide) ?_
          exact ih_112 M9 p0 (p1 + (1 : Int32)) H locs ls hj hP hS (lv_sub hl [1, 0] rfl)
    have J_110 : ∀ (M : hm) (p0 : Nat) (H : Heap) (locs : List Loc) (ls : Array Slot), j_X6_back_110 g M p0 = some RR → hp X M H → va_S (hA X) s.heap H locs → lv_has ls 2 [(0, .ref p0)] → W p l e ({ frames := 0, cells := 0, slots := 0, locals := 0 } : Room) s m _ below meth c H locs 0 0 (MQ below (qI X RR) _ s 0 0 (hA X)) (F0 m 110 ls []) := by
      intro M p0 H locs ls hj hP hS hl
      unfold j_X6_back_110 at hj
      refine lv_iconst (v := 0) hx hb dX6_back_110 (by decide) ?_
      refine lv_istore_n (lv' := [(1, .int (0 : Int32)), (0, .ref p0)]) hx hb dX6_back_111 rfl hl (by decide) rfl (fun ls hl => ?_)
      exact L_112 g M p0 (0 : Int32) H locs ls hj hP hS (lv_sub hl [1, 0] rfl)
    have L_78 : ∀ (n78 : Nat) (M : hm) (p0 : Nat) (p1 : Int32) (H : Heap) (locs : List Loc) (ls : Array Slot), j_X6_back_78 g n78 M p0 p1 = some RR → hp X M H → va_S (hA X) s.heap H locs → lv_has ls 2 [(0, .ref p0), (1, .int p1)] → W p l e ({ frames := 0, cells := 0, slots := 0, locals := 0 } : Room) s m _ below meth c H locs 0 0 (MQ below (qI X RR) _ s 0 0 (hA X)) (F0 m 78 ls []) := by
      intro n78
      induction n78 with
      | zero =>
        intro M p0 p1 H locs ls hj
        exact no_zero hj
      | succ n78 ih_78 =>
        intro M p0 p1 H locs ls hj hP hS hl
        rw [j_X6_back_78_s] at hj
        refine lv_iload_n hx hb dX6_back_78 rfl (lv_at hl 1 rfl) ?_
        refine lv_bipush (v := 12) hx hb dX6_back_79 (by decide) ?_
        refine lv_icmp_ge (tgt := 110) hx hb dX6_back_81 (by decide) (fun c10 => ?_) (fun c10 => ?_)
        · have hj := if_t c10 hj
          exact J_110 M p0 H locs ls hj hP hS (lv_sub hl [0] rfl)
        · have hj := if_f c10 hj
          refine lv_aload_n hx hb dX6_back_84 rfl (lv_at hl 0 rfl) ?_
          obtain ⟨v11, g_v11, hj⟩ := Option.bind_eq_some_iff.mp hj
          refine r_getR cx hP g_v11 iX6 rfl (by decide) mF_X6_19 dX6_back_85 ?_
          refine lv_iload_n hx hb dX6_back_88 rfl (lv_at hl 1 rfl) ?_
          refine lv_aload_n hx hb dX6_back_89 rfl (lv_at hl 0 rfl) ?_
          obtain ⟨v12, g_v12, hj⟩ := Option.bind_eq_some_iff.mp hj
          refine r_getR cx hP g_v12 iX6 rfl (by decide) mF_X6_39 dX6_back_90 ?_
          refine lv_bipush (v := 12) hx hb dX6_back_93 (by decide) ?_
          refine lv_aload_n hx hb dX6_back_95 rfl (lv_at hl 0 rfl) ?_
          obtain ⟨v13, g_v13, hj⟩ := Option.bind_eq_some_iff.mp hj
          refine r_getI cx hP g_v13 iX6 rfl (by decide) mF_X6_187 dX6_back_96 ?_
          refine lv_imul hx hb dX6_back_99 ?_
          refine lv_iload_n hx hb dX6_back_100 rfl (lv_at hl 1 rfl) ?_
          refine lv_iadd hx hb dX6_back_101 ?_
          obtain ⟨b14, e_b14, hj⟩ := Option.bind_eq_some_iff.mp hj
          subst e_b14
          obtain ⟨v15, g_v15, hj⟩ := Option.bind_eq_some_iff.mp hj
          refine r_aldZ cx hP g_v15 dX6_back_102 ?_
          obtain ⟨b16, e_b16, hj⟩ := Option.bind_eq_some_iff.mp hj
          subst e_b16
          obtain ⟨M17, g_M17, hj⟩ := Option.bind_eq_some_iff.mp hj
          refine r_astZ cx hP hS g_M17 dX6_back_103 (fun H locs hP hS => ?_)
          refine lv_iinc (v := (p1 + (1 : Int32))) (lv' := [(1, .int (p1 + (1 : Int32))), (0, .ref p0)]) hx hb dX6_back_104 hl (k := 1) rfl rfl (by decide) rfl (fun ls hl => ?_)
          refine lv_goto (tgt := 78) hx hb dX6_back_107 (by decide) ?_
          exact ih_78 M17 p0 (p1 + (1 : Int32)) H locs ls hj hP hS (lv_sub hl [1, 0] rfl)
    have J_76 : ∀ (M : hm) (p0 : Nat) (H : Heap) (locs : List Loc) (ls : Array Slot), j_X6_back_76 g M p0 = some RR → hp X M H → va_S (hA X) s.heap H locs → lv_has ls 2 [(0, .ref p0)] → W p l e ({ frames := 0, cells := 0, slots := 0, locals := 0 } : Room) s m _ below meth c H locs 0 0 (MQ below (qI X RR) _ s 0 0 (hA X)) (F0 m 76 ls []) := by
      intro M p0 H locs ls hj hP hS hl
      unfold j_X6_back_76 at hj
      refine lv_iconst (v := 0) hx hb dX6_back_76 (by decide) ?_
      refine lv_istore_n (lv' := [(1, .int (0 : Int32)), (0, .ref p0)]) hx hb dX6_back_77 rfl hl (by decide) rfl (fun ls hl => ?_)
      exact L_78 g M p0 (0 : Int32) H locs ls hj hP hS (lv_sub hl [1, 0] rfl)
    have L_21 : ∀ (n21 : Nat) (M : hm) (p0 : Nat) (p1 : Int32) (H : Heap) (locs : List Loc) (ls : Array Slot), j_X6_back_21 g n21 M p0 p1 = some RR → hp X M H → va_S (hA X) s.heap H locs → lv_has ls 2 [(0, .ref p0), (1, .int p1)] → W p l e ({ frames := 0, cells := 0, slots := 0, locals := 0 } : Room) s m _ below meth c H locs 0 0 (MQ below (qI X RR) _ s 0 0 (hA X)) (F0 m 21 ls []) := by
      intro n21
      induction n21 with
      | zero =>
        intro M p0 p1 H locs ls hj
        exact no_zero hj
      | succ n21 ih_21 =>
        intro M p0 p1 H locs ls hj hP hS hl
        rw [j_X6_back_21_s] at hj
        refine lv_iload_n hx hb dX6_back_21 rfl (lv_at hl 1 rfl) ?_
        refine lv_sipush (v := 200) hx hb dX6_back_22 (by decide) ?_
        refine lv_icmp_ge (tgt := 76) hx hb dX6_back_25 (by decide) (fun c18 => ?_) (fun c18 => ?_)
        · have hj := if_t c18 hj
          exact J_76 M p0 H locs ls hj hP hS (lv_sub hl [0] rfl)
        · have hj := if_f c18 hj
          refine lv_aload_n hx hb dX6_back_28 rfl (lv_at hl 0 rfl) ?_
          obtain ⟨v19, g_v19, hj⟩ := Option.bind_eq_some_iff.mp hj
          refine r_getR cx hP g_v19 iX6 rfl (by decide) mF_X6_9 dX6_back_29 ?_
          refine lv_iload_n hx hb dX6_back_32 rfl (lv_at hl 1 rfl) ?_
          refine lv_aload_n hx hb dX6_back_33 rfl (lv_at hl 0 rfl) ?_
          obtain ⟨v20, g_v20, hj⟩ := Option.bind_eq_some_iff.mp hj
          refine r_getR cx hP g_v20 iX6 rfl (by decide) mF_X6_33 dX6_back_34 ?_
          refine lv_sipush (v := 200) hx hb dX6_back_37 (by decide) ?_
          refine lv_aload_n hx hb dX6_back_40 rfl (lv_at hl 0 rfl) ?_
          obtain ⟨v21, g_v21, hj⟩ := Option.bind_eq_some_iff.mp hj
          refine r_getI cx hP g_v21 iX6 rfl (by decide) mF_X6_187 dX6_back_41 ?_
          refine lv_imul hx hb dX6_back_44 ?_
          refine lv_iload_n hx hb dX6_back_45 rfl (lv_at hl 1 rfl) ?_
          refine lv_iadd hx hb dX6_back_46 ?_
          obtain ⟨b22, e_b22, hj⟩ := Option.bind_eq_some_iff.mp hj
          subst e_b22
          obtain ⟨v23, g_v23, hj⟩ := Option.bind_eq_some_iff.mp hj
          refine r_aldD cx hP g_v23 dX6_back_47 ?_
          obtain ⟨b24, e_b24, hj⟩ := Option.bind_eq_some_iff.mp hj
          subst e_b24
          obtain ⟨M25, g_M25, hj⟩ := Option.bind_eq_some_iff.mp hj
          refine r_astD cx hP hS g_M25 dX6_back_48 (fun H locs hP hS => ?_)
          refine lv_aload_n hx hb dX6_back_49 rfl (lv_at hl 0 rfl) ?_
          obtain ⟨v26, g_v26, hj⟩ := Option.bind_eq_some_iff.mp hj
          refine r_getR cx hP g_v26 iX6 rfl (by decide) mF_X6_15 dX6_back_50 ?_
          refine lv_iload_n hx hb dX6_back_53 rfl (lv_at hl 1 rfl) ?_
          refine lv_aload_n hx hb dX6_back_54 rfl (lv_at hl 0 rfl) ?_
          obtain ⟨v27, g_v27, hj⟩ := Option.bind_eq_some_iff.mp hj
          refine r_getR cx hP g_v27 iX6 rfl (by decide) mF_X6_36 dX6_back_55 ?_
          refine lv_sipush (v := 200) hx hb dX6_back_58 (by decide) ?_
          refine lv_aload_n hx hb dX6_back_61 rfl (lv_at hl 0 rfl) ?_
          obtain ⟨v28, g_v28, hj⟩ := Option.bind_eq_some_iff.mp hj
          refine r_getI cx hP g_v28 iX6 rfl (by decide) mF_X6_187 dX6_back_62 ?_
          refine lv_imul hx hb dX6_back_65 ?_
          refine lv_iload_n hx hb dX6_back_66 rfl (lv_at hl 1 rfl) ?_
          refine lv_iadd hx hb dX6_back_67 ?_
          obtain ⟨b29, e_b29, hj⟩ := Option.bind_eq_some_iff.mp hj
          subst e_b29
          obtain ⟨v30, g_v30, hj⟩ := Option.bind_eq_some_iff.mp hj
          refine r_aldZ cx hP g_v30 dX6_back_68 ?_
          obtain ⟨b31, e_b31, hj⟩ := Option.bind_eq_some_iff.mp hj
          subst e_b31
          obtain ⟨M32, g_M32, hj⟩ := Option.bind_eq_some_iff.mp hj
          refine r_astZ cx hP hS g_M32 dX6_back_69 (fun H locs hP hS => ?_)
          refine lv_iinc (v := (p1 + (1 : Int32))) (lv' := [(1, .int (p1 + (1 : Int32))), (0, .ref p0)]) hx hb dX6_back_70 hl (k := 1) rfl rfl (by decide) rfl (fun ls hl => ?_)
          refine lv_goto (tgt := 21) hx hb dX6_back_73 (by decide) ?_
          exact ih_21 M32 p0 (p1 + (1 : Int32)) H locs ls hj hP hS (lv_sub hl [1, 0] rfl)
    intro H locs hP hS
    refine lv_aload_n hx hb dX6_back_0 rfl (lv_at hl 0 rfl) ?_
    obtain ⟨v33, g_v33, hj⟩ := Option.bind_eq_some_iff.mp hj
    refine r_getI cx hP g_v33 iX6 rfl (by decide) mF_X6_187 dX6_back_1 ?_
    refine lv_if_ne (tgt := 9) hx hb dX6_back_4 (by decide) (fun c34 => ?_) (fun c34 => ?_)
    · have hj := if_f c34 hj
      refine lv_aload_n hx hb dX6_back_9 rfl (lv_at hl 0 rfl) ?_
      refine lv_dup hx hb dX6_back_10 rfl ?_
      obtain ⟨v35, g_v35, hj⟩ := Option.bind_eq_some_iff.mp hj
      refine r_getI cx hP g_v35 iX6 rfl (by decide) mF_X6_187 dX6_back_11 ?_
      refine lv_iconst (v := 1) hx hb dX6_back_14 (by decide) ?_
      refine lv_isub hx hb dX6_back_15 ?_
      obtain ⟨M36, g_M36, hj⟩ := Option.bind_eq_some_iff.mp hj
      refine r_put cx hP hS g_M36 iX6 tyX6 tyX6_ok nmX6 rfl (by decide) mF_X6_187 rfl rfl rfl dX6_back_16 (fun H locs hP hS => ?_)
      refine lv_iconst (v := 0) hx hb dX6_back_19 (by decide) ?_
      refine lv_istore_n (lv' := [(1, .int (0 : Int32)), (0, .ref a0)]) hx hb dX6_back_20 rfl hl (by decide) rfl (fun ls hl => ?_)
      exact L_21 g M36 a0 (0 : Int32) H locs ls hj hP hS (lv_sub hl [1, 0] rfl)
    · have hj := if_t c34 hj
      refine lv_iconst (v := -1) hx hb dX6_back_7 (by decide) ?_
      exact t_I cx hr hlocks hP hS (Option.some.inj hj) (Nat.le_of_ble_eq_true rfl) (Nat.le_of_ble_eq_true rfl) dX6_back_8
  exact hgo _ _ hP hS
set_option maxHeartbeats 4000000 in
set_option maxRecDepth 100000 in
theorem c_X6_noX (l : Launch) (X : hX) (g : Nat) (M : hm) (a0 : Nat) (a1 : Int32) (a2 : Int32) (RR : Int32) (hj : j_X6_noX g M a0 a1 a2 = some RR) : Ct l X yX6_noX cX6_noX 3 (some .boolean) { frames := 1, cells := 0, slots := 0, locals := 21 } [.ref a0, .int a1, .int a2] M (qI X (M, RR)) := by
  refine h_enter (own := RX6) (by decide) rfl (Nat.le_of_ble_eq_true rfl) ?_
  intro p e s m below meth c ls cx hr hlocks hnm hP hS hl
  have hx := cx.1
  have hb := cx.2.1
  have hl : lv_has ls 3 [(0, .ref a0), (1, .int a1), (2, .int a2)] := hl
  unfold j_X6_noX at hj
  have hgo : ∀ (H : Heap) (locs : List Loc), hp X M H → va_S (hA X) s.heap H locs → W p l e ({ frames := 1, cells := 0, slots := 0, locals := 21 } : Room) s m _ below meth c H locs 0 0 (MQ below (qI X (M, RR)) _ s 0 0 (hA X)) (F0 m 0 ls []) := by
    intro H locs hP hS
    refine lv_aload_n hx hb dX6_noX_0 rfl (lv_at hl 0 rfl) ?_
    obtain ⟨v1, g_v1, hj⟩ := Option.bind_eq_some_iff.mp hj
    refine r_getR cx hP g_v1 iX6 rfl (by decide) mF_X6_29 dX6_noX_1 ?_
    refine lv_aload_n hx hb dX6_noX_4 rfl (lv_at hl 0 rfl) ?_
    obtain ⟨v2, g_v2, hj⟩ := Option.bind_eq_some_iff.mp hj
    refine r_getR cx hP g_v2 iX6 rfl (by decide) mF_X6_22 dX6_noX_5 ?_
    refine lv_iconst (v := 4) hx hb dX6_noX_8 (by decide) ?_
    refine lv_iload_n hx hb dX6_noX_9 rfl (lv_at hl 1 rfl) ?_
    refine lv_imul hx hb dX6_noX_10 ?_
    refine lv_iconst (v := 1) hx hb dX6_noX_11 (by decide) ?_
    refine lv_iadd hx hb dX6_noX_12 ?_
    obtain ⟨b3, e_b3, hj⟩ := Option.bind_eq_some_iff.mp hj
    subst e_b3
    obtain ⟨v4, g_v4, hj⟩ := Option.bind_eq_some_iff.mp hj
    refine r_aldI cx hP g_v4 dX6_noX_13 ?_
    refine lv_iload_n hx hb dX6_noX_14 rfl (lv_at hl 2 rfl) ?_
    obtain ⟨v5, g_v5, hj⟩ := Option.bind_eq_some_iff.mp hj
    refine f_I (k_S (As := [.int v4, .int a2]) (n := 2) (rest := [va_rf v1]) cx hl.1 hP hS (c_X6_at l X g M v4 a2 v5 g_v5) mC_X6_at mM_X6_128 mT_X6_at mZ_X6 (by decide +kernel) ⟨Nat.le_of_ble_eq_true rfl, Nat.le_of_ble_eq_true rfl⟩ rfl rfl (by simp [cat_rf, Value.category]) dX6_noX_15 ⟨Nat.le_of_ble_eq_true rfl, Nat.le_of_ble_eq_true rfl⟩) hS (fun H locs hP hS => ?_)
    have hP : hp X M H := hP
    refine W.eq (g2 := F0 m 18 ls [.int v5, va_rf v1]) rfl ?_
    refine W.widen (k := 0) (n := 0) (Nat.le_of_ble_eq_true rfl) (Nat.le_of_ble_eq_true rfl) ?_
    obtain ⟨b6, e_b6, hj⟩ := Option.bind_eq_some_iff.mp hj
    subst e_b6
    obtain ⟨v7, g_v7, hj⟩ := Option.bind_eq_some_iff.mp hj
    refine r_aldZ cx hP g_v7 dX6_noX_18 ?_
    obtain ⟨z8, g_z8, hj⟩ := Option.bind_eq_some_iff.mp hj
    exact t_Z cx hr hlocks hP hS (zb_eq g_z8).1 (congrArg (Prod.mk M) (Option.some.inj hj)) (Nat.le_of_ble_eq_true rfl) (Nat.le_of_ble_eq_true rfl) dX6_noX_19
  exact hgo _ _ hP hS
set_option maxHeartbeats 4000000 in
set_option maxRecDepth 100000 in
theorem c_X6_noY (l : Launch) (X : hX) (g : Nat) (M : hm) (a0 : Nat) (a1 : Int32) (a2 : Int32) (RR : Int32) (hj : j_X6_noY g M a0 a1 a2 = some RR) : Ct l X yX6_noY cX6_noY 3 (some .boolean) { frames := 1, cells := 0, slots := 0, locals := 21 } [.ref a0, .int a1, .int a2] M (qI X (M, RR)) := by
  refine h_enter (own := RX6) (by decide) rfl (Nat.le_of_ble_eq_true rfl) ?_
  intro p e s m below meth c ls cx hr hlocks hnm hP hS hl
  have hx := cx.1
  have hb := cx.2.1
  have hl : lv_has ls 3 [(0, .ref a0), (1, .int a1), (2, .int a2)] := hl
  unfold j_X6_noY at hj
  have hgo : ∀ (H : Heap) (locs : List Loc), hp X M H → va_S (hA X) s.heap H locs → W p l e ({ frames := 1, cells := 0, slots := 0, locals := 21 } : Room) s m _ below meth c H locs 0 0 (MQ below (qI X (M, RR)) _ s 0 0 (hA X)) (F0 m 0 ls []) := by
    intro H locs hP hS
    refine lv_aload_n hx hb dX6_noY_0 rfl (lv_at hl 0 rfl) ?_
    obtain ⟨v1, g_v1, hj⟩ := Option.bind_eq_some_iff.mp hj
    refine r_getR cx hP g_v1 iX6 rfl (by decide) mF_X6_29 dX6_noY_1 ?_
    refine lv_aload_n hx hb dX6_noY_4 rfl (lv_at hl 0 rfl) ?_
    obtain ⟨v2, g_v2, hj⟩ := Option.bind_eq_some_iff.mp hj
    refine r_getR cx hP g_v2 iX6 rfl (by decide) mF_X6_22 dX6_noY_5 ?_
    refine lv_iconst (v := 4) hx hb dX6_noY_8 (by decide) ?_
    refine lv_iload_n hx hb dX6_noY_9 rfl (lv_at hl 1 rfl) ?_
    refine lv_imul hx hb dX6_noY_10 ?_
    refine lv_iconst (v := 2) hx hb dX6_noY_11 (by decide) ?_
    refine lv_iadd hx hb dX6_noY_12 ?_
    obtain ⟨b3, e_b3, hj⟩ := Option.bind_eq_some_iff.mp hj
    subst e_b3
    obtain ⟨v4, g_v4, hj⟩ := Option.bind_eq_some_iff.mp hj
    refine r_aldI cx hP g_v4 dX6_noY_13 ?_
    refine lv_iload_n hx hb dX6_noY_14 rfl (lv_at hl 2 rfl) ?_
    obtain ⟨v5, g_v5, hj⟩ := Option.bind_eq_some_iff.mp hj
    refine f_I (k_S (As := [.int v4, .int a2]) (n := 2) (rest := [va_rf v1]) cx hl.1 hP hS (c_X6_at l X g M v4 a2 v5 g_v5) mC_X6_at mM_X6_128 mT_X6_at mZ_X6 (by decide +kernel) ⟨Nat.le_of_ble_eq_true rfl, Nat.le_of_ble_eq_true rfl⟩ rfl rfl (by simp [cat_rf, Value.category]) dX6_noY_15 ⟨Nat.le_of_ble_eq_true rfl, Nat.le_of_ble_eq_true rfl⟩) hS (fun H locs hP hS => ?_)
    have hP : hp X M H := hP
    refine W.eq (g2 := F0 m 18 ls [.int v5, va_rf v1]) rfl ?_
    refine W.widen (k := 0) (n := 0) (Nat.le_of_ble_eq_true rfl) (Nat.le_of_ble_eq_true rfl) ?_
    obtain ⟨b6, e_b6, hj⟩ := Option.bind_eq_some_iff.mp hj
    subst e_b6
    obtain ⟨v7, g_v7, hj⟩ := Option.bind_eq_some_iff.mp hj
    refine r_aldZ cx hP g_v7 dX6_noY_18 ?_
    obtain ⟨z8, g_z8, hj⟩ := Option.bind_eq_some_iff.mp hj
    exact t_Z cx hr hlocks hP hS (zb_eq g_z8).1 (congrArg (Prod.mk M) (Option.some.inj hj)) (Nat.le_of_ble_eq_true rfl) (Nat.le_of_ble_eq_true rfl) dX6_noY_19
  exact hgo _ _ hP hS
set_option maxHeartbeats 4000000 in
set_option maxRecDepth 100000 in
theorem c_X6_givesNothing (l : Launch) (X : hX) (g : Nat) (M : hm) (a0 : Nat) (RR : hm) (hj : j_X6_givesNothing g M a0 = some RR) : Ct l X yX6_givesNothing cX6_givesNothing 1 none { frames := 0, cells := 0, slots := 0, locals := 0 } [.ref a0] M (qV X RR) := by
  refine h_enter (own := RX6) (by decide) rfl (Nat.le_of_ble_eq_true rfl) ?_
  intro p e s m below meth c ls cx hr hlocks hnm hP hS hl
  have hx := cx.1
  have hb := cx.2.1
  have hl : lv_has ls 1 [(0, .ref a0)] := hl
  unfold j_X6_givesNothing at hj
  have hgo : ∀ (H : Heap) (locs : List Loc), hp X M H → va_S (hA X) s.heap H locs → W p l e ({ frames := 0, cells := 0, slots := 0, locals := 0 } : Room) s m _ below meth c H locs 0 0 (MQ below (qV X RR) _ s 0 0 (hA X)) (F0 m 0 ls []) := by
    intro H locs hP hS
    refine lv_aload_n hx hb dX6_givesNothing_0 rfl (lv_at hl 0 rfl) ?_
    refine lv_dconst0 hx hb dX6_givesNothing_1 ?_
    obtain ⟨M1, g_M1, hj⟩ := Option.bind_eq_some_iff.mp hj
    refine r_put cx hP hS g_M1 iX6 tyX6 tyX6_ok nmX6 rfl (by decide) mF_X6_86 rfl rfl rfl dX6_givesNothing_2 (fun H locs hP hS => ?_)
    refine lv_aload_n hx hb dX6_givesNothing_5 rfl (lv_at hl 0 rfl) ?_
    refine lv_iconst (v := 1) hx hb dX6_givesNothing_6 (by decide) ?_
    obtain ⟨M2, g_M2, hj⟩ := Option.bind_eq_some_iff.mp hj
    refine r_put cx hP hS g_M2 iX6 tyX6 tyX6_ok nmX6 rfl (by decide) mF_X6_90 rfl rfl rfl dX6_givesNothing_7 (fun H locs hP hS => ?_)
    exact t_V cx hr hlocks hP hS (Option.some.inj hj) (Nat.le_of_ble_eq_true rfl) (Nat.le_of_ble_eq_true rfl) dX6_givesNothing_10
  exact hgo _ _ hP hS
set_option maxHeartbeats 4000000 in
set_option maxRecDepth 100000 in
theorem c_X6_brought (l : Launch) (X : hX) (g : Nat) (M : hm) (a0 : UInt64) (a2 : Int32) (RR : UInt64) (hj : j_X6_brought g a0 a2 = some RR) : Ct l X yX6_brought cX6_brought 3 (some .double) { frames := 0, cells := 0, slots := 0, locals := 0 } [.double a0, .int a2] M (qD X (M, RR)) := by
  refine h_enter (own := RX6) (by decide) rfl (Nat.le_of_ble_eq_true rfl) ?_
  intro p e s m below meth c ls cx hr hlocks hnm hP hS hl
  have hx := cx.1
  have hb := cx.2.1
  have hl : lv_has ls 3 [(0, .double a0), (2, .int a2)] := hl
  unfold j_X6_brought at hj
  have hgo : ∀ (H : Heap) (locs : List Loc), hp X M H → va_S (hA X) s.heap H locs → W p l e ({ frames := 0, cells := 0, slots := 0, locals := 0 } : Room) s m _ below meth c H locs 0 0 (MQ below (qD X (M, RR)) _ s 0 0 (hA X)) (F0 m 0 ls []) := by
    have J_11 : ∀ (s0 : UInt64) (H : Heap) (locs : List Loc) (ls : Array Slot), j_X6_brought_11 g s0 = some RR → hp X M H → va_S (hA X) s.heap H locs → lv_has ls 3 [] → W p l e ({ frames := 0, cells := 0, slots := 0, locals := 0 } : Room) s m _ below meth c H locs 0 0 (MQ below (qD X (M, RR)) _ s 0 0 (hA X)) (F0 m 11 ls [.double s0]) := by
      intro s0 H locs ls hj hP hS hl
      unfold j_X6_brought_11 at hj
      exact t_D cx hr hlocks hP hS (congrArg (Prod.mk M) (Option.some.inj hj)) (Nat.le_of_ble_eq_true rfl) (Nat.le_of_ble_eq_true rfl) dX6_brought_11
    intro H locs hP hS
    refine lv_iload_n hx hb dX6_brought_0 rfl (lv_at hl 1 rfl) ?_
    refine lv_if_eq (tgt := 10) hx hb dX6_brought_1 (by decide) (fun c1 => ?_) (fun c1 => ?_)
    · have hj := if_t c1 hj
      refine lv_dload_n hx hb dX6_brought_10 rfl (lv_at hl 0 rfl) ?_
      exact J_11 a0 H locs ls hj hP hS (lv_sub hl [] rfl)
    · have hj := if_f c1 hj
      refine lv_dload_n hx hb dX6_brought_4 rfl (lv_at hl 0 rfl) ?_
      obtain ⟨v2, g_v2, hj⟩ := Option.bind_eq_some_iff.mp hj
      obtain ⟨n_v2, e_v2⟩ := n32_eq g_v2
      refine lv_d2f hx hb dX6_brought_5 n_v2 ?_
      rw [← e_v2]
      obtain ⟨v3, g_v3, hj⟩ := Option.bind_eq_some_iff.mp hj
      obtain ⟨n_v3, e_v3⟩ := n64_eq g_v3
      refine lv_f2d hx hb dX6_brought_6 n_v3 ?_
      rw [← e_v3]
      refine lv_goto (tgt := 11) hx hb dX6_brought_7 (by decide) ?_
      exact J_11 v3 H locs ls hj hP hS (lv_sub hl [] rfl)
  exact hgo _ _ hP hS
set_option maxHeartbeats 4000000 in
set_option maxRecDepth 100000 in
theorem c_X6_x (l : Launch) (X : hX) (g : Nat) (M : hm) (a0 : Nat) (a1 : Int32) (a2 : Int32) (RR : UInt64) (hj : j_X6_x g M a0 a1 a2 = some RR) : Ct l X yX6_x cX6_x 3 (some .double) { frames := 1, cells := 0, slots := 0, locals := 22 } [.ref a0, .int a1, .int a2] M (qD X (M, RR)) := by
  refine h_enter (own := RX6) (by decide) rfl (Nat.le_of_ble_eq_true rfl) ?_
  intro p e s m below meth c ls cx hr hlocks hnm hP hS hl
  have hx := cx.1
  have hb := cx.2.1
  have hl : lv_has ls 3 [(0, .ref a0), (1, .int a1), (2, .int a2)] := hl
  unfold j_X6_x at hj
  have hgo : ∀ (H : Heap) (locs : List Loc), hp X M H → va_S (hA X) s.heap H locs → W p l e ({ frames := 1, cells := 0, slots := 0, locals := 22 } : Room) s m _ below meth c H locs 0 0 (MQ below (qD X (M, RR)) _ s 0 0 (hA X)) (F0 m 0 ls []) := by
    intro H locs hP hS
    refine lv_aload_n hx hb dX6_x_0 rfl (lv_at hl 0 rfl) ?_
    obtain ⟨v1, g_v1, hj⟩ := Option.bind_eq_some_iff.mp hj
    refine r_getR cx hP g_v1 iX6 rfl (by decide) mF_X6_26 dX6_x_1 ?_
    refine lv_aload_n hx hb dX6_x_4 rfl (lv_at hl 0 rfl) ?_
    obtain ⟨v2, g_v2, hj⟩ := Option.bind_eq_some_iff.mp hj
    refine r_getR cx hP g_v2 iX6 rfl (by decide) mF_X6_22 dX6_x_5 ?_
    refine lv_iconst (v := 4) hx hb dX6_x_8 (by decide) ?_
    refine lv_iload_n hx hb dX6_x_9 rfl (lv_at hl 1 rfl) ?_
    refine lv_imul hx hb dX6_x_10 ?_
    refine lv_iconst (v := 1) hx hb dX6_x_11 (by decide) ?_
    refine lv_iadd hx hb dX6_x_12 ?_
    obtain ⟨b3, e_b3, hj⟩ := Option.bind_eq_some_iff.mp hj
    subst e_b3
    obtain ⟨v4, g_v4, hj⟩ := Option.bind_eq_some_iff.mp hj
    refine r_aldI cx hP g_v4 dX6_x_13 ?_
    refine lv_iload_n hx hb dX6_x_14 rfl (lv_at hl 2 rfl) ?_
    obtain ⟨v5, g_v5, hj⟩ := Option.bind_eq_some_iff.mp hj
    refine f_I (k_S (As := [.int v4, .int a2]) (n := 2) (rest := [va_rf v1]) cx hl.1 hP hS (c_X6_at l X g M v4 a2 v5 g_v5) mC_X6_at mM_X6_128 mT_X6_at mZ_X6 (by decide +kernel) ⟨Nat.le_of_ble_eq_true rfl, Nat.le_of_ble_eq_true rfl⟩ rfl rfl (by simp [cat_rf, Value.category]) dX6_x_15 ⟨Nat.le_of_ble_eq_true rfl, Nat.le_of_ble_eq_true rfl⟩) hS (fun H locs hP hS => ?_)
    have hP : hp X M H := hP
    refine W.eq (g2 := F0 m 18 ls [.int v5, va_rf v1]) rfl ?_
    refine W.widen (k := 0) (n := 0) (Nat.le_of_ble_eq_true rfl) (Nat.le_of_ble_eq_true rfl) ?_
    obtain ⟨b6, e_b6, hj⟩ := Option.bind_eq_some_iff.mp hj
    subst e_b6
    obtain ⟨v7, g_v7, hj⟩ := Option.bind_eq_some_iff.mp hj
    refine r_aldD cx hP g_v7 dX6_x_18 ?_
    refine lv_aload_n hx hb dX6_x_19 rfl (lv_at hl 0 rfl) ?_
    obtain ⟨v8, g_v8, hj⟩ := Option.bind_eq_some_iff.mp hj
    refine r_getR cx hP g_v8 iX6 rfl (by decide) mF_X6_19 dX6_x_20 ?_
    refine lv_iload_n hx hb dX6_x_23 rfl (lv_at hl 1 rfl) ?_
    obtain ⟨b9, e_b9, hj⟩ := Option.bind_eq_some_iff.mp hj
    subst e_b9
    obtain ⟨v10, g_v10, hj⟩ := Option.bind_eq_some_iff.mp hj
    refine r_aldZ cx hP g_v10 dX6_x_24 ?_
    obtain ⟨v11, g_v11, hj⟩ := Option.bind_eq_some_iff.mp hj
    refine f_D (k_S (As := [.double v7, .int v10]) (n := 2) (rest := []) cx hl.1 hP hS (c_X6_brought l X g M v7 v10 v11 g_v11) mC_X6_brought mM_X6_132 mT_X6_brought mZ_X6 (by decide +kernel) ⟨Nat.le_of_ble_eq_true rfl, Nat.le_of_ble_eq_true rfl⟩ rfl rfl (Nat.le_of_ble_eq_true rfl) dX6_x_25 ⟨Nat.le_of_ble_eq_true rfl, Nat.le_of_ble_eq_true rfl⟩) hS (fun H locs hP hS => ?_)
    have hP : hp X M H := hP
    refine W.eq (g2 := F0 m 28 ls [.double v11]) rfl ?_
    refine W.widen (k := 0) (n := 0) (Nat.le_of_ble_eq_true rfl) (Nat.le_of_ble_eq_true rfl) ?_
    exact t_D cx hr hlocks hP hS (congrArg (Prod.mk M) (Option.some.inj hj)) (Nat.le_of_ble_eq_true rfl) (Nat.le_of_ble_eq_true rfl) dX6_x_28
  exact hgo _ _ hP hS
set_option maxHeartbeats 4000000 in
set_option maxRecDepth 100000 in
theorem c_X6_gives (l : Launch) (X : hX) (g : Nat) (M : hm) (a0 : Nat) (a1 : UInt64) (RR : hm) (hj : j_X6_gives g M a0 a1 = some RR) : Ct l X yX6_gives cX6_gives 3 none { frames := 0, cells := 0, slots := 0, locals := 0 } [.ref a0, .double a1] M (qV X RR) := by
  refine h_enter (own := RX6) (by decide) rfl (Nat.le_of_ble_eq_true rfl) ?_
  intro p e s m below meth c ls cx hr hlocks hnm hP hS hl
  have hx := cx.1
  have hb := cx.2.1
  have hl : lv_has ls 3 [(0, .ref a0), (1, .double a1)] := hl
  unfold j_X6_gives at hj
  have hgo : ∀ (H : Heap) (locs : List Loc), hp X M H → va_S (hA X) s.heap H locs → W p l e ({ frames := 0, cells := 0, slots := 0, locals := 0 } : Room) s m _ below meth c H locs 0 0 (MQ below (qV X RR) _ s 0 0 (hA X)) (F0 m 0 ls []) := by
    intro H locs hP hS
    refine lv_aload_n hx hb dX6_gives_0 rfl (lv_at hl 0 rfl) ?_
    refine lv_dload_n hx hb dX6_gives_1 rfl (lv_at hl 1 rfl) ?_
    obtain ⟨M1, g_M1, hj⟩ := Option.bind_eq_some_iff.mp hj
    refine r_put cx hP hS g_M1 iX6 tyX6 tyX6_ok nmX6 rfl (by decide) mF_X6_86 rfl rfl rfl dX6_gives_2 (fun H locs hP hS => ?_)
    refine lv_aload_n hx hb dX6_gives_5 rfl (lv_at hl 0 rfl) ?_
    refine lv_iconst (v := 0) hx hb dX6_gives_6 (by decide) ?_
    obtain ⟨M2, g_M2, hj⟩ := Option.bind_eq_some_iff.mp hj
    refine r_put cx hP hS g_M2 iX6 tyX6 tyX6_ok nmX6 rfl (by decide) mF_X6_90 rfl rfl rfl dX6_gives_7 (fun H locs hP hS => ?_)
    exact t_V cx hr hlocks hP hS (Option.some.inj hj) (Nat.le_of_ble_eq_true rfl) (Nat.le_of_ble_eq_true rfl) dX6_gives_10
  exact hgo _ _ hP hS
set_option maxHeartbeats 4000000 in
set_option maxRecDepth 100000 in
theorem c_X6_isZero (l : Launch) (X : hX) (g : Nat) (M : hm) (a0 : UInt64) (RR : Int32) (hj : j_X6_isZero g a0 = some RR) : Ct l X yX6_isZero cX6_isZero 2 (some .boolean) { frames := 0, cells := 0, slots := 0, locals := 0 } [.double a0] M (qI X (M, RR)) := by
  refine h_enter (own := RX6) (by decide) rfl (Nat.le_of_ble_eq_true rfl) ?_
  intro p e s m below meth c ls cx hr hlocks hnm hP hS hl
  have hx := cx.1
  have hb := cx.2.1
  have hl : lv_has ls 2 [(0, .double a0)] := hl
  unfold j_X6_isZero at hj
  have hgo : ∀ (H : Heap) (locs : List Loc), hp X M H → va_S (hA X) s.heap H locs → W p l e ({ frames := 0, cells := 0, slots := 0, locals := 0 } : Room) s m _ below meth c H locs 0 0 (MQ below (qI X (M, RR)) _ s 0 0 (hA X)) (F0 m 0 ls []) := by
    have J_11 : ∀ (s0 : Int32) (H : Heap) (locs : List Loc) (ls : Array Slot), j_X6_isZero_11 g s0 = some RR → hp X M H → va_S (hA X) s.heap H locs → lv_has ls 2 [] → W p l e ({ frames := 0, cells := 0, slots := 0, locals := 0 } : Room) s m _ below meth c H locs 0 0 (MQ below (qI X (M, RR)) _ s 0 0 (hA X)) (F0 m 11 ls [.int s0]) := by
      intro s0 H locs ls hj hP hS hl
      unfold j_X6_isZero_11 at hj
      obtain ⟨z1, g_z1, hj⟩ := Option.bind_eq_some_iff.mp hj
      exact t_Z cx hr hlocks hP hS (zb_eq g_z1).1 (congrArg (Prod.mk M) (Option.some.inj hj)) (Nat.le_of_ble_eq_true rfl) (Nat.le_of_ble_eq_true rfl) dX6_isZero_11
    intro H locs hP hS
    refine lv_dload_n hx hb dX6_isZero_0 rfl (lv_at hl 0 rfl) ?_
    refine lv_dconst0 hx hb dX6_isZero_1 ?_
    refine lv_dcmp hx hb dX6_isZero_2 ?_
    refine lv_if_ne (tgt := 10) hx hb dX6_isZero_3 (by decide) (fun c2 => ?_) (fun c2 => ?_)
    · have hj := if_f c2 hj
      refine lv_iconst (v := 0) hx hb dX6_isZero_10 (by decide) ?_
      exact J_11 (0 : Int32) H locs ls hj hP hS (lv_sub hl [] rfl)
    · have hj := if_t c2 hj
      refine lv_iconst (v := 1) hx hb dX6_isZero_6 (by decide) ?_
      refine lv_goto (tgt := 11) hx hb dX6_isZero_7 (by decide) ?_
      exact J_11 (1 : Int32) H locs ls hj hP hS (lv_sub hl [] rfl)
  exact hgo _ _ hP hS
set_option maxHeartbeats 4000000 in
set_option maxRecDepth 100000 in
theorem c_X6_hasMinus (l : Launch) (X : hX) (g : Nat) (M : hm) (a0 : UInt64) (RR : Int32) (hj : j_X6_hasMinus g a0 = some RR) : Ct l X yX6_hasMinus cX6_hasMinus 2 (some .boolean) { frames := 1, cells := 0, slots := 0, locals := 21 } [.double a0] M (qI X (M, RR)) := by
  refine h_enter (own := RX6) (by decide) rfl (Nat.le_of_ble_eq_true rfl) ?_
  intro p e s m below meth c ls cx hr hlocks hnm hP hS hl
  have hx := cx.1
  have hb := cx.2.1
  have hl : lv_has ls 2 [(0, .double a0)] := hl
  unfold j_X6_hasMinus at hj
  have hgo : ∀ (H : Heap) (locs : List Loc), hp X M H → va_S (hA X) s.heap H locs → W p l e ({ frames := 1, cells := 0, slots := 0, locals := 21 } : Room) s m _ below meth c H locs 0 0 (MQ below (qI X (M, RR)) _ s 0 0 (hA X)) (F0 m 0 ls []) := by
    have J_34 : ∀ (s0 : Int32) (H : Heap) (locs : List Loc) (ls : Array Slot), j_X6_hasMinus_34 g s0 = some RR → hp X M H → va_S (hA X) s.heap H locs → lv_has ls 2 [] → W p l e ({ frames := 1, cells := 0, slots := 0, locals := 21 } : Room) s m _ below meth c H locs 0 0 (MQ below (qI X (M, RR)) _ s 0 0 (hA X)) (F0 m 34 ls [.int s0]) := by
      intro s0 H locs ls hj hP hS hl
      unfold j_X6_hasMinus_34 at hj
      obtain ⟨z1, g_z1, hj⟩ := Option.bind_eq_some_iff.mp hj
      exact t_Z cx hr hlocks hP hS (zb_eq g_z1).1 (congrArg (Prod.mk M) (Option.some.inj hj)) (Nat.le_of_ble_eq_true rfl) (Nat.le_of_ble_eq_true rfl) dX6_hasMinus_34
    intro H locs hP hS
    refine lv_dload_n hx hb dX6_hasMinus_0 rfl (lv_at hl 0 rfl) ?_
    obtain ⟨v2, g_v2, hj⟩ := Option.bind_eq_some_iff.mp hj
    refine f_I (k_S (As := [.double a0]) (n := 1) (rest := []) cx hl.1 hP hS (c_X6_isZero l X g M a0 v2 g_v2) mC_X6_isZero mM_X6_61 mT_X6_isZero mZ_X6 (by decide +kernel) ⟨Nat.le_of_ble_eq_true rfl, Nat.le_of_ble_eq_true rfl⟩ rfl rfl (Nat.le_of_ble_eq_true rfl) dX6_hasMinus_1 ⟨Nat.le_of_ble_eq_true rfl, Nat.le_of_ble_eq_true rfl⟩) hS (fun H locs hP hS => ?_)
    have hP : hp X M H := hP
    refine W.eq (g2 := F0 m 4 ls [.int v2]) rfl ?_
    refine W.widen (k := 0) (n := 0) (Nat.le_of_ble_eq_true rfl) (Nat.le_of_ble_eq_true rfl) ?_
    refine lv_if_eq (tgt := 23) hx hb dX6_hasMinus_4 (by decide) (fun c3 => ?_) (fun c3 => ?_)
    · have hj := if_t c3 hj
      refine lv_dload_n hx hb dX6_hasMinus_23 rfl (lv_at hl 0 rfl) ?_
      refine lv_dconst0 hx hb dX6_hasMinus_24 ?_
      refine lv_dcmp hx hb dX6_hasMinus_25 ?_
      refine lv_if_ge (tgt := 33) hx hb dX6_hasMinus_26 (by decide) (fun c4 => ?_) (fun c4 => ?_)
      · have hj := if_t c4 hj
        refine lv_iconst (v := 0) hx hb dX6_hasMinus_33 (by decide) ?_
        exact J_34 (0 : Int32) H locs ls hj hP hS (lv_sub hl [] rfl)
      · have hj := if_f c4 hj
        refine lv_iconst (v := 1) hx hb dX6_hasMinus_29 (by decide) ?_
        refine lv_goto (tgt := 34) hx hb dX6_hasMinus_30 (by decide) ?_
        exact J_34 (1 : Int32) H locs ls hj hP hS (lv_sub hl [] rfl)
    · have hj := if_f c3 hj
      refine lv_dconst1 hx hb dX6_hasMinus_7 ?_
      refine lv_dload_n hx hb dX6_hasMinus_8 rfl (lv_at hl 0 rfl) ?_
      obtain ⟨v5, g_v5, hj⟩ := Option.bind_eq_some_iff.mp hj
      obtain ⟨n_v5, e_v5⟩ := n64_eq g_v5
      refine lv_ddiv hx hb dX6_hasMinus_9 n_v5 ?_
      rw [← e_v5]
      refine lv_dconst0 hx hb dX6_hasMinus_10 ?_
      refine lv_dcmp hx hb dX6_hasMinus_11 ?_
      refine lv_if_ge (tgt := 19) hx hb dX6_hasMinus_12 (by decide) (fun c6 => ?_) (fun c6 => ?_)
      · have hj := if_t c6 hj
        refine lv_iconst (v := 0) hx hb dX6_hasMinus_19 (by decide) ?_
        refine lv_goto (tgt := 34) hx hb dX6_hasMinus_20 (by decide) ?_
        exact J_34 (0 : Int32) H locs ls hj hP hS (lv_sub hl [] rfl)
      · have hj := if_f c6 hj
        refine lv_iconst (v := 1) hx hb dX6_hasMinus_15 (by decide) ?_
        refine lv_goto (tgt := 34) hx hb dX6_hasMinus_16 (by decide) ?_
        exact J_34 (1 : Int32) H locs ls hj hP hS (lv_sub hl [] rfl)
  exact hgo _ _ hP hS
