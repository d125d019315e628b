set_option maxHeartbeats 4000000 in
set_option maxRecDepth 100000 in
theorem c_X6_digits (l : Launch) (X : hX) (g : Nat) (M : hm) (a0 : UInt64) (a2 : Int32) (a3 : Int32) (a4 : Int32) (RR : Int64) (hj : j_X6_digits g a0 a2 a3 a4 = some RR) : Ct l X yX6_digits cX6_digits 10 (some .long) { frames := 1, cells := 0, slots := 0, locals := 21 } [.double a0, .int a2, .int a3, .int a4] M (qL X (M, RR)) := by
  refine h_enter (own := RX6) (by decide) rfl (Nat.le_of_ble_eq_true rfl) ?_
  intro p e s m below meth c ls cx hr hlocks hnm hP hS hl
  have hx := cx.1
  have hb := cx.2.1
  have hl : lv_has ls 10 [(0, .double a0), (2, .int a2), (3, .int a3), (4, .int a4)] := hl
  unfold j_X6_digits at hj
  have hgo : ∀ (H : Heap) (locs : List Loc), hp X M H → va_S (hA X) s.heap H locs → W p l e ({ frames := 1, cells := 0, slots := 0, locals := 21 } : Room) s m _ below meth c H locs 0 0 (MQ below (qL X (M, RR)) _ s 0 0 (hA X)) (F0 m 0 ls []) := by
    have J_84 : ∀ (p2 : Int32) (p4 : Int32) (p5 : UInt64) (p7 : Int32) (H : Heap) (locs : List Loc) (ls : Array Slot), j_X6_digits_84 g p2 p4 p5 p7 = some RR → hp X M H → va_S (hA X) s.heap H locs → lv_has ls 10 [(2, .int p2), (4, .int p4), (5, .double p5), (7, .int p7)] → W p l e ({ frames := 1, cells := 0, slots := 0, locals := 21 } : Room) s m _ below meth c H locs 0 0 (MQ below (qL X (M, RR)) _ s 0 0 (hA X)) (F0 m 84 ls []) := by
      intro p2 p4 p5 p7 H locs ls hj hP hS hl
      unfold j_X6_digits_84 at hj
      refine lv_lconst (v := 1) hx hb dX6_digits_84 (by decide) ?_
      refine lv_iload_n hx hb dX6_digits_85 rfl (lv_at hl 0 rfl) ?_
      refine lv_lshl (v := ((1 : Int64) <<< (p2.toInt64 &&& 63))) hx hb dX6_digits_86 rfl ?_
      refine lv_l2d hx hb dX6_digits_87 ?_
      refine lv_dstore (lv' := [(8, .double (FP.l2d ((1 : Int64) <<< (p2.toInt64 &&& 63)))), (2, .int p2), (4, .int p4), (5, .double p5), (7, .int p7)]) hx hb dX6_digits_88 hl (by decide) rfl (fun ls hl => ?_)
      refine lv_dload hx hb dX6_digits_90 (lv_at hl 3 rfl) ?_
      refine lv_dconst1 hx hb dX6_digits_92 ?_
      refine lv_dcmp hx hb dX6_digits_93 ?_
      refine lv_if_ge (tgt := 104) hx hb dX6_digits_94 (by decide) (fun c1 => ?_) (fun c1 => ?_)
      · have hj := if_t c1 hj
        refine lv_iload hx hb dX6_digits_104 (lv_at hl 4 rfl) ?_
        refine lv_iload hx hb dX6_digits_106 (lv_at hl 2 rfl) ?_
        refine lv_iadd hx hb dX6_digits_108 ?_
        refine lv_i2l (v := (p7 + p4).toInt64) hx hb dX6_digits_109 rfl ?_
        refine lv_iload_n hx hb dX6_digits_110 rfl (lv_at hl 1 rfl) ?_
        refine lv_lshl (v := (((p7 + p4).toInt64) <<< (p2.toInt64 &&& 63))) hx hb dX6_digits_111 rfl ?_
        refine lv_dload hx hb dX6_digits_112 (lv_at hl 3 rfl) ?_
        refine lv_dconst1 hx hb dX6_digits_114 ?_
        obtain ⟨v2, g_v2, hj⟩ := Option.bind_eq_some_iff.mp hj
        obtain ⟨n_v2, e_v2⟩ := n64_eq g_v2
        refine lv_dsub hx hb dX6_digits_115 n_v2 ?_
        rw [← e_v2]
        refine lv_dload hx hb dX6_digits_116 (lv_at hl 0 rfl) ?_
        obtain ⟨v3, g_v3, hj⟩ := Option.bind_eq_some_iff.mp hj
        obtain ⟨n_v3, e_v3⟩ := n64_eq g_v3
        refine lv_dmul hx hb dX6_digits_118 n_v3 ?_
        rw [← e_v3]
        refine lv_d2l hx hb dX6_digits_119 ?_
        refine lv_lor hx hb dX6_digits_120 ?_
        exact t_L cx hr hlocks hP hS (congrArg (Prod.mk M) (Option.some.inj hj)) (Nat.le_of_ble_eq_true rfl) (Nat.le_of_ble_eq_true rfl) dX6_digits_121
      · have hj := if_f c1 hj
        refine lv_dload hx hb dX6_digits_97 (lv_at hl 3 rfl) ?_
        refine lv_dload hx hb dX6_digits_99 (lv_at hl 0 rfl) ?_
        obtain ⟨v4, g_v4, hj⟩ := Option.bind_eq_some_iff.mp hj
        obtain ⟨n_v4, e_v4⟩ := n64_eq g_v4
        refine lv_dmul hx hb dX6_digits_101 n_v4 ?_
        rw [← e_v4]
        refine lv_d2l hx hb dX6_digits_102 ?_
        exact t_L cx hr hlocks hP hS (congrArg (Prod.mk M) (Option.some.inj hj)) (Nat.le_of_ble_eq_true rfl) (Nat.le_of_ble_eq_true rfl) dX6_digits_103
    have L_57 : ∀ (n57 : Nat) (p2 : Int32) (p3 : Int32) (p4 : Int32) (p5 : UInt64) (p7 : Int32) (H : Heap) (locs : List Loc) (ls : Array Slot), j_X6_digits_57 g n57 p2 p3 p4 p5 p7 = some RR → hp X M H → va_S (hA X) s.heap H locs → lv_has ls 10 [(2, .int p2), (3, .int p3), (4, .int p4), (5, .double p5), (7, .int p7)] → W p l e ({ frames := 1, cells := 0, slots := 0, locals := 21 } : Room) s m _ below meth c H locs 0 0 (MQ below (qL X (M, RR)) _ s 0 0 (hA X)) (F0 m 57 ls []) := by
      intro n57
      induction n57 with
      | zero =>
        intro p2 p3 p4 p5 p7 H locs ls hj
        exact no_zero hj
      | succ n57 ih_57 =>
        intro p2 p3 p4 p5 p7 H locs ls hj hP hS hl
        rw [j_X6_digits_57_s] at hj
        refine lv_dload hx hb dX6_digits_57 (lv_at hl 3 rfl) ?_
        refine lv_dconst1 hx hb dX6_digits_59 ?_
        refine lv_dcmp hx hb dX6_digits_60 ?_
        refine lv_if_ge (tgt := 84) hx hb dX6_digits_61 (by decide) (fun c5 => ?_) (fun c5 => ?_)
        · have hj := if_t c5 hj
          exact J_84 p2 p4 p5 p7 H locs ls hj hP hS (lv_sub hl [0, 2, 3, 4] rfl)
        · have hj := if_f c5 hj
          refine lv_iload hx hb dX6_digits_64 (lv_at hl 4 rfl) ?_
          refine lv_iload_n hx hb dX6_digits_66 rfl (lv_at hl 1 rfl) ?_
          refine lv_icmp_le (tgt := 84) hx hb dX6_digits_67 (by decide) (fun c6 => ?_) (fun c6 => ?_)
          · have hj := if_t c6 hj
            exact J_84 p2 p4 p5 p7 H locs ls hj hP hS (lv_sub hl [0, 2, 3, 4] rfl)
          · have hj := if_f c6 hj
            refine lv_dload hx hb dX6_digits_70 (lv_at hl 3 rfl) ?_
            refine lv_ldc2d hx hb cx.2.2.2.1 (cx.2.2.2.2.1 _ mK_X6_84) dX6_digits_72 ?_
            obtain ⟨v7, g_v7, hj⟩ := Option.bind_eq_some_iff.mp hj
            obtain ⟨n_v7, e_v7⟩ := n64_eq g_v7
            refine lv_dmul hx hb dX6_digits_75 n_v7 ?_
            rw [← e_v7]
            refine lv_dstore (lv' := [(5, .double v7), (2, .int p2), (3, .int p3), (4, .int p4), (7, .int p7)]) hx hb dX6_digits_76 hl (by decide) rfl (fun ls hl => ?_)
            refine lv_iinc (v := (p7 + (-1 : Int32))) (lv' := [(7, .int (p7 + (-1 : Int32))), (5, .double v7), (2, .int p2), (3, .int p3), (4, .int p4)]) hx hb dX6_digits_78 hl (k := 4) rfl rfl (by decide) rfl (fun ls hl => ?_)
            refine lv_goto (tgt := 57) hx hb dX6_digits_81 (by decide) ?_
            exact ih_57 p2 p3 p4 v7 (p7 + (-1 : Int32)) H locs ls hj hP hS (lv_sub hl [2, 3, 4, 1, 0] rfl)
    have L_34 : ∀ (n34 : Nat) (p2 : Int32) (p3 : Int32) (p4 : Int32) (p5 : UInt64) (p7 : Int32) (H : Heap) (locs : List Loc) (ls : Array Slot), j_X6_digits_34 g n34 p2 p3 p4 p5 p7 = some RR → hp X M H → va_S (hA X) s.heap H locs → lv_has ls 10 [(2, .int p2), (3, .int p3), (4, .int p4), (5, .double p5), (7, .int p7)] → W p l e ({ frames := 1, cells := 0, slots := 0, locals := 21 } : Room) s m _ below meth c H locs 0 0 (MQ below (qL X (M, RR)) _ s 0 0 (hA X)) (F0 m 34 ls []) := by
      intro n34
      induction n34 with
      | zero =>
        intro p2 p3 p4 p5 p7 H locs ls hj
        exact no_zero hj
      | succ n34 ih_34 =>
        intro p2 p3 p4 p5 p7 H locs ls hj hP hS hl
        rw [j_X6_digits_34_s] at hj
        refine lv_dload hx hb dX6_digits_34 (lv_at hl 3 rfl) ?_
        refine lv_ldc2d hx hb cx.2.2.2.1 (cx.2.2.2.2.1 _ mK_X6_84) dX6_digits_36 ?_
        refine lv_dcmp hx hb dX6_digits_39 ?_
        refine lv_if_lt (tgt := 57) hx hb dX6_digits_40 (by decide) (fun c8 => ?_) (fun c8 => ?_)
        · have hj := if_t c8 hj
          exact L_57 g p2 p3 p4 p5 p7 H locs ls hj hP hS (lv_sub hl [0, 1, 2, 3, 4] rfl)
        · have hj := if_f c8 hj
          refine lv_dload hx hb dX6_digits_43 (lv_at hl 3 rfl) ?_
          refine lv_ldc2d hx hb cx.2.2.2.1 (cx.2.2.2.2.1 _ mK_X6_84) dX6_digits_45 ?_
          obtain ⟨v9, g_v9, hj⟩ := Option.bind_eq_some_iff.mp hj
          obtain ⟨n_v9, e_v9⟩ := n64_eq g_v9
          refine lv_ddiv hx hb dX6_digits_48 n_v9 ?_
          rw [← e_v9]
          refine lv_dstore (lv' := [(5, .double v9), (2, .int p2), (3, .int p3), (4, .int p4), (7, .int p7)]) hx hb dX6_digits_49 hl (by decide) rfl (fun ls hl => ?_)
          refine lv_iinc (v := (p7 + (1 : Int32))) (lv' := [(7, .int (p7 + (1 : Int32))), (5, .double v9), (2, .int p2), (3, .int p3), (4, .int p4)]) hx hb dX6_digits_51 hl (k := 4) rfl rfl (by decide) rfl (fun ls hl => ?_)
          refine lv_goto (tgt := 34) hx hb dX6_digits_54 (by decide) ?_
          exact ih_34 p2 p3 p4 v9 (p7 + (1 : Int32)) H locs ls hj hP hS (lv_sub hl [2, 3, 4, 1, 0] rfl)
    intro H locs hP hS
    refine lv_dload_n hx hb dX6_digits_0 rfl (lv_at hl 0 rfl) ?_
    obtain ⟨v10, g_v10, hj⟩ := Option.bind_eq_some_iff.mp hj
    refine f_I (k_S (As := [.double a0]) (n := 1) (rest := []) cx hl.1 hP hS (c_X6_isZero l X g M a0 v10 g_v10) mC_X6_isZero mM_X6_61 mT_X6_isZero mZ_X6 (by decide +kernel) ⟨Nat.le_of_ble_eq_true rfl, Nat.le_of_ble_eq_true rfl⟩ rfl rfl (Nat.le_of_ble_eq_true rfl) dX6_digits_1 ⟨Nat.le_of_ble_eq_true rfl, Nat.le_of_ble_eq_true rfl⟩) hS (fun H locs hP hS => ?_)
    have hP : hp X M H := hP
    refine W.eq (g2 := F0 m 4 ls [.int v10]) rfl ?_
    refine W.widen (k := 0) (n := 0) (Nat.le_of_ble_eq_true rfl) (Nat.le_of_ble_eq_true rfl) ?_
    refine lv_if_eq (tgt := 9) hx hb dX6_digits_4 (by decide) (fun c11 => ?_) (fun c11 => ?_)
    · have hj := if_t c11 hj
      refine lv_dload_n hx hb dX6_digits_9 rfl (lv_at hl 0 rfl) ?_
      obtain ⟨v12, g_v12, hj⟩ := Option.bind_eq_some_iff.mp hj
      refine f_I (k_S (As := [.double a0]) (n := 1) (rest := []) cx hl.1 hP hS (c_X6_isInfinite l X g M a0 v12 g_v12) mC_X6_isInfinite mM_X6_111 mT_X6_isInfinite mZ_X6 (by decide +kernel) ⟨Nat.le_of_ble_eq_true rfl, Nat.le_of_ble_eq_true rfl⟩ rfl rfl (Nat.le_of_ble_eq_true rfl) dX6_digits_10 ⟨Nat.le_of_ble_eq_true rfl, Nat.le_of_ble_eq_true rfl⟩) hS (fun H locs hP hS => ?_)
      have hP : hp X M H := hP
      refine W.eq (g2 := F0 m 13 ls [.int v12]) rfl ?_
      refine W.widen (k := 0) (n := 0) (Nat.le_of_ble_eq_true rfl) (Nat.le_of_ble_eq_true rfl) ?_
      refine lv_if_eq (tgt := 28) hx hb dX6_digits_13 (by decide) (fun c13 => ?_) (fun c13 => ?_)
      · have hj := if_t c13 hj
        refine lv_dload_n hx hb dX6_digits_28 rfl (lv_at hl 0 rfl) ?_
        refine lv_dstore (lv' := [(5, .double a0), (0, .double a0), (2, .int a2), (3, .int a3), (4, .int a4)]) hx hb dX6_digits_29 hl (by decide) rfl (fun ls hl => ?_)
        refine lv_iconst (v := 0) hx hb dX6_digits_31 (by decide) ?_
        refine lv_istore (lv' := [(7, .int (0 : Int32)), (5, .double a0), (0, .double a0), (2, .int a2), (3, .int a3), (4, .int a4)]) hx hb dX6_digits_32 hl (by decide) rfl (fun ls hl => ?_)
        exact L_34 g a2 a3 a4 a0 (0 : Int32) H locs ls hj hP hS (lv_sub hl [3, 4, 5, 1, 0] rfl)
      · have hj := if_f c13 hj
        refine lv_ldc2 hx hb cx.2.2.2.1 (cx.2.2.2.2.1 _ mK_X6_245) dX6_digits_16 ?_
        refine lv_iload hx hb dX6_digits_19 (lv_at hl 3 rfl) ?_
        refine lv_i2l (v := a4.toInt64) hx hb dX6_digits_21 rfl ?_
        refine lv_lmul hx hb dX6_digits_22 ?_
        refine lv_lconst (v := 1) hx hb dX6_digits_23 (by decide) ?_
        refine lv_ladd hx hb dX6_digits_24 ?_
        refine lv_iload_n hx hb dX6_digits_25 rfl (lv_at hl 1 rfl) ?_
        refine lv_lshl (v := ((((2 : Int64) * a4.toInt64) + (1 : Int64)) <<< (a2.toInt64 &&& 63))) hx hb dX6_digits_26 rfl ?_
        exact t_L cx hr hlocks hP hS (congrArg (Prod.mk M) (Option.some.inj hj)) (Nat.le_of_ble_eq_true rfl) (Nat.le_of_ble_eq_true rfl) dX6_digits_27
    · have hj := if_f c11 hj
      refine lv_lconst (v := 0) hx hb dX6_digits_7 (by decide) ?_
      exact t_L cx hr hlocks hP hS (congrArg (Prod.mk M) (Option.some.inj hj)) (Nat.le_of_ble_eq_true rfl) (Nat.le_of_ble_eq_true rfl) dX6_digits_8
  exact hgo _ _ hP hS
set_option maxHeartbeats 4000000 in
set_option maxRecDepth 100000 in
theorem c_X6_bits (l : Launch) (X : hX) (g : Nat) (M : hm) (a0 : Nat) (a1 : Int32) (a2 : Int32) (RR : hm × Int64) (hj : j_X6_bits g M a0 a1 a2 = some RR) : Ct l X yX6_bits cX6_bits 9 (some .long) { frames := 8, cells := 0, slots := 0, locals := 190 } [.ref a0, .int a1, .int a2] M (qL X RR) := by
  refine h_enter (own := RX6) (by decide) rfl (Nat.le_of_ble_eq_true rfl) ?_
  intro p e s m below meth c ls cx hr hlocks hnm hP hS hl
  have hx := cx.1
  have hb := cx.2.1
  have hl : lv_has ls 9 [(0, .ref a0), (1, .int a1), (2, .int a2)] := hl
  unfold j_X6_bits at hj
  have hgo : ∀ (H : Heap) (locs : List Loc), hp X M H → va_S (hA X) s.heap H locs → W p l e ({ frames := 8, cells := 0, slots := 0, locals := 190 } : Room) s m _ below meth c H locs 0 0 (MQ below (qL X RR) _ s 0 0 (hA X)) (F0 m 0 ls []) := by
    have J_128 : ∀ (M : hm) (s0 : Int64) (H : Heap) (locs : List Loc) (ls : Array Slot), j_X6_bits_128 g M s0 = some RR → hp X M H → va_S (hA X) s.heap H locs → lv_has ls 9 [] → W p l e ({ frames := 8, cells := 0, slots := 0, locals := 190 } : Room) s m _ below meth c H locs 0 0 (MQ below (qL X RR) _ s 0 0 (hA X)) (F0 m 128 ls [.long s0]) := by
      intro M s0 H locs ls hj hP hS hl
      unfold j_X6_bits_128 at hj
      exact t_L cx hr hlocks hP hS (Option.some.inj hj) (Nat.le_of_ble_eq_true rfl) (Nat.le_of_ble_eq_true rfl) dX6_bits_128
    have J_94 : ∀ (M : hm) (s0 : Int64) (H : Heap) (locs : List Loc) (ls : Array Slot), j_X6_bits_94 g M s0 = some RR → hp X M H → va_S (hA X) s.heap H locs → lv_has ls 9 [] → W p l e ({ frames := 8, cells := 0, slots := 0, locals := 190 } : Room) s m _ below meth c H locs 0 0 (MQ below (qL X RR) _ s 0 0 (hA X)) (F0 m 94 ls [.long s0]) := by
      intro M s0 H locs ls hj hP hS hl
      unfold j_X6_bits_94 at hj
      exact t_L cx hr hlocks hP hS (Option.some.inj hj) (Nat.le_of_ble_eq_true rfl) (Nat.le_of_ble_eq_true rfl) dX6_bits_94
    have J_50 : ∀ (M : hm) (p0 : Nat) (p1 : Int32) (p3 : UInt64) (s0 : UInt64) (H : Heap) (locs : List Loc) (ls : Array Slot), j_X6_bits_50 g M p0 p1 p3 s0 = some RR → hp X M H → va_S (hA X) s.heap H locs → lv_has ls 9 [(0, .ref p0), (1, .int p1), (3, .double p3)] → W p l e ({ frames := 8, cells := 0, slots := 0, locals := 190 } : Room) s m _ below meth c H locs 0 0 (MQ below (qL X RR) _ s 0 0 (hA X)) (F0 m 50 ls [.double s0]) := by
      intro M p0 p1 p3 s0 H locs ls hj hP hS hl
      unfold j_X6_bits_50 at hj
      refine lv_dstore (lv' := [(5, .double s0), (0, .ref p0), (1, .int p1), (3, .double p3)]) hx hb dX6_bits_50 hl (by decide) rfl (fun ls hl => ?_)
      refine lv_aload_n hx hb dX6_bits_52 rfl (lv_at hl 1 rfl) ?_
      obtain ⟨v1, g_v1, hj⟩ := Option.bind_eq_some_iff.mp hj
      refine r_getR cx hP g_v1 iX6 rfl (by decide) mF_X6_19 dX6_bits_53 ?_
      refine lv_iload_n hx hb dX6_bits_56 rfl (lv_at hl 2 rfl) ?_
      obtain ⟨b2, e_b2, hj⟩ := Option.bind_eq_some_iff.mp hj
      subst e_b2
      obtain ⟨v3, g_v3, hj⟩ := Option.bind_eq_some_iff.mp hj
      refine r_aldZ cx hP g_v3 dX6_bits_57 ?_
      refine lv_if_eq (tgt := 95) hx hb dX6_bits_58 (by decide) (fun c4 => ?_) (fun c4 => ?_)
      · have hj := if_t c4 hj
        refine lv_dload hx hb dX6_bits_95 (lv_at hl 0 rfl) ?_
        refine lv_bipush (v := 52) hx hb dX6_bits_97 (by decide) ?_
        refine lv_sipush (v := -1022) hx hb dX6_bits_99 (by decide) ?_
        refine lv_sipush (v := 1023) hx hb dX6_bits_102 (by decide) ?_
        obtain ⟨v5, g_v5, hj⟩ := Option.bind_eq_some_iff.mp hj
        refine f_L (k_S (As := [.double s0, .int (52 : Int32), .int (-1022 : Int32), .int (1023 : Int32)]) (n := 4) (rest := []) cx hl.1 hP hS (c_X6_digits l X g M s0 (52 : Int32) (-1022 : Int32) (1023 : Int32) v5 g_v5) mC_X6_digits mM_X6_247 mT_X6_digits mZ_X6 (by decide +kernel) ⟨Nat.le_of_ble_eq_true rfl, Nat.le_of_ble_eq_true rfl⟩ rfl rfl (Nat.le_of_ble_eq_true rfl) dX6_bits_105 ⟨Nat.le_of_ble_eq_true rfl, Nat.le_of_ble_eq_true rfl⟩) hS (fun H locs hP hS => ?_)
        have hP : hp X M H := hP
        refine W.eq (g2 := F0 m 108 ls [.long v5]) rfl ?_
        refine W.widen (k := 0) (n := 0) (Nat.le_of_ble_eq_true rfl) (Nat.le_of_ble_eq_true rfl) ?_
        refine lv_lstore (lv' := [(7, .long v5), (5, .double s0), (0, .ref p0), (1, .int p1), (3, .double p3)]) hx hb dX6_bits_108 hl (by decide) rfl (fun ls hl => ?_)
        refine lv_dload_n hx hb dX6_bits_110 rfl (lv_at hl 4 rfl) ?_
        obtain ⟨v6, g_v6, hj⟩ := Option.bind_eq_some_iff.mp hj
        refine f_I (k_S (As := [.double p3]) (n := 1) (rest := []) cx hl.1 hP hS (c_X6_hasMinus l X g M p3 v6 g_v6) mC_X6_hasMinus mM_X6_67 mT_X6_hasMinus mZ_X6 (by decide +kernel) ⟨Nat.le_of_ble_eq_true rfl, Nat.le_of_ble_eq_true rfl⟩ rfl rfl (Nat.le_of_ble_eq_true rfl) dX6_bits_111 ⟨Nat.le_of_ble_eq_true rfl, Nat.le_of_ble_eq_true rfl⟩) hS (fun H locs hP hS => ?_)
        have hP : hp X M H := hP
        refine W.eq (g2 := F0 m 114 ls [.int v6]) rfl ?_
        refine W.widen (k := 0) (n := 0) (Nat.le_of_ble_eq_true rfl) (Nat.le_of_ble_eq_true rfl) ?_
        refine lv_if_eq (tgt := 126) hx hb dX6_bits_114 (by decide) (fun c7 => ?_) (fun c7 => ?_)
        · have hj := if_t c7 hj
          refine lv_lload hx hb dX6_bits_126 (lv_at hl 0 rfl) ?_
          exact J_128 M v5 H locs ls hj hP hS (lv_sub hl [] rfl)
        · have hj := if_f c7 hj
          refine lv_lload hx hb dX6_bits_117 (lv_at hl 0 rfl) ?_
          refine lv_ldc2 hx hb cx.2.2.2.1 (cx.2.2.2.2.1 _ mK_X6_252) dX6_bits_119 ?_
          refine lv_lor hx hb dX6_bits_122 ?_
          refine lv_goto (tgt := 128) hx hb dX6_bits_123 (by decide) ?_
          exact J_128 M (v5 ||| (-9223372036854775808 : Int64)) H locs ls hj hP hS (lv_sub hl [] rfl)
      · have hj := if_f c4 hj
        refine lv_dload hx hb dX6_bits_61 (lv_at hl 0 rfl) ?_
        refine lv_bipush (v := 23) hx hb dX6_bits_63 (by decide) ?_
        refine lv_bipush (v := -126) hx hb dX6_bits_65 (by decide) ?_
        refine lv_bipush (v := 127) hx hb dX6_bits_67 (by decide) ?_
        obtain ⟨v8, g_v8, hj⟩ := Option.bind_eq_some_iff.mp hj
        refine f_L (k_S (As := [.double s0, .int (23 : Int32), .int (-126 : Int32), .int (127 : Int32)]) (n := 4) (rest := []) cx hl.1 hP hS (c_X6_digits l X g M s0 (23 : Int32) (-126 : Int32) (127 : Int32) v8 g_v8) mC_X6_digits mM_X6_247 mT_X6_digits mZ_X6 (by decide +kernel) ⟨Nat.le_of_ble_eq_true rfl, Nat.le_of_ble_eq_true rfl⟩ rfl rfl (Nat.le_of_ble_eq_true rfl) dX6_bits_69 ⟨Nat.le_of_ble_eq_true rfl, Nat.le_of_ble_eq_true rfl⟩) hS (fun H locs hP hS => ?_)
        have hP : hp X M H := hP
        refine W.eq (g2 := F0 m 72 ls [.long v8]) rfl ?_
        refine W.widen (k := 0) (n := 0) (Nat.le_of_ble_eq_true rfl) (Nat.le_of_ble_eq_true rfl) ?_
        refine lv_l2i (v := v8.toInt32) hx hb dX6_bits_72 rfl ?_
        refine lv_istore (lv' := [(7, .int v8.toInt32), (5, .double s0), (0, .ref p0), (1, .int p1), (3, .double p3)]) hx hb dX6_bits_73 hl (by decide) rfl (fun ls hl => ?_)
        refine lv_dload_n hx hb dX6_bits_75 rfl (lv_at hl 4 rfl) ?_
        obtain ⟨v9, g_v9, hj⟩ := Option.bind_eq_some_iff.mp hj
        refine f_I (k_S (As := [.double p3]) (n := 1) (rest := []) cx hl.1 hP hS (c_X6_hasMinus l X g M p3 v9 g_v9) mC_X6_hasMinus mM_X6_67 mT_X6_hasMinus mZ_X6 (by decide +kernel) ⟨Nat.le_of_ble_eq_true rfl, Nat.le_of_ble_eq_true rfl⟩ rfl rfl (Nat.le_of_ble_eq_true rfl) dX6_bits_76 ⟨Nat.le_of_ble_eq_true rfl, Nat.le_of_ble_eq_true rfl⟩) hS (fun H locs hP hS => ?_)
        have hP : hp X M H := hP
        refine W.eq (g2 := F0 m 79 ls [.int v9]) rfl ?_
        refine W.widen (k := 0) (n := 0) (Nat.le_of_ble_eq_true rfl) (Nat.le_of_ble_eq_true rfl) ?_
        refine lv_if_eq (tgt := 91) hx hb dX6_bits_79 (by decide) (fun c10 => ?_) (fun c10 => ?_)
        · have hj := if_t c10 hj
          refine lv_iload hx hb dX6_bits_91 (lv_at hl 0 rfl) ?_
          refine lv_i2l (v := v8.toInt32.toInt64) hx hb dX6_bits_93 rfl ?_
          exact J_94 M v8.toInt32.toInt64 H locs ls hj hP hS (lv_sub hl [] rfl)
        · have hj := if_f c10 hj
          refine lv_iload hx hb dX6_bits_82 (lv_at hl 0 rfl) ?_
          refine lv_ldc hx hb cx.2.2.2.1 (cx.2.2.2.2.1 _ mK_X6_251) dX6_bits_84 ?_
          refine lv_ior hx hb dX6_bits_86 ?_
          refine lv_i2l (v := (v8.toInt32 ||| (-2147483648 : Int32)).toInt64) hx hb dX6_bits_87 rfl ?_
          refine lv_goto (tgt := 94) hx hb dX6_bits_88 (by decide) ?_
          exact J_94 M ((v8.toInt32 ||| (-2147483648 : Int32)).toInt64) H locs ls hj hP hS (lv_sub hl [] rfl)
    have J_23 : ∀ (M : hm) (H : Heap) (locs : List Loc) (ls : Array Slot), j_X6_bits_23 g M = some RR → hp X M H → va_S (hA X) s.heap H locs → lv_has ls 9 [] → W p l e ({ frames := 8, cells := 0, slots := 0, locals := 190 } : Room) s m _ below meth c H locs 0 0 (MQ below (qL X RR) _ s 0 0 (hA X)) (F0 m 23 ls []) := by
      intro M H locs ls hj hP hS hl
      unfold j_X6_bits_23 at hj
      refine lv_lconst (v := 0) hx hb dX6_bits_23 (by decide) ?_
      exact t_L cx hr hlocks hP hS (Option.some.inj hj) (Nat.le_of_ble_eq_true rfl) (Nat.le_of_ble_eq_true rfl) dX6_bits_24
    intro H locs hP hS
    refine lv_aload_n hx hb dX6_bits_0 rfl (lv_at hl 0 rfl) ?_
    refine lv_iload_n hx hb dX6_bits_1 rfl (lv_at hl 1 rfl) ?_
    refine lv_iload_n hx hb dX6_bits_2 rfl (lv_at hl 2 rfl) ?_
    obtain ⟨_, o11, hj⟩ := Option.bind_eq_some_iff.mp hj
    obtain ⟨⟨Mq12, vq12⟩, g_q12, hj⟩ := Option.bind_eq_some_iff.mp hj
    refine f_I (k_V (b := a0) (As := [.int a1, .int a2]) (n := 2) (rest := []) cx hl.1 hP hS (c_X6_isThere l X g M a0 a1 a2 (Mq12, vq12) g_q12) o11 rfl mC_X6_isThere mM_X6_242 mI_X6_isThere mS_X6_isThere mZ_X6 (by decide +kernel) ⟨Nat.le_of_ble_eq_true rfl, Nat.le_of_ble_eq_true rfl⟩ rfl rfl (Nat.le_of_ble_eq_true rfl) dX6_bits_3 ⟨Nat.le_of_ble_eq_true rfl, Nat.le_of_ble_eq_true rfl⟩) hS (fun H locs hP hS => ?_)
    have hP : hp X Mq12 H := hP
    refine W.eq (g2 := F0 m 6 ls [.int vq12]) rfl ?_
    refine W.widen (k := 0) (n := 0) (Nat.le_of_ble_eq_true rfl) (Nat.le_of_ble_eq_true rfl) ?_
    refine lv_if_eq (tgt := 23) hx hb dX6_bits_6 (by decide) (fun c13 => ?_) (fun c13 => ?_)
    · have hj := if_t c13 hj
      exact J_23 Mq12 H locs ls hj hP hS (lv_sub hl [] rfl)
    · have hj := if_f c13 hj
      refine lv_aload_n hx hb dX6_bits_9 rfl (lv_at hl 0 rfl) ?_
      obtain ⟨v14, g_v14, hj⟩ := Option.bind_eq_some_iff.mp hj
      refine r_getR cx hP g_v14 iX6 rfl (by decide) mF_X6_29 dX6_bits_10 ?_
      refine lv_bipush (v := 16) hx hb dX6_bits_13 (by decide) ?_
      refine lv_iload_n hx hb dX6_bits_15 rfl (lv_at hl 1 rfl) ?_
      refine lv_imul hx hb dX6_bits_16 ?_
      refine lv_iload_n hx hb dX6_bits_17 rfl (lv_at hl 2 rfl) ?_
      refine lv_iadd hx hb dX6_bits_18 ?_
      obtain ⟨b15, e_b15, hj⟩ := Option.bind_eq_some_iff.mp hj
      subst e_b15
      obtain ⟨v16, g_v16, hj⟩ := Option.bind_eq_some_iff.mp hj
      refine r_aldZ cx hP g_v16 dX6_bits_19 ?_
      refine lv_if_eq (tgt := 25) hx hb dX6_bits_20 (by decide) (fun c17 => ?_) (fun c17 => ?_)
      · have hj := if_t c17 hj
        refine lv_aload_n hx hb dX6_bits_25 rfl (lv_at hl 0 rfl) ?_
        obtain ⟨v18, g_v18, hj⟩ := Option.bind_eq_some_iff.mp hj
        refine r_getR cx hP g_v18 iX6 rfl (by decide) mF_X6_26 dX6_bits_26 ?_
        refine lv_bipush (v := 16) hx hb dX6_bits_29 (by decide) ?_
        refine lv_iload_n hx hb dX6_bits_31 rfl (lv_at hl 1 rfl) ?_
        refine lv_imul hx hb dX6_bits_32 ?_
        refine lv_iload_n hx hb dX6_bits_33 rfl (lv_at hl 2 rfl) ?_
        refine lv_iadd hx hb dX6_bits_34 ?_
        obtain ⟨b19, e_b19, hj⟩ := Option.bind_eq_some_iff.mp hj
        subst e_b19
        obtain ⟨v20, g_v20, hj⟩ := Option.bind_eq_some_iff.mp hj
        refine r_aldD cx hP g_v20 dX6_bits_35 ?_
        refine lv_dstore_n (lv' := [(3, .double v20), (0, .ref a0), (1, .int a1), (2, .int a2)]) hx hb dX6_bits_36 rfl hl (by decide) rfl (fun ls hl => ?_)
        refine lv_dload_n hx hb dX6_bits_37 rfl (lv_at hl 0 rfl) ?_
        obtain ⟨v21, g_v21, hj⟩ := Option.bind_eq_some_iff.mp hj
        refine f_I (k_S (As := [.double v20]) (n := 1) (rest := []) cx hl.1 hP hS (c_X6_hasMinus l X g Mq12 v20 v21 g_v21) mC_X6_hasMinus mM_X6_67 mT_X6_hasMinus mZ_X6 (by decide +kernel) ⟨Nat.le_of_ble_eq_true rfl, Nat.le_of_ble_eq_true rfl⟩ rfl rfl (Nat.le_of_ble_eq_true rfl) dX6_bits_38 ⟨Nat.le_of_ble_eq_true rfl, Nat.le_of_ble_eq_true rfl⟩) hS (fun H locs hP hS => ?_)
        have hP : hp X Mq12 H := hP
        refine W.eq (g2 := F0 m 41 ls [.int v21]) rfl ?_
        refine W.widen (k := 0) (n := 0) (Nat.le_of_ble_eq_true rfl) (Nat.le_of_ble_eq_true rfl) ?_
        refine lv_if_eq (tgt := 49) hx hb dX6_bits_41 (by decide) (fun c22 => ?_) (fun c22 => ?_)
        · have hj := if_t c22 hj
          refine lv_dload_n hx hb dX6_bits_49 rfl (lv_at hl 0 rfl) ?_
          exact J_50 Mq12 a0 a1 v20 v20 H locs ls hj hP hS (lv_sub hl [1, 2, 0] rfl)
        · have hj := if_f c22 hj
          refine lv_dload_n hx hb dX6_bits_44 rfl (lv_at hl 0 rfl) ?_
          refine lv_dneg hx hb dX6_bits_45 ?_
          refine lv_goto (tgt := 50) hx hb dX6_bits_46 (by decide) ?_
          exact J_50 Mq12 a0 a1 v20 (FP.dneg v20) H locs ls hj hP hS (lv_sub hl [1, 2, 0] rfl)
      · have hj := if_f c17 hj
        exact J_23 Mq12 H locs ls hj hP hS (lv_sub hl [] rfl)
  exact hgo _ _ hP hS
set_option maxHeartbeats 4000000 in
set_option maxRecDepth 100000 in
theorem c_X6_canSet (l : Launch) (X : hX) (g : Nat) (M : hm) (a0 : Nat) (a1 : Int32) (a2 : Int32) (RR : Int32) (hj : j_X6_canSet g M a0 a1 a2 = some RR) : Ct l X yX6_canSet cX6_canSet 3 (some .boolean) { frames := 1, cells := 0, slots := 0, locals := 22 } [.ref a0, .int a1, .int a2] M (qI X (M, RR)) := by
  refine h_enter (own := RX6) (by decide) rfl (Nat.le_of_ble_eq_true rfl) ?_
  intro p e s m below meth c ls cx hr hlocks hnm hP hS hl
  have hx := cx.1
  have hb := cx.2.1
  have hl : lv_has ls 3 [(0, .ref a0), (1, .int a1), (2, .int a2)] := hl
  unfold j_X6_canSet at hj
  have hgo : ∀ (H : Heap) (locs : List Loc), hp X M H → va_S (hA X) s.heap H locs → W p l e ({ frames := 1, cells := 0, slots := 0, locals := 22 } : Room) s m _ below meth c H locs 0 0 (MQ below (qI X (M, RR)) _ s 0 0 (hA X)) (F0 m 0 ls []) := by
    have J_36 : ∀ (s0 : Int32) (H : Heap) (locs : List Loc) (ls : Array Slot), j_X6_canSet_36 g M s0 = some RR → hp X M H → va_S (hA X) s.heap H locs → lv_has ls 3 [] → W p l e ({ frames := 1, cells := 0, slots := 0, locals := 22 } : Room) s m _ below meth c H locs 0 0 (MQ below (qI X (M, RR)) _ s 0 0 (hA X)) (F0 m 36 ls [.int s0]) := by
      intro s0 H locs ls hj hP hS hl
      unfold j_X6_canSet_36 at hj
      obtain ⟨z1, g_z1, hj⟩ := Option.bind_eq_some_iff.mp hj
      exact t_Z cx hr hlocks hP hS (zb_eq g_z1).1 (congrArg (Prod.mk M) (Option.some.inj hj)) (Nat.le_of_ble_eq_true rfl) (Nat.le_of_ble_eq_true rfl) dX6_canSet_36
    have J_35 : ∀ (H : Heap) (locs : List Loc) (ls : Array Slot), j_X6_canSet_35 g M  = some RR → hp X M H → va_S (hA X) s.heap H locs → lv_has ls 3 [] → W p l e ({ frames := 1, cells := 0, slots := 0, locals := 22 } : Room) s m _ below meth c H locs 0 0 (MQ below (qI X (M, RR)) _ s 0 0 (hA X)) (F0 m 35 ls []) := by
      intro  H locs ls hj hP hS hl
      unfold j_X6_canSet_35 at hj
      refine lv_iconst (v := 0) hx hb dX6_canSet_35 (by decide) ?_
      exact J_36 (0 : Int32) H locs ls hj hP hS (lv_sub hl [] rfl)
    intro H locs hP hS
    refine lv_iload_n hx hb dX6_canSet_0 rfl (lv_at hl 1 rfl) ?_
    refine lv_iconst (v := 0) hx hb dX6_canSet_1 (by decide) ?_
    refine lv_bipush (v := 11) hx hb dX6_canSet_2 (by decide) ?_
    obtain ⟨v2, g_v2, hj⟩ := Option.bind_eq_some_iff.mp hj
    refine f_I (k_S (As := [.int a1, .int (0 : Int32), .int (11 : Int32)]) (n := 3) (rest := []) cx hl.1 hP hS (c_X6_isIn l X g M a1 (0 : Int32) (11 : Int32) v2 g_v2) mC_X6_isIn mM_X6_191 mT_X6_isIn mZ_X6 (by decide +kernel) ⟨Nat.le_of_ble_eq_true rfl, Nat.le_of_ble_eq_true rfl⟩ rfl rfl (Nat.le_of_ble_eq_true rfl) dX6_canSet_4 ⟨Nat.le_of_ble_eq_true rfl, Nat.le_of_ble_eq_true rfl⟩) hS (fun H locs hP hS => ?_)
    have hP : hp X M H := hP
    refine W.eq (g2 := F0 m 7 ls [.int v2]) rfl ?_
    refine W.widen (k := 0) (n := 0) (Nat.le_of_ble_eq_true rfl) (Nat.le_of_ble_eq_true rfl) ?_
    refine lv_if_eq (tgt := 35) hx hb dX6_canSet_7 (by decide) (fun c3 => ?_) (fun c3 => ?_)
    · have hj := if_t c3 hj
      exact J_35  H locs ls hj hP hS (lv_sub hl [] rfl)
    · have hj := if_f c3 hj
      refine lv_iload_n hx hb dX6_canSet_10 rfl (lv_at hl 2 rfl) ?_
      refine lv_iconst (v := 0) hx hb dX6_canSet_11 (by decide) ?_
      refine lv_bipush (v := 15) hx hb dX6_canSet_12 (by decide) ?_
      obtain ⟨v4, g_v4, hj⟩ := Option.bind_eq_some_iff.mp hj
      refine f_I (k_S (As := [.int a2, .int (0 : Int32), .int (15 : Int32)]) (n := 3) (rest := []) cx hl.1 hP hS (c_X6_isIn l X g M a2 (0 : Int32) (15 : Int32) v4 g_v4) mC_X6_isIn mM_X6_191 mT_X6_isIn mZ_X6 (by decide +kernel) ⟨Nat.le_of_ble_eq_true rfl, Nat.le_of_ble_eq_true rfl⟩ rfl rfl (Nat.le_of_ble_eq_true rfl) dX6_canSet_14 ⟨Nat.le_of_ble_eq_true rfl, Nat.le_of_ble_eq_true rfl⟩) hS (fun H locs hP hS => ?_)
      have hP : hp X M H := hP
      refine W.eq (g2 := F0 m 17 ls [.int v4]) rfl ?_
      refine W.widen (k := 0) (n := 0) (Nat.le_of_ble_eq_true rfl) (Nat.le_of_ble_eq_true rfl) ?_
      refine lv_if_eq (tgt := 35) hx hb dX6_canSet_17 (by decide) (fun c5 => ?_) (fun c5 => ?_)
      · have hj := if_t c5 hj
        exact J_35  H locs ls hj hP hS (lv_sub hl [] rfl)
      · have hj := if_f c5 hj
        refine lv_aload_n hx hb dX6_canSet_20 rfl (lv_at hl 0 rfl) ?_
        obtain ⟨v6, g_v6, hj⟩ := Option.bind_eq_some_iff.mp hj
        refine r_getR cx hP g_v6 iX6 rfl (by decide) mF_X6_22 dX6_canSet_21 ?_
        refine lv_iconst (v := 4) hx hb dX6_canSet_24 (by decide) ?_
        refine lv_iload_n hx hb dX6_canSet_25 rfl (lv_at hl 1 rfl) ?_
        refine lv_imul hx hb dX6_canSet_26 ?_
        obtain ⟨b7, e_b7, hj⟩ := Option.bind_eq_some_iff.mp hj
        subst e_b7
        obtain ⟨v8, g_v8, hj⟩ := Option.bind_eq_some_iff.mp hj
        refine r_aldI cx hP g_v8 dX6_canSet_27 ?_
        refine lv_if_ge (tgt := 35) hx hb dX6_canSet_28 (by decide) (fun c9 => ?_) (fun c9 => ?_)
        · have hj := if_t c9 hj
          exact J_35  H locs ls hj hP hS (lv_sub hl [] rfl)
        · have hj := if_f c9 hj
          refine lv_iconst (v := 1) hx hb dX6_canSet_31 (by decide) ?_
          refine lv_goto (tgt := 36) hx hb dX6_canSet_32 (by decide) ?_
          exact J_36 (1 : Int32) H locs ls hj hP hS (lv_sub hl [] rfl)
  exact hgo _ _ hP hS
set_option maxHeartbeats 4000000 in
set_option maxRecDepth 100000 in
theorem c_X6_changed (l : Launch) (X : hX) (g : Nat) (M : hm) (a0 : Nat) (RR : hm × Int32) (hj : j_X6_changed g M a0 = some RR) : Ct l X yX6_changed cX6_changed 1 (some .int) { frames := 0, cells := 0, slots := 0, locals := 0 } [.ref a0] M (qI X RR) := by
  refine h_enter (own := RX6) (by decide) rfl (Nat.le_of_ble_eq_true rfl) ?_
  intro p e s m below meth c ls cx hr hlocks hnm hP hS hl
  have hx := cx.1
  have hb := cx.2.1
  have hl : lv_has ls 1 [(0, .ref a0)] := hl
  unfold j_X6_changed at hj
  have hgo : ∀ (H : Heap) (locs : List Loc), hp X M H → va_S (hA X) s.heap H locs → W p l e ({ frames := 0, cells := 0, slots := 0, locals := 0 } : Room) s m _ below meth c H locs 0 0 (MQ below (qI X RR) _ s 0 0 (hA X)) (F0 m 0 ls []) := by
    intro H locs hP hS
    refine lv_aload_n hx hb dX6_changed_0 rfl (lv_at hl 0 rfl) ?_
    refine lv_dup hx hb dX6_changed_1 rfl ?_
    obtain ⟨v1, g_v1, hj⟩ := Option.bind_eq_some_iff.mp hj
    refine r_getI cx hP g_v1 iX6 rfl (by decide) mF_X6_187 dX6_changed_2 ?_
    refine lv_iconst (v := 1) hx hb dX6_changed_5 (by decide) ?_
    refine lv_iadd hx hb dX6_changed_6 ?_
    obtain ⟨M2, g_M2, hj⟩ := Option.bind_eq_some_iff.mp hj
    refine r_put cx hP hS g_M2 iX6 tyX6 tyX6_ok nmX6 rfl (by decide) mF_X6_187 rfl rfl rfl dX6_changed_7 (fun H locs hP hS => ?_)
    refine lv_iconst (v := 1) hx hb dX6_changed_10 (by decide) ?_
    exact t_I cx hr hlocks hP hS (Option.some.inj hj) (Nat.le_of_ble_eq_true rfl) (Nat.le_of_ble_eq_true rfl) dX6_changed_11
  exact hgo _ _ hP hS
set_option maxHeartbeats 4000000 in
set_option maxRecDepth 100000 in
theorem c_X6_compared (l : Launch) (X : hX) (g : Nat) (M : hm) (a0 : Nat) (a1 : Int32) (a2 : Int32) (a3 : Int32) (RR : hm × Int32) (hj : j_X6_compared g M a0 a1 a2 a3 = some RR) : Ct l X yX6_compared cX6_compared 8 (some .int) { frames := 7, cells := 0, slots := 0, locals := 168 } [.ref a0, .int a1, .int a2, .int a3] M (qI X RR) := by
  refine h_enter (own := RX6) (by decide) rfl (Nat.le_of_ble_eq_true rfl) ?_
  intro p e s m below meth c ls cx hr hlocks hnm hP hS hl
  have hx := cx.1
  have hb := cx.2.1
  have hl : lv_has ls 8 [(0, .ref a0), (1, .int a1), (2, .int a2), (3, .int a3)] := hl
  unfold j_X6_compared at hj
  have hgo : ∀ (H : Heap) (locs : List Loc), hp X M H → va_S (hA X) s.heap H locs → W p l e ({ frames := 7, cells := 0, slots := 0, locals := 168 } : Room) s m _ below meth c H locs 0 0 (MQ below (qI X RR) _ s 0 0 (hA X)) (F0 m 0 ls []) := by
    have J_118 : ∀ (M : hm) (p4 : Int32) (H : Heap) (locs : List Loc) (ls : Array Slot), j_X6_compared_118 g M p4 = some RR → hp X M H → va_S (hA X) s.heap H locs → lv_has ls 8 [(4, .int p4)] → W p l e ({ frames := 7, cells := 0, slots := 0, locals := 168 } : Room) s m _ below meth c H locs 0 0 (MQ below (qI X RR) _ s 0 0 (hA X)) (F0 m 118 ls []) := by
      intro M p4 H locs ls hj hP hS hl
      unfold j_X6_compared_118 at hj
      refine lv_iload hx hb dX6_compared_118 (lv_at hl 0 rfl) ?_
      exact t_I cx hr hlocks hP hS (Option.some.inj hj) (Nat.le_of_ble_eq_true rfl) (Nat.le_of_ble_eq_true rfl) dX6_compared_120
    have L_42 : ∀ (n42 : Nat) (M : hm) (p0 : Nat) (p1 : Int32) (p2 : Int32) (p3 : Int32) (p4 : Int32) (p5 : Int32) (H : Heap) (locs : List Loc) (ls : Array Slot), j_X6_compared_42 g n42 M p0 p1 p2 p3 p4 p5 = some RR → hp X M H → va_S (hA X) s.heap H locs → lv_has ls 8 [(0, .ref p0), (1, .int p1), (2, .int p2), (3, .int p3), (4, .int p4), (5, .int p5)] → W p l e ({ frames := 7, cells := 0, slots := 0, locals := 168 } : Room) s m _ below meth c H locs 0 0 (MQ below (qI X RR) _ s 0 0 (hA X)) (F0 m 42 ls []) := by
      intro n42
      induction n42 with
      | zero =>
        intro M p0 p1 p2 p3 p4 p5 H locs ls hj
        exact no_zero hj
      | succ n42 ih_42 =>
        have J_109 : ∀ (M : hm) (p0 : Nat) (p1 : Int32) (p2 : Int32) (p3 : Int32) (p5 : Int32) (s0 : Int32) (s1 : Int32) (H : Heap) (locs : List Loc) (ls : Array Slot), j_X6_compared_109 g (fun M p0 p1 p2 p3 p4 p5 => j_X6_compared_42 g n42 M p0 p1 p2 p3 p4 p5) M p0 p1 p2 p3 p5 s0 s1 = some RR → hp X M H → va_S (hA X) s.heap H locs → lv_has ls 8 [(0, .ref p0), (1, .int p1), (2, .int p2), (3, .int p3), (5, .int p5)] → W p l e ({ frames := 7, cells := 0, slots := 0, locals := 168 } : Room) s m _ below meth c H locs 0 0 (MQ below (qI X RR) _ s 0 0 (hA X)) (F0 m 109 ls [.int s0, .int s1]) := by
          intro M p0 p1 p2 p3 p5 s0 s1 H locs ls hj hP hS hl
          unfold j_X6_compared_109 at hj
          refine lv_iadd hx hb dX6_compared_109 ?_
          refine lv_istore (lv' := [(4, .int (s1 + s0)), (0, .ref p0), (1, .int p1), (2, .int p2), (3, .int p3), (5, .int p5)]) hx hb dX6_compared_110 hl (by decide) rfl (fun ls hl => ?_)
          refine lv_iinc (v := (p5 + (1 : Int32))) (lv' := [(5, .int (p5 + (1 : Int32))), (4, .int (s1 + s0)), (0, .ref p0), (1, .int p1), (2, .int p2), (3, .int p3)]) hx hb dX6_compared_112 hl (k := 5) rfl rfl (by decide) rfl (fun ls hl => ?_)
          refine lv_goto (tgt := 42) hx hb dX6_compared_115 (by decide) ?_
          exact ih_42 M p0 p1 p2 p3 (s1 + s0) (p5 + (1 : Int32)) H locs ls hj hP hS (lv_sub hl [2, 3, 4, 5, 1, 0] rfl)
        intro M p0 p1 p2 p3 p4 p5 H locs ls hj hP hS hl
        rw [j_X6_compared_42_s] at hj
        refine lv_iload hx hb dX6_compared_42 (lv_at hl 5 rfl) ?_
        refine lv_bipush (v := 16) hx hb dX6_compared_44 (by decide) ?_
        refine lv_icmp_ge (tgt := 118) hx hb dX6_compared_46 (by decide) (fun c1 => ?_) (fun c1 => ?_)
        · have hj := if_t c1 hj
          exact J_118 M p4 H locs ls hj hP hS (lv_sub hl [4] rfl)
        · have hj := if_f c1 hj
          refine lv_bipush (v := 16) hx hb dX6_compared_49 (by decide) ?_
          refine lv_iload_n hx hb dX6_compared_51 rfl (lv_at hl 1 rfl) ?_
          refine lv_imul hx hb dX6_compared_52 ?_
          refine lv_iload hx hb dX6_compared_53 (lv_at hl 5 rfl) ?_
          refine lv_iadd hx hb dX6_compared_55 ?_
          refine lv_istore (lv' := [(6, .int (((16 : Int32) * p1) + p5)), (0, .ref p0), (1, .int p1), (2, .int p2), (3, .int p3), (4, .int p4), (5, .int p5)]) hx hb dX6_compared_56 hl (by decide) rfl (fun ls hl => ?_)
          refine lv_bipush (v := 16) hx hb dX6_compared_58 (by decide) ?_
          refine lv_iload_n hx hb dX6_compared_60 rfl (lv_at hl 4 rfl) ?_
          refine lv_imul hx hb dX6_compared_61 ?_
          refine lv_iload hx hb dX6_compared_62 (lv_at hl 6 rfl) ?_
          refine lv_iadd hx hb dX6_compared_64 ?_
          refine lv_istore (lv' := [(7, .int (((16 : Int32) * p3) + p5)), (6, .int (((16 : Int32) * p1) + p5)), (0, .ref p0), (1, .int p1), (2, .int p2), (3, .int p3), (4, .int p4), (5, .int p5)]) hx hb dX6_compared_65 hl (by decide) rfl (fun ls hl => ?_)
          refine lv_iload hx hb dX6_compared_67 (lv_at hl 6 rfl) ?_
          refine lv_iload_n hx hb dX6_compared_69 rfl (lv_at hl 4 rfl) ?_
          refine lv_aload_n hx hb dX6_compared_70 rfl (lv_at hl 2 rfl) ?_
          obtain ⟨v2, g_v2, hj⟩ := Option.bind_eq_some_iff.mp hj
          refine r_getR cx hP g_v2 iX6 rfl (by decide) mF_X6_26 dX6_compared_71 ?_
          refine lv_iload hx hb dX6_compared_74 (lv_at hl 1 rfl) ?_
          obtain ⟨b3, e_b3, hj⟩ := Option.bind_eq_some_iff.mp hj
          subst e_b3
          obtain ⟨v4, g_v4, hj⟩ := Option.bind_eq_some_iff.mp hj
          refine r_aldD cx hP g_v4 dX6_compared_76 ?_
          refine lv_aload_n hx hb dX6_compared_77 rfl (lv_at hl 2 rfl) ?_
          obtain ⟨v5, g_v5, hj⟩ := Option.bind_eq_some_iff.mp hj
          refine r_getR cx hP g_v5 iX6 rfl (by decide) mF_X6_29 dX6_compared_78 ?_
          refine lv_iload hx hb dX6_compared_81 (lv_at hl 1 rfl) ?_
          obtain ⟨b6, e_b6, hj⟩ := Option.bind_eq_some_iff.mp hj
          subst e_b6
          obtain ⟨v7, g_v7, hj⟩ := Option.bind_eq_some_iff.mp hj
          refine r_aldZ cx hP g_v7 dX6_compared_83 ?_
          refine lv_aload_n hx hb dX6_compared_84 rfl (lv_at hl 2 rfl) ?_
          obtain ⟨v8, g_v8, hj⟩ := Option.bind_eq_some_iff.mp hj
          refine r_getR cx hP g_v8 iX6 rfl (by decide) mF_X6_26 dX6_compared_85 ?_
          refine lv_iload hx hb dX6_compared_88 (lv_at hl 0 rfl) ?_
          obtain ⟨b9, e_b9, hj⟩ := Option.bind_eq_some_iff.mp hj
          subst e_b9
          obtain ⟨v10, g_v10, hj⟩ := Option.bind_eq_some_iff.mp hj
          refine r_aldD cx hP g_v10 dX6_compared_90 ?_
          refine lv_aload_n hx hb dX6_compared_91 rfl (lv_at hl 2 rfl) ?_
          obtain ⟨v11, g_v11, hj⟩ := Option.bind_eq_some_iff.mp hj
          refine r_getR cx hP g_v11 iX6 rfl (by decide) mF_X6_29 dX6_compared_92 ?_
          refine lv_iload hx hb dX6_compared_95 (lv_at hl 0 rfl) ?_
          obtain ⟨b12, e_b12, hj⟩ := Option.bind_eq_some_iff.mp hj
          subst e_b12
          obtain ⟨v13, g_v13, hj⟩ := Option.bind_eq_some_iff.mp hj
          refine r_aldZ cx hP g_v13 dX6_compared_97 ?_
          obtain ⟨v14, g_v14, hj⟩ := Option.bind_eq_some_iff.mp hj
          refine f_I (k_S (As := [.int p2, .double v4, .int v7, .double v10, .int v13]) (n := 5) (rest := [.int p4]) cx hl.1 hP hS (c_X6_isSo l X g M p2 v4 v7 v10 v13 v14 g_v14) mC_X6_isSo mM_X6_150 mT_X6_isSo mZ_X6 (by decide +kernel) ⟨Nat.le_of_ble_eq_true rfl, Nat.le_of_ble_eq_true rfl⟩ rfl rfl (Nat.le_of_ble_eq_true rfl) dX6_compared_98 ⟨Nat.le_of_ble_eq_true rfl, Nat.le_of_ble_eq_true rfl⟩) hS (fun H locs hP hS => ?_)
          have hP : hp X M H := hP
          refine W.eq (g2 := F0 m 101 ls [.int v14, .int p4]) rfl ?_
          refine W.widen (k := 0) (n := 0) (Nat.le_of_ble_eq_true rfl) (Nat.le_of_ble_eq_true rfl) ?_
          refine lv_if_eq (tgt := 108) hx hb dX6_compared_101 (by decide) (fun c15 => ?_) (fun c15 => ?_)
          · have hj := if_t c15 hj
            refine lv_iconst (v := 0) hx hb dX6_compared_108 (by decide) ?_
            exact J_109 M p0 p1 p2 p3 p5 (0 : Int32) p4 H locs ls hj hP hS (lv_sub hl [2, 3, 4, 5, 7] rfl)
          · have hj := if_f c15 hj
            refine lv_iconst (v := 1) hx hb dX6_compared_104 (by decide) ?_
            refine lv_goto (tgt := 109) hx hb dX6_compared_105 (by decide) ?_
            exact J_109 M p0 p1 p2 p3 p5 (1 : Int32) p4 H locs ls hj hP hS (lv_sub hl [2, 3, 4, 5, 7] rfl)
    have J_30 : ∀ (M : hm) (H : Heap) (locs : List Loc) (ls : Array Slot), j_X6_compared_30 g M = some RR → hp X M H → va_S (hA X) s.heap H locs → lv_has ls 8 [] → W p l e ({ frames := 7, cells := 0, slots := 0, locals := 168 } : Room) s m _ below meth c H locs 0 0 (MQ below (qI X RR) _ s 0 0 (hA X)) (F0 m 30 ls []) := by
      intro M H locs ls hj hP hS hl
      unfold j_X6_compared_30 at hj
      refine lv_iconst (v := -1) hx hb dX6_compared_30 (by decide) ?_
      exact t_I cx hr hlocks hP hS (Option.some.inj hj) (Nat.le_of_ble_eq_true rfl) (Nat.le_of_ble_eq_true rfl) dX6_compared_31
    intro H locs hP hS
    refine lv_iload_n hx hb dX6_compared_0 rfl (lv_at hl 1 rfl) ?_
    refine lv_iconst (v := 0) hx hb dX6_compared_1 (by decide) ?_
    refine lv_bipush (v := 11) hx hb dX6_compared_2 (by decide) ?_
    obtain ⟨v16, g_v16, hj⟩ := Option.bind_eq_some_iff.mp hj
    refine f_I (k_S (As := [.int a1, .int (0 : Int32), .int (11 : Int32)]) (n := 3) (rest := []) cx hl.1 hP hS (c_X6_isIn l X g M a1 (0 : Int32) (11 : Int32) v16 g_v16) mC_X6_isIn mM_X6_191 mT_X6_isIn mZ_X6 (by decide +kernel) ⟨Nat.le_of_ble_eq_true rfl, Nat.le_of_ble_eq_true rfl⟩ rfl rfl (Nat.le_of_ble_eq_true rfl) dX6_compared_4 ⟨Nat.le_of_ble_eq_true rfl, Nat.le_of_ble_eq_true rfl⟩) hS (fun H locs hP hS => ?_)
    have hP : hp X M H := hP
    refine W.eq (g2 := F0 m 7 ls [.int v16]) rfl ?_
    refine W.widen (k := 0) (n := 0) (Nat.le_of_ble_eq_true rfl) (Nat.le_of_ble_eq_true rfl) ?_
    refine lv_if_eq (tgt := 30) hx hb dX6_compared_7 (by decide) (fun c17 => ?_) (fun c17 => ?_)
    · have hj := if_t c17 hj
      exact J_30 M H locs ls hj hP hS (lv_sub hl [] rfl)
    · have hj := if_f c17 hj
      refine lv_iload_n hx hb dX6_compared_10 rfl (lv_at hl 3 rfl) ?_
      refine lv_iconst (v := 0) hx hb dX6_compared_11 (by decide) ?_
      refine lv_bipush (v := 11) hx hb dX6_compared_12 (by decide) ?_
      obtain ⟨v18, g_v18, hj⟩ := Option.bind_eq_some_iff.mp hj
      refine f_I (k_S (As := [.int a3, .int (0 : Int32), .int (11 : Int32)]) (n := 3) (rest := []) cx hl.1 hP hS (c_X6_isIn l X g M a3 (0 : Int32) (11 : Int32) v18 g_v18) mC_X6_isIn mM_X6_191 mT_X6_isIn mZ_X6 (by decide +kernel) ⟨Nat.le_of_ble_eq_true rfl, Nat.le_of_ble_eq_true rfl⟩ rfl rfl (Nat.le_of_ble_eq_true rfl) dX6_compared_14 ⟨Nat.le_of_ble_eq_true rfl, Nat.le_of_ble_eq_true rfl⟩) hS (fun H locs hP hS => ?_)
      have hP : hp X M H := hP
      refine W.eq (g2 := F0 m 17 ls [.int v18]) rfl ?_
      refine W.widen (k := 0) (n := 0) (Nat.le_of_ble_eq_true rfl) (Nat.le_of_ble_eq_true rfl) ?_
      refine lv_if_eq (tgt := 30) hx hb dX6_compared_17 (by decide) (fun c19 => ?_) (fun c19 => ?_)
      · have hj := if_t c19 hj
        exact J_30 M H locs ls hj hP hS (lv_sub hl [] rfl)
      · have hj := if_f c19 hj
        refine lv_iload_n hx hb dX6_compared_20 rfl (lv_at hl 2 rfl) ?_
        refine lv_iconst (v := 0) hx hb dX6_compared_21 (by decide) ?_
        refine lv_bipush (v := 11) hx hb dX6_compared_22 (by decide) ?_
        obtain ⟨v20, g_v20, hj⟩ := Option.bind_eq_some_iff.mp hj
        refine f_I (k_S (As := [.int a2, .int (0 : Int32), .int (11 : Int32)]) (n := 3) (rest := []) cx hl.1 hP hS (c_X6_isIn l X g M a2 (0 : Int32) (11 : Int32) v20 g_v20) mC_X6_isIn mM_X6_191 mT_X6_isIn mZ_X6 (by decide +kernel) ⟨Nat.le_of_ble_eq_true rfl, Nat.le_of_ble_eq_true rfl⟩ rfl rfl (Nat.le_of_ble_eq_true rfl) dX6_compared_24 ⟨Nat.le_of_ble_eq_true rfl, Nat.le_of_ble_eq_true rfl⟩) hS (fun H locs hP hS => ?_)
        have hP : hp X M H := hP
        refine W.eq (g2 := F0 m 27 ls [.int v20]) rfl ?_
        refine W.widen (k := 0) (n := 0) (Nat.le_of_ble_eq_true rfl) (Nat.le_of_ble_eq_true rfl) ?_
        refine lv_if_ne (tgt := 32) hx hb dX6_compared_27 (by decide) (fun c21 => ?_) (fun c21 => ?_)
        · have hj := if_f c21 hj
          refine lv_aload_n hx hb dX6_compared_32 rfl (lv_at hl 0 rfl) ?_
          obtain ⟨_, o22, hj⟩ := Option.bind_eq_some_iff.mp hj
          obtain ⟨M23, g_M23, hj⟩ := Option.bind_eq_some_iff.mp hj
          refine f_V (k_V (b := a0) (As := []) (n := 0) (rest := []) cx hl.1 hP hS (c_X6_reckonAll l X g M a0 M23 g_M23) o22 rfl mC_X6_reckonAll mM_X6_226 mI_X6_reckonAll mS_X6_reckonAll mZ_X6 (by decide +kernel) ⟨Nat.le_of_ble_eq_true rfl, Nat.le_of_ble_eq_true rfl⟩ rfl rfl (Nat.le_of_ble_eq_true rfl) dX6_compared_33 ⟨Nat.le_of_ble_eq_true rfl, Nat.le_of_ble_eq_true rfl⟩) hS (fun H locs hP hS => ?_)
          have hP : hp X M23 H := hP
          refine W.eq (g2 := F0 m 36 ls []) rfl ?_
          refine W.widen (k := 0) (n := 0) (Nat.le_of_ble_eq_true rfl) (Nat.le_of_ble_eq_true rfl) ?_
          refine lv_iconst (v := 0) hx hb dX6_compared_36 (by decide) ?_
          refine lv_istore (lv' := [(4, .int (0 : Int32)), (0, .ref a0), (1, .int a1), (2, .int a2), (3, .int a3)]) hx hb dX6_compared_37 hl (by decide) rfl (fun ls hl => ?_)
          refine lv_iconst (v := 0) hx hb dX6_compared_39 (by decide) ?_
          refine lv_istore (lv' := [(5, .int (0 : Int32)), (4, .int (0 : Int32)), (0, .ref a0), (1, .int a1), (2, .int a2), (3, .int a3)]) hx hb dX6_compared_40 hl (by decide) rfl (fun ls hl => ?_)
          exact L_42 g M23 a0 a1 a2 a3 (0 : Int32) (0 : Int32) H locs ls hj hP hS (lv_sub hl [2, 3, 4, 5, 1, 0] rfl)
        · have hj := if_t c21 hj
          exact J_30 M H locs ls hj hP hS (lv_sub hl [] rfl)
  exact hgo _ _ hP hS
set_option maxHeartbeats 4000000 in
set_option maxRecDepth 100000 in
theorem c_X6_picture (l : Launch) (X : hX) (g : Nat) (M : hm) (a0 : Nat) (RR : hm) (hj : j_X6_picture g M a0 = some RR) : Ct l X yX6_picture cX6_picture 2 none { frames := 0, cells := 0, slots := 0, locals := 0 } [.ref a0] M (qV X RR) := by
  refine h_enter (own := RX6) (by decide) rfl (Nat.le_of_ble_eq_true rfl) ?_
  intro p e s m below meth c ls cx hr hlocks hnm hP hS hl
  have hx := cx.1
  have hb := cx.2.1
  have hl : lv_has ls 2 [(0, .ref a0)] := hl
  unfold j_X6_picture at hj
  have hgo : ∀ (H : Heap) (locs : List Loc), hp X M H → va_S (hA X) s.heap H locs → W p l e ({ frames := 0, cells := 0, slots := 0, locals := 0 } : Room) s m _ below meth c H locs 0 0 (MQ below (qV X RR) _ s 0 0 (hA X)) (F0 m 0 ls []) := by
    have J_125 : ∀ (M : hm) (H : Heap) (locs : List Loc) (ls : Array Slot), j_X6_picture_125 g M = some RR → hp X M H → va_S (hA X) s.heap H locs → lv_has ls 2 [] → W p l e ({ frames := 0, cells := 0, slots := 0, locals := 0 } : Room) s m _ below meth c H locs 0 0 (MQ below (qV X RR) _ s 0 0 (hA X)) (F0 m 125 ls []) := by
      intro M H locs ls hj hP hS hl
      unfold j_X6_picture_125 at hj
      exact t_V cx hr hlocks hP hS (Option.some.inj hj) (Nat.le_of_ble_eq_true rfl) (Nat.le_of_ble_eq_true rfl) dX6_picture_125
    have L_93 : ∀ (n93 : Nat) (M : hm) (p0 : Nat) (p1 : Int32) (H : Heap) (locs : List Loc) (ls : Array Slot), j_X6_picture_93 g n93 M p0 p1 = some RR → hp X M H → va_S (hA X) s.heap H locs → lv_has ls 2 [(0, .ref p0), (1, .int p1)] → W p l e ({ frames := 0, cells := 0, slots := 0, locals := 0 } : Room) s m _ below meth c H locs 0 0 (MQ below (qV X RR) _ s 0 0 (hA X)) (F0 m 93 ls []) := by
      intro n93
      induction n93 with
      | zero =>
        intro M p0 p1 H locs ls hj
        exact no_zero hj
      | succ n93 ih_93 =>
        intro M p0 p1 H locs ls hj hP hS hl
        rw [j_X6_picture_93_s] at hj
        refine lv_iload_n hx hb dX6_picture_93 rfl (lv_at hl 1 rfl) ?_
        refine lv_bipush (v := 48) hx hb dX6_picture_94 (by decide) ?_
        refine lv_icmp_ge (tgt := 125) hx hb dX6_picture_96 (by decide) (fun c1 => ?_) (fun c1 => ?_)
        · have hj := if_t c1 hj
          exact J_125 M H locs ls hj hP hS (lv_sub hl [] rfl)
        · have hj := if_f c1 hj
          refine lv_aload_n hx hb dX6_picture_99 rfl (lv_at hl 0 rfl) ?_
          obtain ⟨v2, g_v2, hj⟩ := Option.bind_eq_some_iff.mp hj
          refine r_getR cx hP g_v2 iX6 rfl (by decide) mF_X6_42 dX6_picture_100 ?_
          refine lv_bipush (v := 48) hx hb dX6_picture_103 (by decide) ?_
          refine lv_aload_n hx hb dX6_picture_105 rfl (lv_at hl 0 rfl) ?_
          obtain ⟨v3, g_v3, hj⟩ := Option.bind_eq_some_iff.mp hj
          refine r_getI cx hP g_v3 iX6 rfl (by decide) mF_X6_187 dX6_picture_106 ?_
          refine lv_imul hx hb dX6_picture_109 ?_
          refine lv_iload_n hx hb dX6_picture_110 rfl (lv_at hl 1 rfl) ?_
          refine lv_iadd hx hb dX6_picture_111 ?_
          refine lv_aload_n hx hb dX6_picture_112 rfl (lv_at hl 0 rfl) ?_
          obtain ⟨v4, g_v4, hj⟩ := Option.bind_eq_some_iff.mp hj
          refine r_getR cx hP g_v4 iX6 rfl (by decide) mF_X6_22 dX6_picture_113 ?_
          refine lv_iload_n hx hb dX6_picture_116 rfl (lv_at hl 1 rfl) ?_
          obtain ⟨b5, e_b5, hj⟩ := Option.bind_eq_some_iff.mp hj
          subst e_b5
          obtain ⟨v6, g_v6, hj⟩ := Option.bind_eq_some_iff.mp hj
          refine r_aldI cx hP g_v6 dX6_picture_117 ?_
          obtain ⟨b7, e_b7, hj⟩ := Option.bind_eq_some_iff.mp hj
          subst e_b7
          obtain ⟨M8, g_M8, hj⟩ := Option.bind_eq_some_iff.mp hj
          refine r_astI cx hP hS g_M8 dX6_picture_118 (fun H locs hP hS => ?_)
          refine lv_iinc (v := (p1 + (1 : Int32))) (lv' := [(1, .int (p1 + (1 : Int32))), (0, .ref p0)]) hx hb dX6_picture_119 hl (k := 1) rfl rfl (by decide) rfl (fun ls hl => ?_)
          refine lv_goto (tgt := 93) hx hb dX6_picture_122 (by decide) ?_
          exact ih_93 M8 p0 (p1 + (1 : Int32)) H locs ls hj hP hS (lv_sub hl [1, 0] rfl)
    have J_91 : ∀ (M : hm) (p0 : Nat) (H : Heap) (locs : List Loc) (ls : Array Slot), j_X6_picture_91 g M p0 = some RR → hp X M H → va_S (hA X) s.heap H locs → lv_has ls 2 [(0, .ref p0)] → W p l e ({ frames := 0, cells := 0, slots := 0, locals := 0 } : Room) s m _ below meth c H locs 0 0 (MQ below (qV X RR) _ s 0 0 (hA X)) (F0 m 91 ls []) := by
      intro M p0 H locs ls hj hP hS hl
      unfold j_X6_picture_91 at hj
      refine lv_iconst (v := 0) hx hb dX6_picture_91 (by decide) ?_
      refine lv_istore_n (lv' := [(1, .int (0 : Int32)), (0, .ref p0)]) hx hb dX6_picture_92 rfl hl (by decide) rfl (fun ls hl => ?_)
      exact L_93 g M p0 (0 : Int32) H locs ls hj hP hS (lv_sub hl [1, 0] rfl)
    have L_59 : ∀ (n59 : Nat) (M : hm) (p0 : Nat) (p1 : Int32) (H : Heap) (locs : List Loc) (ls : Array Slot), j_X6_picture_59 g n59 M p0 p1 = some RR → hp X M H → va_S (hA X) s.heap H locs → lv_has ls 2 [(0, .ref p0), (1, .int p1)] → W p l e ({ frames := 0, cells := 0, slots := 0, locals := 0 } : Room) s m _ below meth c H locs 0 0 (MQ below (qV X RR) _ s 0 0 (hA X)) (F0 m 59 ls []) := by
      intro n59
      induction n59 with
      | zero =>
        intro M p0 p1 H locs ls hj
        exact no_zero hj
      | succ n59 ih_59 =>
        intro M p0 p1 H locs ls hj hP hS hl
        rw [j_X6_picture_59_s] at hj
        refine lv_iload_n hx hb dX6_picture_59 rfl (lv_at hl 1 rfl) ?_
        refine lv_bipush (v := 12) hx hb dX6_picture_60 (by decide) ?_
        refine lv_icmp_ge (tgt := 91) hx hb dX6_picture_62 (by decide) (fun c9 => ?_) (fun c9 => ?_)
        · have hj := if_t c9 hj
          exact J_91 M p0 H locs ls hj hP hS (lv_sub hl [0] rfl)
        · have hj := if_f c9 hj
          refine lv_aload_n hx hb dX6_picture_65 rfl (lv_at hl 0 rfl) ?_
          obtain ⟨v10, g_v10, hj⟩ := Option.bind_eq_some_iff.mp hj
          refine r_getR cx hP g_v10 iX6 rfl (by decide) mF_X6_39 dX6_picture_66 ?_
          refine lv_bipush (v := 12) hx hb dX6_picture_69 (by decide) ?_
          refine lv_aload_n hx hb dX6_picture_71 rfl (lv_at hl 0 rfl) ?_
          obtain ⟨v11, g_v11, hj⟩ := Option.bind_eq_some_iff.mp hj
          refine r_getI cx hP g_v11 iX6 rfl (by decide) mF_X6_187 dX6_picture_72 ?_
          refine lv_imul hx hb dX6_picture_75 ?_
          refine lv_iload_n hx hb dX6_picture_76 rfl (lv_at hl 1 rfl) ?_
          refine lv_iadd hx hb dX6_picture_77 ?_
          refine lv_aload_n hx hb dX6_picture_78 rfl (lv_at hl 0 rfl) ?_
          obtain ⟨v12, g_v12, hj⟩ := Option.bind_eq_some_iff.mp hj
          refine r_getR cx hP g_v12 iX6 rfl (by decide) mF_X6_19 dX6_picture_79 ?_
          refine lv_iload_n hx hb dX6_picture_82 rfl (lv_at hl 1 rfl) ?_
          obtain ⟨b13, e_b13, hj⟩ := Option.bind_eq_some_iff.mp hj
          subst e_b13
          obtain ⟨v14, g_v14, hj⟩ := Option.bind_eq_some_iff.mp hj
          refine r_aldZ cx hP g_v14 dX6_picture_83 ?_
          obtain ⟨b15, e_b15, hj⟩ := Option.bind_eq_some_iff.mp hj
          subst e_b15
          obtain ⟨M16, g_M16, hj⟩ := Option.bind_eq_some_iff.mp hj
          refine r_astZ cx hP hS g_M16 dX6_picture_84 (fun H locs hP hS => ?_)
          refine lv_iinc (v := (p1 + (1 : Int32))) (lv' := [(1, .int (p1 + (1 : Int32))), (0, .ref p0)]) hx hb dX6_picture_85 hl (k := 1) rfl rfl (by decide) rfl (fun ls hl => ?_)
          refine lv_goto (tgt := 59) hx hb dX6_picture_88 (by decide) ?_
          exact ih_59 M16 p0 (p1 + (1 : Int32)) H locs ls hj hP hS (lv_sub hl [1, 0] rfl)
    have J_57 : ∀ (M : hm) (p0 : Nat) (H : Heap) (locs : List Loc) (ls : Array Slot), j_X6_picture_57 g M p0 = some RR → hp X M H → va_S (hA X) s.heap H locs → lv_has ls 2 [(0, .ref p0)] → W p l e ({ frames := 0, cells := 0, slots := 0, locals := 0 } : Room) s m _ below meth c H locs 0 0 (MQ below (qV X RR) _ s 0 0 (hA X)) (F0 m 57 ls []) := by
      intro M p0 H locs ls hj hP hS hl
      unfold j_X6_picture_57 at hj
      refine lv_iconst (v := 0) hx hb dX6_picture_57 (by decide) ?_
      refine lv_istore_n (lv' := [(1, .int (0 : Int32)), (0, .ref p0)]) hx hb dX6_picture_58 rfl hl (by decide) rfl (fun ls hl => ?_)
      exact L_59 g M p0 (0 : Int32) H locs ls hj hP hS (lv_sub hl [1, 0] rfl)
    have L_2 : ∀ (n2 : Nat) (M : hm) (p0 : Nat) (p1 : Int32) (H : Heap) (locs : List Loc) (ls : Array Slot), j_X6_picture_2 g n2 M p0 p1 = some RR → hp X M H → va_S (hA X) s.heap H locs → lv_has ls 2 [(0, .ref p0), (1, .int p1)] → W p l e ({ frames := 0, cells := 0, slots := 0, locals := 0 } : Room) s m _ below meth c H locs 0 0 (MQ below (qV X RR) _ s 0 0 (hA X)) (F0 m 2 ls []) := by
      intro n2
      induction n2 with
      | zero =>
        intro M p0 p1 H locs ls hj
        exact no_zero hj
      | succ n2 ih_2 =>
        intro M p0 p1 H locs ls hj hP hS hl
        rw [j_X6_picture_2_s] at hj
        refine lv_iload_n hx hb dX6_picture_2 rfl (lv_at hl 1 rfl) ?_
        refine lv_sipush (v := 200) hx hb dX6_picture_3 (by decide) ?_
        refine lv_icmp_ge (tgt := 57) hx hb dX6_picture_6 (by decide) (fun c17 => ?_) (fun c17 => ?_)
        · have hj := if_t c17 hj
          exact J_57 M p0 H locs ls hj hP hS (lv_sub hl [0] rfl)
        · have hj := if_f c17 hj
          refine lv_aload_n hx hb dX6_picture_9 rfl (lv_at hl 0 rfl) ?_
          obtain ⟨v18, g_v18, hj⟩ := Option.bind_eq_some_iff.mp hj
          refine r_getR cx hP g_v18 iX6 rfl (by decide) mF_X6_33 dX6_picture_10 ?_
          refine lv_sipush (v := 200) hx hb dX6_picture_13 (by decide) ?_
          refine lv_aload_n hx hb dX6_picture_16 rfl (lv_at hl 0 rfl) ?_
          obtain ⟨v19, g_v19, hj⟩ := Option.bind_eq_some_iff.mp hj
          refine r_getI cx hP g_v19 iX6 rfl (by decide) mF_X6_187 dX6_picture_17 ?_
          refine lv_imul hx hb dX6_picture_20 ?_
          refine lv_iload_n hx hb dX6_picture_21 rfl (lv_at hl 1 rfl) ?_
          refine lv_iadd hx hb dX6_picture_22 ?_
          refine lv_aload_n hx hb dX6_picture_23 rfl (lv_at hl 0 rfl) ?_
          obtain ⟨v20, g_v20, hj⟩ := Option.bind_eq_some_iff.mp hj
          refine r_getR cx hP g_v20 iX6 rfl (by decide) mF_X6_9 dX6_picture_24 ?_
          refine lv_iload_n hx hb dX6_picture_27 rfl (lv_at hl 1 rfl) ?_
          obtain ⟨b21, e_b21, hj⟩ := Option.bind_eq_some_iff.mp hj
          subst e_b21
          obtain ⟨v22, g_v22, hj⟩ := Option.bind_eq_some_iff.mp hj
          refine r_aldD cx hP g_v22 dX6_picture_28 ?_
          obtain ⟨b23, e_b23, hj⟩ := Option.bind_eq_some_iff.mp hj
          subst e_b23
          obtain ⟨M24, g_M24, hj⟩ := Option.bind_eq_some_iff.mp hj
          refine r_astD cx hP hS g_M24 dX6_picture_29 (fun H locs hP hS => ?_)
          refine lv_aload_n hx hb dX6_picture_30 rfl (lv_at hl 0 rfl) ?_
          obtain ⟨v25, g_v25, hj⟩ := Option.bind_eq_some_iff.mp hj
          refine r_getR cx hP g_v25 iX6 rfl (by decide) mF_X6_36 dX6_picture_31 ?_
          refine lv_sipush (v := 200) hx hb dX6_picture_34 (by decide) ?_
          refine lv_aload_n hx hb dX6_picture_37 rfl (lv_at hl 0 rfl) ?_
          obtain ⟨v26, g_v26, hj⟩ := Option.bind_eq_some_iff.mp hj
          refine r_getI cx hP g_v26 iX6 rfl (by decide) mF_X6_187 dX6_picture_38 ?_
          refine lv_imul hx hb dX6_picture_41 ?_
          refine lv_iload_n hx hb dX6_picture_42 rfl (lv_at hl 1 rfl) ?_
          refine lv_iadd hx hb dX6_picture_43 ?_
          refine lv_aload_n hx hb dX6_picture_44 rfl (lv_at hl 0 rfl) ?_
          obtain ⟨v27, g_v27, hj⟩ := Option.bind_eq_some_iff.mp hj
          refine r_getR cx hP g_v27 iX6 rfl (by decide) mF_X6_15 dX6_picture_45 ?_
          refine lv_iload_n hx hb dX6_picture_48 rfl (lv_at hl 1 rfl) ?_
          obtain ⟨b28, e_b28, hj⟩ := Option.bind_eq_some_iff.mp hj
          subst e_b28
          obtain ⟨v29, g_v29, hj⟩ := Option.bind_eq_some_iff.mp hj
          refine r_aldZ cx hP g_v29 dX6_picture_49 ?_
          obtain ⟨b30, e_b30, hj⟩ := Option.bind_eq_some_iff.mp hj
          subst e_b30
          obtain ⟨M31, g_M31, hj⟩ := Option.bind_eq_some_iff.mp hj
          refine r_astZ cx hP hS g_M31 dX6_picture_50 (fun H locs hP hS => ?_)
          refine lv_iinc (v := (p1 + (1 : Int32))) (lv' := [(1, .int (p1 + (1 : Int32))), (0, .ref p0)]) hx hb dX6_picture_51 hl (k := 1) rfl rfl (by decide) rfl (fun ls hl => ?_)
          refine lv_goto (tgt := 2) hx hb dX6_picture_54 (by decide) ?_
          exact ih_2 M31 p0 (p1 + (1 : Int32)) H locs ls hj hP hS (lv_sub hl [1, 0] rfl)
    intro H locs hP hS
    refine lv_iconst (v := 0) hx hb dX6_picture_0 (by decide) ?_
    refine lv_istore_n (lv' := [(1, .int (0 : Int32)), (0, .ref a0)]) hx hb dX6_picture_1 rfl hl (by decide) rfl (fun ls hl => ?_)
    exact L_2 g M a0 (0 : Int32) H locs ls hj hP hS (lv_sub hl [1, 0] rfl)
  exact hgo _ _ hP hS
set_option maxHeartbeats 4000000 in
set_option maxRecDepth 100000 in
theorem c_X6_power (l : Launch) (X : hX) (g : Nat) (M : hm) (a0 : Int32) (a1 : Int32) (RR : UInt64) (hj : j_X6_power g a0 a1 = some RR) : Ct l X yX6_power cX6_power 5 (some .double) { frames := 0, cells := 0, slots := 0, locals := 0 } [.int a0, .int a1] M (qD X (M, RR)) := by
  refine h_enter (own := RX6) (by decide) rfl (Nat.le_of_ble_eq_true rfl) ?_
  intro p e s m below meth c ls cx hr hlocks hnm hP hS hl
  have hx := cx.1
  have hb := cx.2.1
  have hl : lv_has ls 5 [(0, .int a0), (1, .int a1)] := hl
  unfold j_X6_power at hj
  have hgo : ∀ (H : Heap) (locs : List Loc), hp X M H → va_S (hA X) s.heap H locs → W p l e ({ frames := 0, cells := 0, slots := 0, locals := 0 } : Room) s m _ below meth c H locs 0 0 (MQ below (qD X (M, RR)) _ s 0 0 (hA X)) (F0 m 0 ls []) := by
    have J_45 : ∀ (p2 : UInt64) (H : Heap) (locs : List Loc) (ls : Array Slot), j_X6_power_45 g p2 = some RR → hp X M H → va_S (hA X) s.heap H locs → lv_has ls 5 [(2, .double p2)] → W p l e ({ frames := 0, cells := 0, slots := 0, locals := 0 } : Room) s m _ below meth c H locs 0 0 (MQ below (qD X (M, RR)) _ s 0 0 (hA X)) (F0 m 45 ls []) := by
      intro p2 H locs ls hj hP hS hl
      unfold j_X6_power_45 at hj
      refine lv_dload_n hx hb dX6_power_45 rfl (lv_at hl 0 rfl) ?_
      exact t_D cx hr hlocks hP hS (congrArg (Prod.mk M) (Option.some.inj hj)) (Nat.le_of_ble_eq_true rfl) (Nat.le_of_ble_eq_true rfl) dX6_power_46
    have L_27 : ∀ (n27 : Nat) (p1 : Int32) (p2 : UInt64) (p4 : Int32) (H : Heap) (locs : List Loc) (ls : Array Slot), j_X6_power_27 g n27 p1 p2 p4 = some RR → hp X M H → va_S (hA X) s.heap H locs → lv_has ls 5 [(1, .int p1), (2, .double p2), (4, .int p4)] → W p l e ({ frames := 0, cells := 0, slots := 0, locals := 0 } : Room) s m _ below meth c H locs 0 0 (MQ below (qD X (M, RR)) _ s 0 0 (hA X)) (F0 m 27 ls []) := by
      intro n27
      induction n27 with
      | zero =>
        intro p1 p2 p4 H locs ls hj
        exact no_zero hj
      | succ n27 ih_27 =>
        intro p1 p2 p4 H locs ls hj hP hS hl
        rw [j_X6_power_27_s] at hj
        refine lv_iload hx hb dX6_power_27 (lv_at hl 2 rfl) ?_
        refine lv_iload_n hx hb dX6_power_29 rfl (lv_at hl 0 rfl) ?_
        refine lv_icmp_le (tgt := 45) hx hb dX6_power_30 (by decide) (fun c1 => ?_) (fun c1 => ?_)
        · have hj := if_t c1 hj
          exact J_45 p2 H locs ls hj hP hS (lv_sub hl [1] rfl)
        · have hj := if_f c1 hj
          refine lv_dload_n hx hb dX6_power_33 rfl (lv_at hl 1 rfl) ?_
          refine lv_ldc2d hx hb cx.2.2.2.1 (cx.2.2.2.2.1 _ mK_X6_84) dX6_power_34 ?_
          obtain ⟨v2, g_v2, hj⟩ := Option.bind_eq_some_iff.mp hj
          obtain ⟨n_v2, e_v2⟩ := n64_eq g_v2
          refine lv_ddiv hx hb dX6_power_37 n_v2 ?_
          rw [← e_v2]
          refine lv_dstore_n (lv' := [(2, .double v2), (1, .int p1), (4, .int p4)]) hx hb dX6_power_38 rfl hl (by decide) rfl (fun ls hl => ?_)
          refine lv_iinc (v := (p4 + (-1 : Int32))) (lv' := [(4, .int (p4 + (-1 : Int32))), (2, .double v2), (1, .int p1)]) hx hb dX6_power_39 hl (k := 2) rfl rfl (by decide) rfl (fun ls hl => ?_)
          refine lv_goto (tgt := 27) hx hb dX6_power_42 (by decide) ?_
          exact ih_27 p1 v2 (p4 + (-1 : Int32)) H locs ls hj hP hS (lv_sub hl [2, 1, 0] rfl)
    have J_24 : ∀ (p1 : Int32) (p2 : UInt64) (H : Heap) (locs : List Loc) (ls : Array Slot), j_X6_power_24 g p1 p2 = some RR → hp X M H → va_S (hA X) s.heap H locs → lv_has ls 5 [(1, .int p1), (2, .double p2)] → W p l e ({ frames := 0, cells := 0, slots := 0, locals := 0 } : Room) s m _ below meth c H locs 0 0 (MQ below (qD X (M, RR)) _ s 0 0 (hA X)) (F0 m 24 ls []) := by
      intro p1 p2 H locs ls hj hP hS hl
      unfold j_X6_power_24 at hj
      refine lv_iconst (v := 0) hx hb dX6_power_24 (by decide) ?_
      refine lv_istore (lv' := [(4, .int (0 : Int32)), (1, .int p1), (2, .double p2)]) hx hb dX6_power_25 hl (by decide) rfl (fun ls hl => ?_)
      exact L_27 g p1 p2 (0 : Int32) H locs ls hj hP hS (lv_sub hl [1, 2, 0] rfl)
    have L_6 : ∀ (n6 : Nat) (p1 : Int32) (p2 : UInt64) (p4 : Int32) (H : Heap) (locs : List Loc) (ls : Array Slot), j_X6_power_6 g n6 p1 p2 p4 = some RR → hp X M H → va_S (hA X) s.heap H locs → lv_has ls 5 [(1, .int p1), (2, .double p2), (4, .int p4)] → W p l e ({ frames := 0, cells := 0, slots := 0, locals := 0 } : Room) s m _ below meth c H locs 0 0 (MQ below (qD X (M, RR)) _ s 0 0 (hA X)) (F0 m 6 ls []) := by
      intro n6
      induction n6 with
      | zero =>
        intro p1 p2 p4 H locs ls hj
        exact no_zero hj
      | succ n6 ih_6 =>
        intro p1 p2 p4 H locs ls hj hP hS hl
        rw [j_X6_power_6_s] at hj
        refine lv_iload hx hb dX6_power_6 (lv_at hl 2 rfl) ?_
        refine lv_iload_n hx hb dX6_power_8 rfl (lv_at hl 0 rfl) ?_
        refine lv_icmp_ge (tgt := 24) hx hb dX6_power_9 (by decide) (fun c3 => ?_) (fun c3 => ?_)
        · have hj := if_t c3 hj
          exact J_24 p1 p2 H locs ls hj hP hS (lv_sub hl [0, 1] rfl)
        · have hj := if_f c3 hj
          refine lv_dload_n hx hb dX6_power_12 rfl (lv_at hl 1 rfl) ?_
          refine lv_ldc2d hx hb cx.2.2.2.1 (cx.2.2.2.2.1 _ mK_X6_84) dX6_power_13 ?_
          obtain ⟨v4, g_v4, hj⟩ := Option.bind_eq_some_iff.mp hj
          obtain ⟨n_v4, e_v4⟩ := n64_eq g_v4
          refine lv_dmul hx hb dX6_power_16 n_v4 ?_
          rw [← e_v4]
          refine lv_dstore_n (lv' := [(2, .double v4), (1, .int p1), (4, .int p4)]) hx hb dX6_power_17 rfl hl (by decide) rfl (fun ls hl => ?_)
          refine lv_iinc (v := (p4 + (1 : Int32))) (lv' := [(4, .int (p4 + (1 : Int32))), (2, .double v4), (1, .int p1)]) hx hb dX6_power_18 hl (k := 2) rfl rfl (by decide) rfl (fun ls hl => ?_)
          refine lv_goto (tgt := 6) hx hb dX6_power_21 (by decide) ?_
          exact ih_6 p1 v4 (p4 + (1 : Int32)) H locs ls hj hP hS (lv_sub hl [2, 1, 0] rfl)
    intro H locs hP hS
    refine lv_iload_n hx hb dX6_power_0 rfl (lv_at hl 0 rfl) ?_
    refine lv_i2d hx hb dX6_power_1 ?_
    refine lv_dstore_n (lv' := [(2, .double (FP.i2d a0)), (0, .int a0), (1, .int a1)]) hx hb dX6_power_2 rfl hl (by decide) rfl (fun ls hl => ?_)
    refine lv_iconst (v := 0) hx hb dX6_power_3 (by decide) ?_
    refine lv_istore (lv' := [(4, .int (0 : Int32)), (2, .double (FP.i2d a0)), (0, .int a0), (1, .int a1)]) hx hb dX6_power_4 hl (by decide) rfl (fun ls hl => ?_)
    exact L_6 g a1 (FP.i2d a0) (0 : Int32) H locs ls hj hP hS (lv_sub hl [3, 1, 0] rfl)
  exact hgo _ _ hP hS
set_option maxHeartbeats 4000000 in
set_option maxRecDepth 100000 in
theorem c_X6_put (l : Launch) (X : hX) (g : Nat) (M : hm) (a0 : Nat) (a1 : Int32) (a2 : UInt64) (RR : hm) (hj : j_X6_put g M a0 a1 a2 = some RR) : Ct l X yX6_put cX6_put 4 none { frames := 0, cells := 0, slots := 0, locals := 0 } [.ref a0, .int a1, .double a2] M (qV X RR) := by
  refine h_enter (own := RX6) (by decide) rfl (Nat.le_of_ble_eq_true rfl) ?_
  intro p e s m below meth c ls cx hr hlocks hnm hP hS hl
  have hx := cx.1
  have hb := cx.2.1
  have hl : lv_has ls 4 [(0, .ref a0), (1, .int a1), (2, .double a2)] := hl
  unfold j_X6_put at hj
  have hgo : ∀ (H : Heap) (locs : List Loc), hp X M H → va_S (hA X) s.heap H locs → W p l e ({ frames := 0, cells := 0, slots := 0, locals := 0 } : Room) s m _ below meth c H locs 0 0 (MQ below (qV X RR) _ s 0 0 (hA X)) (F0 m 0 ls []) := by
    intro H locs hP hS
    refine lv_aload_n hx hb dX6_put_0 rfl (lv_at hl 0 rfl) ?_
    obtain ⟨v1, g_v1, hj⟩ := Option.bind_eq_some_iff.mp hj
    refine r_getR cx hP g_v1 iX6 rfl (by decide) mF_X6_9 dX6_put_1 ?_
    refine lv_iload_n hx hb dX6_put_4 rfl (lv_at hl 1 rfl) ?_
    refine lv_dload_n hx hb dX6_put_5 rfl (lv_at hl 2 rfl) ?_
    obtain ⟨b2, e_b2, hj⟩ := Option.bind_eq_some_iff.mp hj
    subst e_b2
    obtain ⟨M3, g_M3, hj⟩ := Option.bind_eq_some_iff.mp hj
    refine r_astD cx hP hS g_M3 dX6_put_6 (fun H locs hP hS => ?_)
    refine lv_aload_n hx hb dX6_put_7 rfl (lv_at hl 0 rfl) ?_
    obtain ⟨v4, g_v4, hj⟩ := Option.bind_eq_some_iff.mp hj
    refine r_getR cx hP g_v4 iX6 rfl (by decide) mF_X6_15 dX6_put_8 ?_
    refine lv_iload_n hx hb dX6_put_11 rfl (lv_at hl 1 rfl) ?_
    refine lv_iconst (v := 0) hx hb dX6_put_12 (by decide) ?_
    obtain ⟨b5, e_b5, hj⟩ := Option.bind_eq_some_iff.mp hj
    subst e_b5
    obtain ⟨M6, g_M6, hj⟩ := Option.bind_eq_some_iff.mp hj
    refine r_astZ cx hP hS g_M6 dX6_put_13 (fun H locs hP hS => ?_)
    exact t_V cx hr hlocks hP hS (Option.some.inj hj) (Nat.le_of_ble_eq_true rfl) (Nat.le_of_ble_eq_true rfl) dX6_put_14
  exact hgo _ _ hP hS
set_option maxHeartbeats 4000000 in
set_option maxRecDepth 100000 in
theorem c_X6_constant (l : Launch) (X : hX) (g : Nat) (M : hm) (a0 : Nat) (a1 : Int32) (a2 : Int32) (a3 : Int32) (RR : hm × Int32) (hj : j_X6_constant g M a0 a1 a2 a3 = some RR) : Ct l X yX6_constant cX6_constant 4 (some .int) { frames := 1, cells := 0, slots := 0, locals := 24 } [.ref a0, .int a1, .int a2, .int a3] M (qI X RR) := by
  refine h_enter (own := RX6) (by decide) rfl (Nat.le_of_ble_eq_true rfl) ?_
  intro p e s m below meth c ls cx hr hlocks hnm hP hS hl
  have hx := cx.1
  have hb := cx.2.1
  have hl : lv_has ls 4 [(0, .ref a0), (1, .int a1), (2, .int a2), (3, .int a3)] := hl
  unfold j_X6_constant at hj
  have hgo : ∀ (H : Heap) (locs : List Loc), hp X M H → va_S (hA X) s.heap H locs → W p l e ({ frames := 1, cells := 0, slots := 0, locals := 24 } : Room) s m _ below meth c H locs 0 0 (MQ below (qI X RR) _ s 0 0 (hA X)) (F0 m 0 ls []) := by
    have J_23 : ∀ (M : hm) (H : Heap) (locs : List Loc) (ls : Array Slot), j_X6_constant_23 g M = some RR → hp X M H → va_S (hA X) s.heap H locs → lv_has ls 4 [] → W p l e ({ frames := 1, cells := 0, slots := 0, locals := 24 } : Room) s m _ below meth c H locs 0 0 (MQ below (qI X RR) _ s 0 0 (hA X)) (F0 m 23 ls []) := by
      intro M H locs ls hj hP hS hl
      unfold j_X6_constant_23 at hj
      refine lv_iconst (v := 0) hx hb dX6_constant_23 (by decide) ?_
      exact t_I cx hr hlocks hP hS (Option.some.inj hj) (Nat.le_of_ble_eq_true rfl) (Nat.le_of_ble_eq_true rfl) dX6_constant_24
    intro H locs hP hS
    refine lv_iload_n hx hb dX6_constant_0 rfl (lv_at hl 1 rfl) ?_
    refine lv_iconst (v := 0) hx hb dX6_constant_1 (by decide) ?_
    refine lv_bipush (v := 7) hx hb dX6_constant_2 (by decide) ?_
    obtain ⟨v1, g_v1, hj⟩ := Option.bind_eq_some_iff.mp hj
    refine f_I (k_S (As := [.int a1, .int (0 : Int32), .int (7 : Int32)]) (n := 3) (rest := []) cx hl.1 hP hS (c_X6_isIn l X g M a1 (0 : Int32) (7 : Int32) v1 g_v1) mC_X6_isIn mM_X6_191 mT_X6_isIn mZ_X6 (by decide +kernel) ⟨Nat.le_of_ble_eq_true rfl, Nat.le_of_ble_eq_true rfl⟩ rfl rfl (Nat.le_of_ble_eq_true rfl) dX6_constant_4 ⟨Nat.le_of_ble_eq_true rfl, Nat.le_of_ble_eq_true rfl⟩) hS (fun H locs hP hS => ?_)
    have hP : hp X M H := hP
    refine W.eq (g2 := F0 m 7 ls [.int v1]) rfl ?_
    refine W.widen (k := 0) (n := 0) (Nat.le_of_ble_eq_true rfl) (Nat.le_of_ble_eq_true rfl) ?_
    refine lv_if_eq (tgt := 23) hx hb dX6_constant_7 (by decide) (fun c2 => ?_) (fun c2 => ?_)
    · have hj := if_t c2 hj
      exact J_23 M H locs ls hj hP hS (lv_sub hl [] rfl)
    · have hj := if_f c2 hj
      refine lv_iload_n hx hb dX6_constant_10 rfl (lv_at hl 3 rfl) ?_
      refine lv_sipush (v := -1000) hx hb dX6_constant_11 (by decide) ?_
      refine lv_sipush (v := 900) hx hb dX6_constant_14 (by decide) ?_
      obtain ⟨v3, g_v3, hj⟩ := Option.bind_eq_some_iff.mp hj
      refine f_I (k_S (As := [.int a3, .int (-1000 : Int32), .int (900 : Int32)]) (n := 3) (rest := []) cx hl.1 hP hS (c_X6_isIn l X g M a3 (-1000 : Int32) (900 : Int32) v3 g_v3) mC_X6_isIn mM_X6_191 mT_X6_isIn mZ_X6 (by decide +kernel) ⟨Nat.le_of_ble_eq_true rfl, Nat.le_of_ble_eq_true rfl⟩ rfl rfl (Nat.le_of_ble_eq_true rfl) dX6_constant_17 ⟨Nat.le_of_ble_eq_true rfl, Nat.le_of_ble_eq_true rfl⟩) hS (fun H locs hP hS => ?_)
      have hP : hp X M H := hP
      refine W.eq (g2 := F0 m 20 ls [.int v3]) rfl ?_
      refine W.widen (k := 0) (n := 0) (Nat.le_of_ble_eq_true rfl) (Nat.le_of_ble_eq_true rfl) ?_
      refine lv_if_ne (tgt := 25) hx hb dX6_constant_20 (by decide) (fun c4 => ?_) (fun c4 => ?_)
      · have hj := if_f c4 hj
        refine lv_aload_n hx hb dX6_constant_25 rfl (lv_at hl 0 rfl) ?_
        obtain ⟨_, o5, hj⟩ := Option.bind_eq_some_iff.mp hj
        obtain ⟨M6, g_M6, hj⟩ := Option.bind_eq_some_iff.mp hj
        refine f_V (k_V (b := a0) (As := []) (n := 0) (rest := []) cx hl.1 hP hS (c_X6_picture l X g M a0 M6 g_M6) o5 rfl mC_X6_picture mM_X6_212 mI_X6_picture mS_X6_picture mZ_X6 (by decide +kernel) ⟨Nat.le_of_ble_eq_true rfl, Nat.le_of_ble_eq_true rfl⟩ rfl rfl (Nat.le_of_ble_eq_true rfl) dX6_constant_26 ⟨Nat.le_of_ble_eq_true rfl, Nat.le_of_ble_eq_true rfl⟩) hS (fun H locs hP hS => ?_)
        have hP : hp X M6 H := hP
        refine W.eq (g2 := F0 m 29 ls []) rfl ?_
        refine W.widen (k := 0) (n := 0) (Nat.le_of_ble_eq_true rfl) (Nat.le_of_ble_eq_true rfl) ?_
        refine lv_aload_n hx hb dX6_constant_29 rfl (lv_at hl 0 rfl) ?_
        refine lv_sipush (v := 192) hx hb dX6_constant_30 (by decide) ?_
        refine lv_iload_n hx hb dX6_constant_33 rfl (lv_at hl 1 rfl) ?_
        refine lv_iadd hx hb dX6_constant_34 ?_
        refine lv_iload_n hx hb dX6_constant_35 rfl (lv_at hl 2 rfl) ?_
        refine lv_iload_n hx hb dX6_constant_36 rfl (lv_at hl 3 rfl) ?_
        obtain ⟨v7, g_v7, hj⟩ := Option.bind_eq_some_iff.mp hj
        refine f_D (k_S (As := [.int a2, .int a3]) (n := 2) (rest := [.int ((192 : Int32) + a1), .ref a0]) cx hl.1 hP hS (c_X6_power l X g M6 a2 a3 v7 g_v7) mC_X6_power mM_X6_215 mT_X6_power mZ_X6 (by decide +kernel) ⟨Nat.le_of_ble_eq_true rfl, Nat.le_of_ble_eq_true rfl⟩ rfl rfl (Nat.le_of_ble_eq_true rfl) dX6_constant_37 ⟨Nat.le_of_ble_eq_true rfl, Nat.le_of_ble_eq_true rfl⟩) hS (fun H locs hP hS => ?_)
        have hP : hp X M6 H := hP
        refine W.eq (g2 := F0 m 40 ls [.double v7, .int ((192 : Int32) + a1), .ref a0]) rfl ?_
        refine W.widen (k := 0) (n := 0) (Nat.le_of_ble_eq_true rfl) (Nat.le_of_ble_eq_true rfl) ?_
        obtain ⟨_, o8, hj⟩ := Option.bind_eq_some_iff.mp hj
        obtain ⟨M9, g_M9, hj⟩ := Option.bind_eq_some_iff.mp hj
        refine f_V (k_V (b := a0) (As := [.int ((192 : Int32) + a1), .double v7]) (n := 2) (rest := []) cx hl.1 hP hS (c_X6_put l X g M6 a0 ((192 : Int32) + a1) v7 M9 g_M9) o8 rfl mC_X6_put mM_X6_195 mI_X6_put mS_X6_put mZ_X6 (by decide +kernel) ⟨Nat.le_of_ble_eq_true rfl, Nat.le_of_ble_eq_true rfl⟩ rfl rfl (Nat.le_of_ble_eq_true rfl) dX6_constant_40 ⟨Nat.le_of_ble_eq_true rfl, Nat.le_of_ble_eq_true rfl⟩) hS (fun H locs hP hS => ?_)
        have hP : hp X M9 H := hP
        refine W.eq (g2 := F0 m 43 ls []) rfl ?_
        refine W.widen (k := 0) (n := 0) (Nat.le_of_ble_eq_true rfl) (Nat.le_of_ble_eq_true rfl) ?_
        refine lv_aload_n hx hb dX6_constant_43 rfl (lv_at hl 0 rfl) ?_
        obtain ⟨_, o10, hj⟩ := Option.bind_eq_some_iff.mp hj
        obtain ⟨⟨Mq11, vq11⟩, g_q11, hj⟩ := Option.bind_eq_some_iff.mp hj
        refine f_I (k_V (b := a0) (As := []) (n := 0) (rest := []) cx hl.1 hP hS (c_X6_changed l X g M9 a0 (Mq11, vq11) g_q11) o10 rfl mC_X6_changed mM_X6_218 mI_X6_changed mS_X6_changed mZ_X6 (by decide +kernel) ⟨Nat.le_of_ble_eq_true rfl, Nat.le_of_ble_eq_true rfl⟩ rfl rfl (Nat.le_of_ble_eq_true rfl) dX6_constant_44 ⟨Nat.le_of_ble_eq_true rfl, Nat.le_of_ble_eq_true rfl⟩) hS (fun H locs hP hS => ?_)
        have hP : hp X Mq11 H := hP
        refine W.eq (g2 := F0 m 47 ls [.int vq11]) rfl ?_
        refine W.widen (k := 0) (n := 0) (Nat.le_of_ble_eq_true rfl) (Nat.le_of_ble_eq_true rfl) ?_
        exact t_I cx hr hlocks hP hS (Option.some.inj hj) (Nat.le_of_ble_eq_true rfl) (Nat.le_of_ble_eq_true rfl) dX6_constant_47
      · have hj := if_t c4 hj
        exact J_23 M H locs ls hj hP hS (lv_sub hl [] rfl)
  exact hgo _ _ hP hS
