set_option maxHeartbeats 4000000 in
set_option maxRecDepth 100000 in
theorem c_J6_bitCount_0f7a4 (l : Launch) (X : hX) (g : Nat) (M : hm) (a0 : Int32) (RR : Int32) (hj : j_J6_bitCount_0f7a4 g a0 = some RR) : Ct l X yJ6_bitCount_0f7a4 cJ6_bitCount_0f7a4 1 (some .int) { frames := 0, cells := 0, slots := 0, locals := 0 } [.int a0] M (qI X (M, RR)) := by
  refine h_enter (own := RJ6) (by decide) rfl (Nat.le_of_ble_eq_true rfl) ?_
  intro p e s m below meth c ls cx hr hlocks hnm hP hS hl
  have hx := cx.1
  have hb := cx.2.1
  have hl : lv_has ls 1 [(0, .int a0)] := hl
  unfold j_J6_bitCount_0f7a4 at hj
  have hgo : ∀ (H : Heap) (locs : List Loc), hp X M H → va_S (hA X) s.heap H locs → W p l e ({ frames := 0, cells := 0, slots := 0, locals := 0 } : Room) s m _ below meth c H locs 0 0 (MQ below (qI X (M, RR)) _ s 0 0 (hA X)) (F0 m 0 ls []) := by
    intro H locs hP hS
    refine lv_iload_n hx hb dJ6_bitCount_0f7a4_0 rfl (lv_at hl 0 rfl) ?_
    refine lv_iload_n hx hb dJ6_bitCount_0f7a4_1 rfl (lv_at hl 0 rfl) ?_
    refine lv_iconst (v := 1) hx hb dJ6_bitCount_0f7a4_2 (by decide) ?_
    refine lv_iushr (v := (a0.toUInt32 >>> ((1 : Int32).toUInt32 &&& Int32.toUInt32 31)).toInt32) hx hb dJ6_bitCount_0f7a4_3 rfl ?_
    refine lv_ldcw hx hb cx.2.2.2.1 (cx.2.2.2.2.1 _ mK_J6_265) dJ6_bitCount_0f7a4_4 ?_
    refine lv_iand hx hb dJ6_bitCount_0f7a4_7 ?_
    refine lv_isub hx hb dJ6_bitCount_0f7a4_8 ?_
    refine lv_istore_n (lv' := [(0, .int (a0 - (((a0.toUInt32 >>> ((1 : Int32).toUInt32 &&& Int32.toUInt32 31)).toInt32) &&& (1431655765 : Int32))))]) hx hb dJ6_bitCount_0f7a4_9 rfl hl (by decide) rfl (fun ls hl => ?_)
    refine lv_iload_n hx hb dJ6_bitCount_0f7a4_10 rfl (lv_at hl 0 rfl) ?_
    refine lv_ldcw hx hb cx.2.2.2.1 (cx.2.2.2.2.1 _ mK_J6_266) dJ6_bitCount_0f7a4_11 ?_
    refine lv_iand hx hb dJ6_bitCount_0f7a4_14 ?_
    refine lv_iload_n hx hb dJ6_bitCount_0f7a4_15 rfl (lv_at hl 0 rfl) ?_
    refine lv_iconst (v := 2) hx hb dJ6_bitCount_0f7a4_16 (by decide) ?_
    refine lv_iushr (v := ((a0 - (((a0.toUInt32 >>> ((1 : Int32).toUInt32 &&& Int32.toUInt32 31)).toInt32) &&& (1431655765 : Int32))).toUInt32 >>> ((2 : Int32).toUInt32 &&& Int32.toUInt32 31)).toInt32) hx hb dJ6_bitCount_0f7a4_17 rfl ?_
    refine lv_ldcw hx hb cx.2.2.2.1 (cx.2.2.2.2.1 _ mK_J6_266) dJ6_bitCount_0f7a4_18 ?_
    refine lv_iand hx hb dJ6_bitCount_0f7a4_21 ?_
    refine lv_iadd hx hb dJ6_bitCount_0f7a4_22 ?_
    refine lv_istore_n (lv' := [(0, .int (((a0 - (((a0.toUInt32 >>> ((1 : Int32).toUInt32 &&& Int32.toUInt32 31)).toInt32) &&& (1431655765 : Int32))) &&& (858993459 : Int32)) + ((((a0 - (((a0.toUInt32 >>> ((1 : Int32).toUInt32 &&& Int32.toUInt32 31)).toInt32) &&& (1431655765 : Int32))).toUInt32 >>> ((2 : Int32).toUInt32 &&& Int32.toUInt32 31)).toInt32) &&& (858993459 : Int32))))]) hx hb dJ6_bitCount_0f7a4_23 rfl hl (by decide) rfl (fun ls hl => ?_)
    refine lv_iload_n hx hb dJ6_bitCount_0f7a4_24 rfl (lv_at hl 0 rfl) ?_
    refine lv_iload_n hx hb dJ6_bitCount_0f7a4_25 rfl (lv_at hl 0 rfl) ?_
    refine lv_iconst (v := 4) hx hb dJ6_bitCount_0f7a4_26 (by decide) ?_
    refine lv_iushr (v := ((((a0 - (((a0.toUInt32 >>> ((1 : Int32).toUInt32 &&& Int32.toUInt32 31)).toInt32) &&& (1431655765 : Int32))) &&& (858993459 : Int32)) + ((((a0 - (((a0.toUInt32 >>> ((1 : Int32).toUInt32 &&& Int32.toUInt32 31)).toInt32) &&& (1431655765 : Int32))).toUInt32 >>> ((2 : Int32).toUInt32 &&& Int32.toUInt32 31)).toInt32) &&& (858993459 : Int32))).toUInt32 >>> ((4 : Int32).toUInt32 &&& Int32.toUInt32 31)).toInt32) hx hb dJ6_bitCount_0f7a4_27 rfl ?_
    refine lv_iadd hx hb dJ6_bitCount_0f7a4_28 ?_
    refine lv_ldcw hx hb cx.2.2.2.1 (cx.2.2.2.2.1 _ mK_J6_267) dJ6_bitCount_0f7a4_29 ?_
    refine lv_iand hx hb dJ6_bitCount_0f7a4_32 ?_
    refine lv_istore_n (lv' := [(0, .int (((((a0 - (((a0.toUInt32 >>> ((1 : Int32).toUInt32 &&& Int32.toUInt32 31)).toInt32) &&& (1431655765 : Int32))) &&& (858993459 : Int32)) + ((((a0 - (((a0.toUInt32 >>> ((1 : Int32).toUInt32 &&& Int32.toUInt32 31)).toInt32) &&& (1431655765 : Int32))).toUInt32 >>> ((2 : Int32).toUInt32 &&& Int32.toUInt32 31)).toInt32) &&& (858993459 : Int32))) + (((((a0 - (((a0.toUInt32 >>> ((1 : Int32).toUInt32 &&& Int32.toUInt32 31)).toInt32) &&& (1431655765 : Int32))) &&& (858993459 : Int32)) + ((((a0 - (((a0.toUInt32 >>> ((1 : Int32).toUInt32 &&& Int32.toUInt32 31)).toInt32) &&& (1431655765 : Int32))).toUInt32 >>> ((2 : Int32).toUInt32 &&& Int32.toUInt32 31)).toInt32) &&& (858993459 : Int32))).toUInt32 >>> ((4 : Int32).toUInt32 &&& Int32.toUInt32 31)).toInt32)) &&& (252645135 : Int32)))]) hx hb dJ6_bitCount_0f7a4_33 rfl hl (by decide) rfl (fun ls hl => ?_)
    refine lv_iload_n hx hb dJ6_bitCount_0f7a4_34 rfl (lv_at hl 0 rfl) ?_
    refine lv_iload_n hx hb dJ6_bitCount_0f7a4_35 rfl (lv_at hl 0 rfl) ?_
    refine lv_bipush (v := 8) hx hb dJ6_bitCount_0f7a4_36 (by decide) ?_
    refine lv_iushr (v := ((((((a0 - (((a0.toUInt32 >>> ((1 : Int32).toUInt32 &&& Int32.toUInt32 31)).toInt32) &&& (1431655765 : Int32))) &&& (858993459 : Int32)) + ((((a0 - (((a0.toUInt32 >>> ((1 : Int32).toUInt32 &&& Int32.toUInt32 31)).toInt32) &&& (1431655765 : Int32))).toUInt32 >>> ((2 : Int32).toUInt32 &&& Int32.toUInt32 31)).toInt32) &&& (858993459 : Int32))) + (((((a0 - (((a0.toUInt32 >>> ((1 : Int32).toUInt32 &&& Int32.toUInt32 31)).toInt32) &&& (1431655765 : Int32))) &&& (858993459 : Int32)) + ((((a0 - (((a0.toUInt32 >>> ((1 : Int32).toUInt32 &&& Int32.toUInt32 31)).toInt32) &&& (1431655765 : Int32))).toUInt32 >>> ((2 : Int32).toUInt32 &&& Int32.toUInt32 31)).toInt32) &&& (858993459 : Int32))).toUInt32 >>> ((4 : Int32).toUInt32 &&& Int32.toUInt32 31)).toInt32)) &&& (252645135 : Int32)).toUInt32 >>> ((8 : Int32).toUInt32 &&& Int32.toUInt32 31)).toInt32) hx hb dJ6_bitCount_0f7a4_38 rfl ?_
    refine lv_iadd hx hb dJ6_bitCount_0f7a4_39 ?_
    refine lv_istore_n (lv' := [(0, .int ((((((a0 - (((a0.toUInt32 >>> ((1 : Int32).toUInt32 &&& Int32.toUInt32 31)).toInt32) &&& (1431655765 : Int32))) &&& (858993459 : Int32)) + ((((a0 - (((a0.toUInt32 >>> ((1 : Int32).toUInt32 &&& Int32.toUInt32 31)).toInt32) &&& (1431655765 : Int32))).toUInt32 >>> ((2 : Int32).toUInt32 &&& Int32.toUInt32 31)).toInt32) &&& (858993459 : Int32))) + (((((a0 - (((a0.toUInt32 >>> ((1 : Int32).toUInt32 &&& Int32.toUInt32 31)).toInt32) &&& (1431655765 : Int32))) &&& (858993459 : Int32)) + ((((a0 - (((a0.toUInt32 >>> ((1 : Int32).toUInt32 &&& Int32.toUInt32 31)).toInt32) &&& (1431655765 : Int32))).toUInt32 >>> ((2 : Int32).toUInt32 &&& Int32.toUInt32 31)).toInt32) &&& (858993459 : Int32))).toUInt32 >>> ((4 : Int32).toUInt32 &&& Int32.toUInt32 31)).toInt32)) &&& (252645135 : Int32)) + (((((((a0 - (((a0.toUInt32 >>> ((1 : Int32).toUInt32 &&& Int32.toUInt32 31)).toInt32) &&& (1431655765 : Int32))) &&& (858993459 : Int32)) + ((((a0 - (((a0.toUInt32 >>> ((1 : Int32).toUInt32 &&& Int32.toUInt32 31)).toInt32) &&& (1431655765 : Int32))).toUInt32 >>> ((2 : Int32).toUInt32 &&& Int32.toUInt32 31)).toInt32) &&& (858993459 : Int32))) + (((((a0 - (((a0.toUInt32 >>> ((1 : Int32).toUInt32 &&& Int32.toUInt32 31)).toInt32) &&& (1431655765 : Int32))) &&& (858993459 : Int32)) + ((((a0 - (((a0.toUInt32 >>> ((1 : Int32).toUInt32 &&& Int32.toUInt32 31)).toInt32) &&& (1431655765 : Int32))).toUInt32 >>> ((2 : Int32).toUInt32 &&& Int32.toUInt32 31)).toInt32) &&& (858993459 : Int32))).toUInt32 >>> ((4 : Int32).toUInt32 &&& Int32.toUInt32 31)).toInt32)) &&& (252645135 : Int32)).toUInt32 >>> ((8 : Int32).toUInt32 &&& Int32.toUInt32 31)).toInt32)))]) hx hb dJ6_bitCount_0f7a4_40 rfl hl (by decide) rfl (fun ls hl => ?_)
    refine lv_iload_n hx hb dJ6_bitCount_0f7a4_41 rfl (lv_at hl 0 rfl) ?_
    refine lv_iload_n hx hb dJ6_bitCount_0f7a4_42 rfl (lv_at hl 0 rfl) ?_
    refine lv_bipush (v := 16) hx hb dJ6_bitCount_0f7a4_43 (by decide) ?_
    refine lv_iushr (v := (((((((a0 - (((a0.toUInt32 >>> ((1 : Int32).toUInt32 &&& Int32.toUInt32 31)).toInt32) &&& (1431655765 : Int32))) &&& (858993459 : Int32)) + ((((a0 - (((a0.toUInt32 >>> ((1 : Int32).toUInt32 &&& Int32.toUInt32 31)).toInt32) &&& (1431655765 : Int32))).toUInt32 >>> ((2 : Int32).toUInt32 &&& Int32.toUInt32 31)).toInt32) &&& (858993459 : Int32))) + (((((a0 - (((a0.toUInt32 >>> ((1 : Int32).toUInt32 &&& Int32.toUInt32 31)).toInt32) &&& (1431655765 : Int32))) &&& (858993459 : Int32)) + ((((a0 - (((a0.toUInt32 >>> ((1 : Int32).toUInt32 &&& Int32.toUInt32 31)).toInt32) &&& (1431655765 : Int32))).toUInt32 >>> ((2 : Int32).toUInt32 &&& Int32.toUInt32 31)).toInt32) &&& (858993459 : Int32))).toUInt32 >>> ((4 : Int32).toUInt32 &&& Int32.toUInt32 31)).toInt32)) &&& (252645135 : Int32)) + (((((((a0 - (((a0.toUInt32 >>> ((1 : Int32).toUInt32 &&& Int32.toUInt32 31)).toInt32) &&& (1431655765 : Int32))) &&& (858993459 : Int32)) + ((((a0 - (((a0.toUInt32 >>> ((1 : Int32).toUInt32 &&& Int32.toUInt32 31)).toInt32) &&& (1431655765 : Int32))).toUInt32 >>> ((2 : Int32).toUInt32 &&& Int32.toUInt32 31)).toInt32) &&& (858993459 : Int32))) + (((((a0 - (((a0.toUInt32 >>> ((1 : Int32).toUInt32 &&& Int32.toUInt32 31)).toInt32) &&& (1431655765 : Int32))) &&& (858993459 : Int32)) + ((((a0 - (((a0.toUInt32 >>> ((1 : Int32).toUInt32 &&& Int32.toUInt32 31)).toInt32) &&& (1431655765 : Int32))).toUInt32 >>> ((2 : Int32).toUInt32 &&& Int32.toUInt32 31)).toInt32) &&& (858993459 : Int32))).toUInt32 >>> ((4 : Int32).toUInt32 &&& Int32.toUInt32 31)).toInt32)) &&& (252645135 : Int32)).toUInt32 >>> ((8 : Int32).toUInt32 &&& Int32.toUInt32 31)).toInt32)).toUInt32 >>> ((16 : Int32).toUInt32 &&& Int32.toUInt32 31)).toInt32) hx hb dJ6_bitCount_0f7a4_45 rfl ?_
    refine lv_iadd hx hb dJ6_bitCount_0f7a4_46 ?_
    refine lv_istore_n (lv' := [(0, .int (((((((a0 - (((a0.toUInt32 >>> ((1 : Int32).toUInt32 &&& Int32.toUInt32 31)).toInt32) &&& (1431655765 : Int32))) &&& (858993459 : Int32)) + ((((a0 - (((a0.toUInt32 >>> ((1 : Int32).toUInt32 &&& Int32.toUInt32 31)).toInt32) &&& (1431655765 : Int32))).toUInt32 >>> ((2 : Int32).toUInt32 &&& Int32.toUInt32 31)).toInt32) &&& (858993459 : Int32))) + (((((a0 - (((a0.toUInt32 >>> ((1 : Int32).toUInt32 &&& Int32.toUInt32 31)).toInt32) &&& (1431655765 : Int32))) &&& (858993459 : Int32)) + ((((a0 - (((a0.toUInt32 >>> ((1 : Int32).toUInt32 &&& Int32.toUInt32 31)).toInt32) &&& (1431655765 : Int32))).toUInt32 >>> ((2 : Int32).toUInt32 &&& Int32.toUInt32 31)).toInt32) &&& (858993459 : Int32))).toUInt32 >>> ((4 : Int32).toUInt32 &&& Int32.toUInt32 31)).toInt32)) &&& (252645135 : Int32)) + (((((((a0 - (((a0.toUInt32 >>> ((1 : Int32).toUInt32 &&& Int32.toUInt32 31)).toInt32) &&& (1431655765 : Int32))) &&& (858993459 : Int32)) + ((((a0 - (((a0.toUInt32 >>> ((1 : Int32).toUInt32 &&& Int32.toUInt32 31)).toInt32) &&& (1431655765 : Int32))).toUInt32 >>> ((2 : Int32).toUInt32 &&& Int32.toUInt32 31)).toInt32) &&& (858993459 : Int32))) + (((((a0 - (((a0.toUInt32 >>> ((1 : Int32).toUInt32 &&& Int32.toUInt32 31)).toInt32) &&& (1431655765 : Int32))) &&& (858993459 : Int32)) + ((((a0 - (((a0.toUInt32 >>> ((1 : Int32).toUInt32 &&& Int32.toUInt32 31)).toInt32) &&& (1431655765 : Int32))).toUInt32 >>> ((2 : Int32).toUInt32 &&& Int32.toUInt32 31)).toInt32) &&& (858993459 : Int32))).toUInt32 >>> ((4 : Int32).toUInt32 &&& Int32.toUInt32 31)).toInt32)) &&& (252645135 : Int32)).toUInt32 >>> ((8 : Int32).toUInt32 &&& Int32.toUInt32 31)).toInt32)) + ((((((((a0 - (((a0.toUInt32 >>> ((1 : Int32).toUInt32 &&& Int32.toUInt32 31)).toInt32) &&& (1431655765 : Int32))) &&& (858993459 : Int32)) + ((((a0 - (((a0.toUInt32 >>> ((1 : Int32).toUInt32 &&& Int32.toUInt32 31)).toInt32) &&& (1431655765 : Int32))).toUInt32 >>> ((2 : Int32).toUInt32 &&& Int32.toUInt32 31)).toInt32) &&& (858993459 : Int32))) + (((((a0 - (((a0.toUInt32 >>> ((1 : Int32).toUInt32 &&& Int32.toUInt32 31)).toInt32) &&& (1431655765 : Int32))) &&& (858993459 : Int32)) + ((((a0 - (((a0.toUInt32 >>> ((1 : Int32).toUInt32 &&& Int32.toUInt32 31)).toInt32) &&& (1431655765 : Int32))).toUInt32 >>> ((2 : Int32).toUInt32 &&& Int32.toUInt32 31)).toInt32) &&& (858993459 : Int32))).toUInt32 >>> ((4 : Int32).toUInt32 &&& Int32.toUInt32 31)).toInt32)) &&& (252645135 : Int32)) + (((((((a0 - (((a0.toUInt32 >>> ((1 : Int32).toUInt32 &&& Int32.toUInt32 31)).toInt32) &&& (1431655765 : Int32))) &&& (858993459 : Int32)) + ((((a0 - (((a0.toUInt32 >>> ((1 : Int32).toUInt32 &&& Int32.toUInt32 31)).toInt32) &&& (1431655765 : Int32))).toUInt32 >>> ((2 : Int32).toUInt32 &&& Int32.toUInt32 31)).toInt32) &&& (858993459 : Int32))) + (((((a0 - (((a0.toUInt32 >>> ((1 : Int32).toUInt32 &&& Int32.toUInt32 31)).toInt32) &&& (1431655765 : Int32))) &&& (858993459 : Int32)) + ((((a0 - (((a0.toUInt32 >>> ((1 : Int32).toUInt32 &&& Int32.toUInt32 31)).toInt32) &&& (1431655765 : Int32))).toUInt32 >>> ((2 : Int32).toUInt32 &&& Int32.toUInt32 31)).toInt32) &&& (858993459 : Int32))).toUInt32 >>> ((4 : Int32).toUInt32 &&& Int32.toUInt32 31)).toInt32)) &&& (252645135 : Int32)).toUInt32 >>> ((8 : Int32).toUInt32 &&& Int32.toUInt32 31)).toInt32)).toUInt32 >>> ((16 : Int32).toUInt32 &&& Int32.toUInt32 31)).toInt32)))]) hx hb dJ6_bitCount_0f7a4_47 rfl hl (by decide) rfl (fun ls hl => ?_)
    refine lv_iload_n hx hb dJ6_bitCount_0f7a4_48 rfl (lv_at hl 0 rfl) ?_
    refine lv_bipush (v := 63) hx hb dJ6_bitCount_0f7a4_49 (by decide) ?_
    refine lv_iand hx hb dJ6_bitCount_0f7a4_51 ?_
    exact t_I cx hr hlocks hP hS (congrArg (Prod.mk M) (Option.some.inj hj)) (Nat.le_of_ble_eq_true rfl) (Nat.le_of_ble_eq_true rfl) dJ6_bitCount_0f7a4_52
  exact hgo _ _ hP hS
set_option maxHeartbeats 4000000 in
set_option maxRecDepth 100000 in
theorem c_X0_firstRang (l : Launch) (X : hX) (g : Nat) (M : hm) (a0 : Nat) (RR : Int32) (hj : j_X0_firstRang g M a0 = some RR) : Ct l X yX0_firstRang cX0_firstRang 2 (some .int) { frames := 0, cells := 0, slots := 0, locals := 0 } [.ref a0] M (qI X (M, RR)) := by
  refine h_enter (own := RX0) (by decide) rfl (Nat.le_of_ble_eq_true rfl) ?_
  intro p e s m below meth c ls cx hr hlocks hnm hP hS hl
  have hx := cx.1
  have hb := cx.2.1
  have hl : lv_has ls 2 [(0, .ref a0)] := hl
  unfold j_X0_firstRang at hj
  have hgo : ∀ (H : Heap) (locs : List Loc), hp X M H → va_S (hA X) s.heap H locs → W p l e ({ frames := 0, cells := 0, slots := 0, locals := 0 } : Room) s m _ below meth c H locs 0 0 (MQ below (qI X (M, RR)) _ s 0 0 (hA X)) (F0 m 0 ls []) := by
    have J_28 : ∀ (H : Heap) (locs : List Loc) (ls : Array Slot), j_X0_firstRang_28 g M  = some RR → hp X M H → va_S (hA X) s.heap H locs → lv_has ls 2 [] → W p l e ({ frames := 0, cells := 0, slots := 0, locals := 0 } : Room) s m _ below meth c H locs 0 0 (MQ below (qI X (M, RR)) _ s 0 0 (hA X)) (F0 m 28 ls []) := by
      intro  H locs ls hj hP hS hl
      unfold j_X0_firstRang_28 at hj
      refine lv_iconst (v := -1) hx hb dX0_firstRang_28 (by decide) ?_
      exact t_I cx hr hlocks hP hS (congrArg (Prod.mk M) (Option.some.inj hj)) (Nat.le_of_ble_eq_true rfl) (Nat.le_of_ble_eq_true rfl) dX0_firstRang_29
    have J_20 : ∀ (p1 : Int32) (H : Heap) (locs : List Loc) (ls : Array Slot), j_X0_firstRang_20 g M p1 = some RR → hp X M H → va_S (hA X) s.heap H locs → lv_has ls 2 [(1, .int p1)] → W p l e ({ frames := 0, cells := 0, slots := 0, locals := 0 } : Room) s m _ below meth c H locs 0 0 (MQ below (qI X (M, RR)) _ s 0 0 (hA X)) (F0 m 20 ls []) := by
      intro p1 H locs ls hj hP hS hl
      unfold j_X0_firstRang_20 at hj
      refine lv_iload_n hx hb dX0_firstRang_20 rfl (lv_at hl 0 rfl) ?_
      exact t_I cx hr hlocks hP hS (congrArg (Prod.mk M) (Option.some.inj hj)) (Nat.le_of_ble_eq_true rfl) (Nat.le_of_ble_eq_true rfl) dX0_firstRang_21
    have L_2 : ∀ (n2 : Nat) (p0 : Nat) (p1 : Int32) (H : Heap) (locs : List Loc) (ls : Array Slot), j_X0_firstRang_2 g M n2 p0 p1 = some RR → hp X M H → va_S (hA X) s.heap H locs → lv_has ls 2 [(0, .ref p0), (1, .int p1)] → W p l e ({ frames := 0, cells := 0, slots := 0, locals := 0 } : Room) s m _ below meth c H locs 0 0 (MQ below (qI X (M, RR)) _ s 0 0 (hA X)) (F0 m 2 ls []) := by
      intro n2
      induction n2 with
      | zero =>
        intro p0 p1 H locs ls hj
        exact no_zero hj
      | succ n2 ih_2 =>
        intro p0 p1 H locs ls hj hP hS hl
        rw [j_X0_firstRang_2_s] at hj
        refine lv_iload_n hx hb dX0_firstRang_2 rfl (lv_at hl 1 rfl) ?_
        refine lv_bipush (v := 16) hx hb dX0_firstRang_3 (by decide) ?_
        refine lv_icmp_ge (tgt := 28) hx hb dX0_firstRang_5 (by decide) (fun c1 => ?_) (fun c1 => ?_)
        · have hj := if_t c1 hj
          exact J_28  H locs ls hj hP hS (lv_sub hl [] rfl)
        · have hj := if_f c1 hj
          refine lv_aload_n hx hb dX0_firstRang_8 rfl (lv_at hl 0 rfl) ?_
          obtain ⟨v2, g_v2, hj⟩ := Option.bind_eq_some_iff.mp hj
          refine r_getI cx hP g_v2 iX0 rfl (by decide) mF_X0_24 dX0_firstRang_9 ?_
          refine lv_iload_n hx hb dX0_firstRang_12 rfl (lv_at hl 1 rfl) ?_
          refine lv_ishr hx hb dX0_firstRang_13 ?_
          refine lv_iconst (v := 1) hx hb dX0_firstRang_14 (by decide) ?_
          refine lv_iand hx hb dX0_firstRang_15 ?_
          refine lv_iconst (v := 1) hx hb dX0_firstRang_16 (by decide) ?_
          refine lv_icmp_ne (tgt := 22) hx hb dX0_firstRang_17 (by decide) (fun c3 => ?_) (fun c3 => ?_)
          · have hj := if_f c3 hj
            refine lv_iinc (v := (p1 + (1 : Int32))) (lv' := [(1, .int (p1 + (1 : Int32))), (0, .ref p0)]) hx hb dX0_firstRang_22 hl (k := 1) rfl rfl (by decide) rfl (fun ls hl => ?_)
            refine lv_goto (tgt := 2) hx hb dX0_firstRang_25 (by decide) ?_
            exact ih_2 p0 (p1 + (1 : Int32)) H locs ls hj hP hS (lv_sub hl [1, 0] rfl)
          · have hj := if_t c3 hj
            exact J_20 p1 H locs ls hj hP hS (lv_sub hl [1] rfl)
    intro H locs hP hS
    refine lv_iconst (v := 0) hx hb dX0_firstRang_0 (by decide) ?_
    refine lv_istore_n (lv' := [(1, .int (0 : Int32)), (0, .ref a0)]) hx hb dX0_firstRang_1 rfl hl (by decide) rfl (fun ls hl => ?_)
    exact L_2 g a0 (0 : Int32) H locs ls hj hP hS (lv_sub hl [1, 0] rfl)
  exact hgo _ _ hP hS
set_option maxHeartbeats 4000000 in
set_option maxRecDepth 100000 in
theorem c_X0_answer (l : Launch) (X : hX) (g : Nat) (M : hm) (a0 : Nat) (a1 : Int32) (RR : Int32) (hj : j_X0_answer g M a0 a1 = some RR) : Ct l X yX0_answer cX0_answer 2 (some .int) { frames := 1, cells := 0, slots := 0, locals := 21 } [.ref a0, .int a1] M (qI X (M, RR)) := by
  refine h_enter (own := RX0) (by decide) rfl (Nat.le_of_ble_eq_true rfl) ?_
  intro p e s m below meth c ls cx hr hlocks hnm hP hS hl
  have hx := cx.1
  have hb := cx.2.1
  have hl : lv_has ls 2 [(0, .ref a0), (1, .int a1)] := hl
  unfold j_X0_answer at hj
  have hgo : ∀ (H : Heap) (locs : List Loc), hp X M H → va_S (hA X) s.heap H locs → W p l e ({ frames := 1, cells := 0, slots := 0, locals := 21 } : Room) s m _ below meth c H locs 0 0 (MQ below (qI X (M, RR)) _ s 0 0 (hA X)) (F0 m 0 ls []) := by
    intro H locs hP hS
    refine lv_aload_n hx hb dX0_answer_0 rfl (lv_at hl 0 rfl) ?_
    obtain ⟨v1, g_v1, hj⟩ := Option.bind_eq_some_iff.mp hj
    refine r_getI cx hP g_v1 iX0 rfl (by decide) mF_X0_27 dX0_answer_1 ?_
    refine lv_if_ne (tgt := 9) hx hb dX0_answer_4 (by decide) (fun c2 => ?_) (fun c2 => ?_)
    · have hj := if_f c2 hj
      refine lv_iload_n hx hb dX0_answer_9 rfl (lv_at hl 1 rfl) ?_
      by_cases c3 : a1 = (0 : Int32)
      · have hj := if_t c3 hj
        refine lv_tableIn (off := 26) (tgt := 36) hx hb dX0_answer_10 (by rw [c3]; decide) (by rw [c3]; decide) (by rw [c3]; decide) (by decide) ?_
        refine lv_aload_n hx hb dX0_answer_36 rfl (lv_at hl 0 rfl) ?_
        obtain ⟨v6, g_v6, hj⟩ := Option.bind_eq_some_iff.mp hj
        refine r_getI cx hP g_v6 iX0 rfl (by decide) mF_X0_21 dX0_answer_37 ?_
        obtain ⟨v7, g_v7, hj⟩ := Option.bind_eq_some_iff.mp hj
        refine f_I (k_S (As := [.int v6]) (n := 1) (rest := []) cx hl.1 hP hS (c_J6_bitCount_0f7a4 l X g M v6 v7 g_v7) mC_J6_bitCount_0f7a4 mM_X0_31 mT_J6_bitCount_0f7a4 mZ_J6 (by decide +kernel) ⟨Nat.le_of_ble_eq_true rfl, Nat.le_of_ble_eq_true rfl⟩ rfl rfl (Nat.le_of_ble_eq_true rfl) dX0_answer_40 ⟨Nat.le_of_ble_eq_true rfl, Nat.le_of_ble_eq_true rfl⟩) hS (fun H locs hP hS => ?_)
        have hP : hp X M H := hP
        refine W.eq (g2 := F0 m 43 ls [.int v7]) rfl ?_
        refine W.widen (k := 0) (n := 0) (Nat.le_of_ble_eq_true rfl) (Nat.le_of_ble_eq_true rfl) ?_
        exact t_I cx hr hlocks hP hS (congrArg (Prod.mk M) (Option.some.inj hj)) (Nat.le_of_ble_eq_true rfl) (Nat.le_of_ble_eq_true rfl) dX0_answer_43
      have hj := if_f c3 hj
      by_cases c4 : a1 = (1 : Int32)
      · have hj := if_t c4 hj
        refine lv_tableIn (off := 34) (tgt := 44) hx hb dX0_answer_10 (by rw [c4]; decide) (by rw [c4]; decide) (by rw [c4]; decide) (by decide) ?_
        refine lv_aload_n hx hb dX0_answer_44 rfl (lv_at hl 0 rfl) ?_
        obtain ⟨v8, g_v8, hj⟩ := Option.bind_eq_some_iff.mp hj
        refine r_getI cx hP g_v8 iX0 rfl (by decide) mF_X0_24 dX0_answer_45 ?_
        obtain ⟨v9, g_v9, hj⟩ := Option.bind_eq_some_iff.mp hj
        refine f_I (k_S (As := [.int v8]) (n := 1) (rest := []) cx hl.1 hP hS (c_J6_bitCount_0f7a4 l X g M v8 v9 g_v9) mC_J6_bitCount_0f7a4 mM_X0_31 mT_J6_bitCount_0f7a4 mZ_J6 (by decide +kernel) ⟨Nat.le_of_ble_eq_true rfl, Nat.le_of_ble_eq_true rfl⟩ rfl rfl (Nat.le_of_ble_eq_true rfl) dX0_answer_48 ⟨Nat.le_of_ble_eq_true rfl, Nat.le_of_ble_eq_true rfl⟩) hS (fun H locs hP hS => ?_)
        have hP : hp X M H := hP
        refine W.eq (g2 := F0 m 51 ls [.int v9]) rfl ?_
        refine W.widen (k := 0) (n := 0) (Nat.le_of_ble_eq_true rfl) (Nat.le_of_ble_eq_true rfl) ?_
        exact t_I cx hr hlocks hP hS (congrArg (Prod.mk M) (Option.some.inj hj)) (Nat.le_of_ble_eq_true rfl) (Nat.le_of_ble_eq_true rfl) dX0_answer_51
      have hj := if_f c4 hj
      by_cases c5 : a1 = (2 : Int32)
      · have hj := if_t c5 hj
        refine lv_tableIn (off := 42) (tgt := 52) hx hb dX0_answer_10 (by rw [c5]; decide) (by rw [c5]; decide) (by rw [c5]; decide) (by decide) ?_
        refine lv_aload_n hx hb dX0_answer_52 rfl (lv_at hl 0 rfl) ?_
        obtain ⟨_, o10, hj⟩ := Option.bind_eq_some_iff.mp hj
        obtain ⟨v11, g_v11, hj⟩ := Option.bind_eq_some_iff.mp hj
        refine f_I (k_V (b := a0) (As := []) (n := 0) (rest := []) cx hl.1 hP hS (c_X0_firstRang l X g M a0 v11 g_v11) o10 rfl mC_X0_firstRang mM_X0_37 mI_X0_firstRang mS_X0_firstRang mZ_X0 (by decide +kernel) ⟨Nat.le_of_ble_eq_true rfl, Nat.le_of_ble_eq_true rfl⟩ rfl rfl (Nat.le_of_ble_eq_true rfl) dX0_answer_53 ⟨Nat.le_of_ble_eq_true rfl, Nat.le_of_ble_eq_true rfl⟩) hS (fun H locs hP hS => ?_)
        have hP : hp X M H := hP
        refine W.eq (g2 := F0 m 56 ls [.int v11]) rfl ?_
        refine W.widen (k := 0) (n := 0) (Nat.le_of_ble_eq_true rfl) (Nat.le_of_ble_eq_true rfl) ?_
        exact t_I cx hr hlocks hP hS (congrArg (Prod.mk M) (Option.some.inj hj)) (Nat.le_of_ble_eq_true rfl) (Nat.le_of_ble_eq_true rfl) dX0_answer_56
      have hj := if_f c5 hj
      have sw : a1.toInt < 0 ∨ 2 < a1.toInt := by
        rcases Int.lt_or_ge a1.toInt 0 with q | q
        · exact Or.inl q
        have q := sw_step q (sw_ne c3 (by decide))
        have q := sw_step q (sw_ne c4 (by decide))
        have q := sw_step q (sw_ne c5 (by decide))
        exact Or.inr (by omega)
      refine lv_tableOut (tgt := 57) hx hb dX0_answer_10 sw (by decide) ?_
      refine lv_iconst (v := -1) hx hb dX0_answer_57 (by decide) ?_
      exact t_I cx hr hlocks hP hS (congrArg (Prod.mk M) (Option.some.inj hj)) (Nat.le_of_ble_eq_true rfl) (Nat.le_of_ble_eq_true rfl) dX0_answer_58
    · have hj := if_t c2 hj
      refine lv_iconst (v := -1) hx hb dX0_answer_7 (by decide) ?_
      exact t_I cx hr hlocks hP hS (congrArg (Prod.mk M) (Option.some.inj hj)) (Nat.le_of_ble_eq_true rfl) (Nat.le_of_ble_eq_true rfl) dX0_answer_8
  exact hgo _ _ hP hS
set_option maxHeartbeats 4000000 in
set_option maxRecDepth 100000 in
theorem c_X0_init (l : Launch) (X : hX) (g : Nat) (M : hm) (a0 : Nat) (a1 : Int32) (a2 : Int32) (a3 : Int32) (RR : hm) (hj : j_X0_init g M a0 a1 a2 a3 = some RR) : Ct l X yX0_init cX0_init 4 none { frames := 1, cells := 0, slots := 0, locals := 12 } [.ref a0, .int a1, .int a2, .int a3] M (qV X RR) := by
  refine h_enter (own := RX0) (by decide) rfl (Nat.le_of_ble_eq_true rfl) ?_
  intro p e s m below meth c ls cx hr hlocks hnm hP hS hl
  have hx := cx.1
  have hb := cx.2.1
  have hl : lv_has ls 4 [(0, .ref a0), (1, .int a1), (2, .int a2), (3, .int a3)] := hl
  unfold j_X0_init at hj
  have hgo : ∀ (H : Heap) (locs : List Loc), hp X M H → va_S (hA X) s.heap H locs → W p l e ({ frames := 1, cells := 0, slots := 0, locals := 12 } : Room) s m _ below meth c H locs 0 0 (MQ below (qV X RR) _ s 0 0 (hA X)) (F0 m 0 ls []) := by
    intro H locs hP hS
    refine lv_aload_n hx hb dX0_init_0 rfl (lv_at hl 0 rfl) ?_
    refine W.objInit hx hb cx.2.2.2.1 (cx.2.2.2.2.1 _ mM_X0_3) (cx.2.2.2.2.1 _ mI_obj) (cx.2.2.2.2.1 _ mC_obj) rfl (by rw [cx.2.2.1]; exact hl.1) rfl dX0_init_1 (Nat.le_of_ble_eq_true rfl) (Nat.le_of_ble_eq_true rfl) ?_
    refine W.eq (g2 := F0 m 4 ls []) rfl ?_
    refine lv_aload_n hx hb dX0_init_4 rfl (lv_at hl 0 rfl) ?_
    refine lv_iload_n hx hb dX0_init_5 rfl (lv_at hl 1 rfl) ?_
    obtain ⟨M1, g_M1, hj⟩ := Option.bind_eq_some_iff.mp hj
    refine r_putF cx hP hS g_M1 iX0 tyX0 tyX0_ok nmX0 rfl (by decide) mF_X0_9 rfl hnm rfl rfl rfl dX0_init_6 (fun H locs hP hS => ?_)
    refine lv_aload_n hx hb dX0_init_9 rfl (lv_at hl 0 rfl) ?_
    refine lv_iload_n hx hb dX0_init_10 rfl (lv_at hl 2 rfl) ?_
    obtain ⟨M2, g_M2, hj⟩ := Option.bind_eq_some_iff.mp hj
    refine r_putF cx hP hS g_M2 iX0 tyX0 tyX0_ok nmX0 rfl (by decide) mF_X0_15 rfl hnm rfl rfl rfl dX0_init_11 (fun H locs hP hS => ?_)
    refine lv_aload_n hx hb dX0_init_14 rfl (lv_at hl 0 rfl) ?_
    refine lv_iload_n hx hb dX0_init_15 rfl (lv_at hl 3 rfl) ?_
    obtain ⟨M3, g_M3, hj⟩ := Option.bind_eq_some_iff.mp hj
    refine r_putF cx hP hS g_M3 iX0 tyX0 tyX0_ok nmX0 rfl (by decide) mF_X0_18 rfl hnm rfl rfl rfl dX0_init_16 (fun H locs hP hS => ?_)
    refine lv_aload_n hx hb dX0_init_19 rfl (lv_at hl 0 rfl) ?_
    refine lv_iconst (v := 0) hx hb dX0_init_20 (by decide) ?_
    obtain ⟨M4, g_M4, hj⟩ := Option.bind_eq_some_iff.mp hj
    refine r_put cx hP hS g_M4 iX0 tyX0 tyX0_ok nmX0 rfl (by decide) mF_X0_21 rfl rfl rfl dX0_init_21 (fun H locs hP hS => ?_)
    refine lv_aload_n hx hb dX0_init_24 rfl (lv_at hl 0 rfl) ?_
    refine lv_iconst (v := 0) hx hb dX0_init_25 (by decide) ?_
    obtain ⟨M5, g_M5, hj⟩ := Option.bind_eq_some_iff.mp hj
    refine r_put cx hP hS g_M5 iX0 tyX0 tyX0_ok nmX0 rfl (by decide) mF_X0_24 rfl rfl rfl dX0_init_26 (fun H locs hP hS => ?_)
    refine lv_aload_n hx hb dX0_init_29 rfl (lv_at hl 0 rfl) ?_
    refine lv_iconst (v := 0) hx hb dX0_init_30 (by decide) ?_
    obtain ⟨M6, g_M6, hj⟩ := Option.bind_eq_some_iff.mp hj
    refine r_put cx hP hS g_M6 iX0 tyX0 tyX0_ok nmX0 rfl (by decide) mF_X0_27 rfl rfl rfl dX0_init_31 (fun H locs hP hS => ?_)
    exact t_V cx hr hlocks hP hS (Option.some.inj hj) (Nat.le_of_ble_eq_true rfl) (Nat.le_of_ble_eq_true rfl) dX0_init_34
  exact hgo _ _ hP hS
set_option maxHeartbeats 4000000 in
set_option maxRecDepth 100000 in
theorem c_X0_look (l : Launch) (X : hX) (g : Nat) (M : hm) (a0 : Nat) (a1 : Int32) (RR : hm × Int32) (hj : j_X0_look g M a0 a1 = some RR) : Ct l X yX0_look cX0_look 2 (some .int) { frames := 1, cells := 0, slots := 0, locals := 20 } [.ref a0, .int a1] M (qI X RR) := by
  refine h_enter (own := RX0) (by decide) rfl (Nat.le_of_ble_eq_true rfl) ?_
  intro p e s m below meth c ls cx hr hlocks hnm hP hS hl
  have hx := cx.1
  have hb := cx.2.1
  have hl : lv_has ls 2 [(0, .ref a0), (1, .int a1)] := hl
  unfold j_X0_look at hj
  have hgo : ∀ (H : Heap) (locs : List Loc), hp X M H → va_S (hA X) s.heap H locs → W p l e ({ frames := 1, cells := 0, slots := 0, locals := 20 } : Room) s m _ below meth c H locs 0 0 (MQ below (qI X RR) _ s 0 0 (hA X)) (F0 m 0 ls []) := by
    intro H locs hP hS
    refine lv_aload_n hx hb dX0_look_0 rfl (lv_at hl 0 rfl) ?_
    refine lv_iload_n hx hb dX0_look_1 rfl (lv_at hl 1 rfl) ?_
    refine lv_aload_n hx hb dX0_look_2 rfl (lv_at hl 0 rfl) ?_
    obtain ⟨v1, g_v1, hj⟩ := Option.bind_eq_some_iff.mp hj
    refine r_getI cx hP g_v1 iX0 rfl (by decide) mF_X0_21 dX0_look_3 ?_
    refine lv_iconst (v := -1) hx hb dX0_look_6 (by decide) ?_
    refine lv_ixor hx hb dX0_look_7 ?_
    refine lv_iand hx hb dX0_look_8 ?_
    obtain ⟨M2, g_M2, hj⟩ := Option.bind_eq_some_iff.mp hj
    refine r_put cx hP hS g_M2 iX0 tyX0 tyX0_ok nmX0 rfl (by decide) mF_X0_24 rfl rfl rfl dX0_look_9 (fun H locs hP hS => ?_)
    refine lv_aload_n hx hb dX0_look_12 rfl (lv_at hl 0 rfl) ?_
    refine lv_iload_n hx hb dX0_look_13 rfl (lv_at hl 1 rfl) ?_
    obtain ⟨M3, g_M3, hj⟩ := Option.bind_eq_some_iff.mp hj
    refine r_put cx hP hS g_M3 iX0 tyX0 tyX0_ok nmX0 rfl (by decide) mF_X0_21 rfl rfl rfl dX0_look_14 (fun H locs hP hS => ?_)
    refine lv_aload_n hx hb dX0_look_17 rfl (lv_at hl 0 rfl) ?_
    refine lv_iconst (v := 1) hx hb dX0_look_18 (by decide) ?_
    obtain ⟨M4, g_M4, hj⟩ := Option.bind_eq_some_iff.mp hj
    refine r_put cx hP hS g_M4 iX0 tyX0 tyX0_ok nmX0 rfl (by decide) mF_X0_27 rfl rfl rfl dX0_look_19 (fun H locs hP hS => ?_)
    refine lv_aload_n hx hb dX0_look_22 rfl (lv_at hl 0 rfl) ?_
    obtain ⟨v5, g_v5, hj⟩ := Option.bind_eq_some_iff.mp hj
    refine r_getI cx hP g_v5 iX0 rfl (by decide) mF_X0_24 dX0_look_23 ?_
    obtain ⟨v6, g_v6, hj⟩ := Option.bind_eq_some_iff.mp hj
    refine f_I (k_S (As := [.int v5]) (n := 1) (rest := []) cx hl.1 hP hS (c_J6_bitCount_0f7a4 l X g M4 v5 v6 g_v6) mC_J6_bitCount_0f7a4 mM_X0_31 mT_J6_bitCount_0f7a4 mZ_J6 (by decide +kernel) ⟨Nat.le_of_ble_eq_true rfl, Nat.le_of_ble_eq_true rfl⟩ rfl rfl (Nat.le_of_ble_eq_true rfl) dX0_look_26 ⟨Nat.le_of_ble_eq_true rfl, Nat.le_of_ble_eq_true rfl⟩) hS (fun H locs hP hS => ?_)
    have hP : hp X M4 H := hP
    refine W.eq (g2 := F0 m 29 ls [.int v6]) rfl ?_
    refine W.widen (k := 0) (n := 0) (Nat.le_of_ble_eq_true rfl) (Nat.le_of_ble_eq_true rfl) ?_
    exact t_I cx hr hlocks hP hS (Option.some.inj hj) (Nat.le_of_ble_eq_true rfl) (Nat.le_of_ble_eq_true rfl) dX0_look_29
  exact hgo _ _ hP hS
set_option maxHeartbeats 4000000 in
set_option maxRecDepth 100000 in
theorem c_X1_init (l : Launch) (X : hX) (g : Nat) (M : hm) (a0 : Nat) (a1 : Int32) (a2 : Option Nat) (a3 : Option Nat) (RR : hm) (hj : j_X1_init g M a0 a1 a2 a3 = some RR) : Ct l X yX1_init cX1_init 4 none { frames := 1, cells := 0, slots := 0, locals := 12 } [.ref a0, .int a1, va_rf a2, va_rf a3] M (qV X RR) := by
  refine h_enter (own := RX1) (by decide) rfl (Nat.le_of_ble_eq_true rfl) ?_
  intro p e s m below meth c ls cx hr hlocks hnm hP hS hl
  have hx := cx.1
  have hb := cx.2.1
  have hl : lv_has ls 4 [(0, .ref a0), (1, .int a1), (2, va_rf a2), (3, va_rf a3)] := hl
  unfold j_X1_init at hj
  have hgo : ∀ (H : Heap) (locs : List Loc), hp X M H → va_S (hA X) s.heap H locs → W p l e ({ frames := 1, cells := 0, slots := 0, locals := 12 } : Room) s m _ below meth c H locs 0 0 (MQ below (qV X RR) _ s 0 0 (hA X)) (F0 m 0 ls []) := by
    intro H locs hP hS
    refine lv_aload_n hx hb dX1_init_0 rfl (lv_at hl 0 rfl) ?_
    refine W.objInit hx hb cx.2.2.2.1 (cx.2.2.2.2.1 _ mM_X1_1) (cx.2.2.2.2.1 _ mI_obj) (cx.2.2.2.2.1 _ mC_obj) rfl (by rw [cx.2.2.1]; exact hl.1) rfl dX1_init_1 (Nat.le_of_ble_eq_true rfl) (Nat.le_of_ble_eq_true rfl) ?_
    refine W.eq (g2 := F0 m 4 ls []) rfl ?_
    refine lv_aload_n hx hb dX1_init_4 rfl (lv_at hl 0 rfl) ?_
    refine lv_iload_n hx hb dX1_init_5 rfl (lv_at hl 1 rfl) ?_
    obtain ⟨M1, g_M1, hj⟩ := Option.bind_eq_some_iff.mp hj
    refine r_putF cx hP hS g_M1 iX1 tyX1 tyX1_ok nmX1 rfl (by decide) mF_X1_7 rfl hnm rfl rfl rfl dX1_init_6 (fun H locs hP hS => ?_)
    refine lv_aload_n hx hb dX1_init_9 rfl (lv_at hl 0 rfl) ?_
    refine h_aload_n hx hb dX1_init_10 rfl (lv_at hl 2 rfl) ?_
    obtain ⟨M2, g_M2, hj⟩ := Option.bind_eq_some_iff.mp hj
    refine r_putF cx hP hS g_M2 iX1 tyX1 tyX1_ok nmX1 rfl (by decide) mF_X1_13 rfl hnm rfl (nar_rf _ _).1 (nar_rf _ _).2 dX1_init_11 (fun H locs hP hS => ?_)
    refine lv_aload_n hx hb dX1_init_14 rfl (lv_at hl 0 rfl) ?_
    refine h_aload_n hx hb dX1_init_15 rfl (lv_at hl 3 rfl) ?_
    obtain ⟨M3, g_M3, hj⟩ := Option.bind_eq_some_iff.mp hj
    refine r_putF cx hP hS g_M3 iX1 tyX1 tyX1_ok nmX1 rfl (by decide) mF_X1_17 rfl hnm rfl (nar_rf _ _).1 (nar_rf _ _).2 dX1_init_16 (fun H locs hP hS => ?_)
    exact t_V cx hr hlocks hP hS (Option.some.inj hj) (Nat.le_of_ble_eq_true rfl) (Nat.le_of_ble_eq_true rfl) dX1_init_19
  exact hgo _ _ hP hS
set_option maxHeartbeats 4000000 in
set_option maxRecDepth 100000 in
theorem c_X5_hasMinus (l : Launch) (X : hX) (g : Nat) (M : hm) (a0 : UInt64) (RR : Int32) (hj : j_X5_hasMinus g a0 = some RR) : Ct l X yX5_hasMinus cX5_hasMinus 2 (some .boolean) { frames := 0, cells := 0, slots := 0, locals := 0 } [.double a0] M (qI X (M, RR)) := by
  refine h_enter (own := RX5) (by decide) rfl (Nat.le_of_ble_eq_true rfl) ?_
  intro p e s m below meth c ls cx hr hlocks hnm hP hS hl
  have hx := cx.1
  have hb := cx.2.1
  have hl : lv_has ls 2 [(0, .double a0)] := hl
  unfold j_X5_hasMinus at hj
  have hgo : ∀ (H : Heap) (locs : List Loc), hp X M H → va_S (hA X) s.heap H locs → W p l e ({ frames := 0, cells := 0, slots := 0, locals := 0 } : Room) s m _ below meth c H locs 0 0 (MQ below (qI X (M, RR)) _ s 0 0 (hA X)) (F0 m 0 ls []) := by
    have J_25 : ∀ (s0 : Int32) (H : Heap) (locs : List Loc) (ls : Array Slot), j_X5_hasMinus_25 g s0 = some RR → hp X M H → va_S (hA X) s.heap H locs → lv_has ls 2 [] → W p l e ({ frames := 0, cells := 0, slots := 0, locals := 0 } : Room) s m _ below meth c H locs 0 0 (MQ below (qI X (M, RR)) _ s 0 0 (hA X)) (F0 m 25 ls [.int s0]) := by
      intro s0 H locs ls hj hP hS hl
      unfold j_X5_hasMinus_25 at hj
      obtain ⟨z1, g_z1, hj⟩ := Option.bind_eq_some_iff.mp hj
      exact t_Z cx hr hlocks hP hS (zb_eq g_z1).1 (congrArg (Prod.mk M) (Option.some.inj hj)) (Nat.le_of_ble_eq_true rfl) (Nat.le_of_ble_eq_true rfl) dX5_hasMinus_25
    have J_24 : ∀ (H : Heap) (locs : List Loc) (ls : Array Slot), j_X5_hasMinus_24 g  = some RR → hp X M H → va_S (hA X) s.heap H locs → lv_has ls 2 [] → W p l e ({ frames := 0, cells := 0, slots := 0, locals := 0 } : Room) s m _ below meth c H locs 0 0 (MQ below (qI X (M, RR)) _ s 0 0 (hA X)) (F0 m 24 ls []) := by
      intro  H locs ls hj hP hS hl
      unfold j_X5_hasMinus_24 at hj
      refine lv_iconst (v := 0) hx hb dX5_hasMinus_24 (by decide) ?_
      exact J_25 (0 : Int32) H locs ls hj hP hS (lv_sub hl [] rfl)
    have J_20 : ∀ (H : Heap) (locs : List Loc) (ls : Array Slot), j_X5_hasMinus_20 g  = some RR → hp X M H → va_S (hA X) s.heap H locs → lv_has ls 2 [] → W p l e ({ frames := 0, cells := 0, slots := 0, locals := 0 } : Room) s m _ below meth c H locs 0 0 (MQ below (qI X (M, RR)) _ s 0 0 (hA X)) (F0 m 20 ls []) := by
      intro  H locs ls hj hP hS hl
      unfold j_X5_hasMinus_20 at hj
      refine lv_iconst (v := 1) hx hb dX5_hasMinus_20 (by decide) ?_
      refine lv_goto (tgt := 25) hx hb dX5_hasMinus_21 (by decide) ?_
      exact J_25 (1 : Int32) H locs ls hj hP hS (lv_sub hl [] rfl)
    intro H locs hP hS
    refine lv_dload_n hx hb dX5_hasMinus_0 rfl (lv_at hl 0 rfl) ?_
    refine lv_dconst0 hx hb dX5_hasMinus_1 ?_
    refine lv_dcmp hx hb dX5_hasMinus_2 ?_
    refine lv_if_lt (tgt := 20) hx hb dX5_hasMinus_3 (by decide) (fun c2 => ?_) (fun c2 => ?_)
    · have hj := if_t c2 hj
      exact J_20  H locs ls hj hP hS (lv_sub hl [] rfl)
    · have hj := if_f c2 hj
      refine lv_dload_n hx hb dX5_hasMinus_6 rfl (lv_at hl 0 rfl) ?_
      refine lv_dconst0 hx hb dX5_hasMinus_7 ?_
      refine lv_dcmp hx hb dX5_hasMinus_8 ?_
      refine lv_if_ne (tgt := 24) hx hb dX5_hasMinus_9 (by decide) (fun c3 => ?_) (fun c3 => ?_)
      · have hj := if_f c3 hj
        exact J_24  H locs ls hj hP hS (lv_sub hl [] rfl)
      · have hj := if_t c3 hj
        refine lv_dconst1 hx hb dX5_hasMinus_12 ?_
        refine lv_dload_n hx hb dX5_hasMinus_13 rfl (lv_at hl 0 rfl) ?_
        obtain ⟨v4, g_v4, hj⟩ := Option.bind_eq_some_iff.mp hj
        obtain ⟨n_v4, e_v4⟩ := n64_eq g_v4
        refine lv_ddiv hx hb dX5_hasMinus_14 n_v4 ?_
        rw [← e_v4]
        refine lv_dconst0 hx hb dX5_hasMinus_15 ?_
        refine lv_dcmp hx hb dX5_hasMinus_16 ?_
        refine lv_if_ge (tgt := 24) hx hb dX5_hasMinus_17 (by decide) (fun c5 => ?_) (fun c5 => ?_)
        · have hj := if_t c5 hj
          exact J_24  H locs ls hj hP hS (lv_sub hl [] rfl)
        · have hj := if_f c5 hj
          exact J_20  H locs ls hj hP hS (lv_sub hl [] rfl)
  exact hgo _ _ hP hS
set_option maxHeartbeats 4000000 in
set_option maxRecDepth 100000 in
theorem c_X2_comesBefore (l : Launch) (X : hX) (g : Nat) (M : hm) (a0 : UInt64) (a2 : UInt64) (RR : Int32) (hj : j_X2_comesBefore g a0 a2 = some RR) : Ct l X yX2_comesBefore cX2_comesBefore 4 (some .boolean) { frames := 1, cells := 0, slots := 0, locals := 21 } [.double a0, .double a2] M (qI X (M, RR)) := by
  refine h_enter (own := RX2) (by decide) rfl (Nat.le_of_ble_eq_true rfl) ?_
  intro p e s m below meth c ls cx hr hlocks hnm hP hS hl
  have hx := cx.1
  have hb := cx.2.1
  have hl : lv_has ls 4 [(0, .double a0), (2, .double a2)] := hl
  unfold j_X2_comesBefore at hj
  have hgo : ∀ (H : Heap) (locs : List Loc), hp X M H → va_S (hA X) s.heap H locs → W p l e ({ frames := 1, cells := 0, slots := 0, locals := 21 } : Room) s m _ below meth c H locs 0 0 (MQ below (qI X (M, RR)) _ s 0 0 (hA X)) (F0 m 0 ls []) := by
    have J_31 : ∀ (s0 : Int32) (H : Heap) (locs : List Loc) (ls : Array Slot), j_X2_comesBefore_31 g s0 = some RR → hp X M H → va_S (hA X) s.heap H locs → lv_has ls 4 [] → W p l e ({ frames := 1, cells := 0, slots := 0, locals := 21 } : Room) s m _ below meth c H locs 0 0 (MQ below (qI X (M, RR)) _ s 0 0 (hA X)) (F0 m 31 ls [.int s0]) := by
      intro s0 H locs ls hj hP hS hl
      unfold j_X2_comesBefore_31 at hj
      obtain ⟨z1, g_z1, hj⟩ := Option.bind_eq_some_iff.mp hj
      exact t_Z cx hr hlocks hP hS (zb_eq g_z1).1 (congrArg (Prod.mk M) (Option.some.inj hj)) (Nat.le_of_ble_eq_true rfl) (Nat.le_of_ble_eq_true rfl) dX2_comesBefore_31
    have J_30 : ∀ (H : Heap) (locs : List Loc) (ls : Array Slot), j_X2_comesBefore_30 g  = some RR → hp X M H → va_S (hA X) s.heap H locs → lv_has ls 4 [] → W p l e ({ frames := 1, cells := 0, slots := 0, locals := 21 } : Room) s m _ below meth c H locs 0 0 (MQ below (qI X (M, RR)) _ s 0 0 (hA X)) (F0 m 30 ls []) := by
      intro  H locs ls hj hP hS hl
      unfold j_X2_comesBefore_30 at hj
      refine lv_iconst (v := 0) hx hb dX2_comesBefore_30 (by decide) ?_
      exact J_31 (0 : Int32) H locs ls hj hP hS (lv_sub hl [] rfl)
    have J_26 : ∀ (H : Heap) (locs : List Loc) (ls : Array Slot), j_X2_comesBefore_26 g  = some RR → hp X M H → va_S (hA X) s.heap H locs → lv_has ls 4 [] → W p l e ({ frames := 1, cells := 0, slots := 0, locals := 21 } : Room) s m _ below meth c H locs 0 0 (MQ below (qI X (M, RR)) _ s 0 0 (hA X)) (F0 m 26 ls []) := by
      intro  H locs ls hj hP hS hl
      unfold j_X2_comesBefore_26 at hj
      refine lv_iconst (v := 1) hx hb dX2_comesBefore_26 (by decide) ?_
      refine lv_goto (tgt := 31) hx hb dX2_comesBefore_27 (by decide) ?_
      exact J_31 (1 : Int32) H locs ls hj hP hS (lv_sub hl [] rfl)
    intro H locs hP hS
    refine lv_dload_n hx hb dX2_comesBefore_0 rfl (lv_at hl 0 rfl) ?_
    refine lv_dload_n hx hb dX2_comesBefore_1 rfl (lv_at hl 1 rfl) ?_
    refine lv_dcmp hx hb dX2_comesBefore_2 ?_
    refine lv_if_lt (tgt := 26) hx hb dX2_comesBefore_3 (by decide) (fun c2 => ?_) (fun c2 => ?_)
    · have hj := if_t c2 hj
      exact J_26  H locs ls hj hP hS (lv_sub hl [] rfl)
    · have hj := if_f c2 hj
      refine lv_dload_n hx hb dX2_comesBefore_6 rfl (lv_at hl 0 rfl) ?_
      refine lv_dload_n hx hb dX2_comesBefore_7 rfl (lv_at hl 1 rfl) ?_
      refine lv_dcmp hx hb dX2_comesBefore_8 ?_
      refine lv_if_ne (tgt := 30) hx hb dX2_comesBefore_9 (by decide) (fun c3 => ?_) (fun c3 => ?_)
      · have hj := if_f c3 hj
        exact J_30  H locs ls hj hP hS (lv_sub hl [] rfl)
      · have hj := if_t c3 hj
        refine lv_dload_n hx hb dX2_comesBefore_12 rfl (lv_at hl 0 rfl) ?_
        obtain ⟨v4, g_v4, hj⟩ := Option.bind_eq_some_iff.mp hj
        refine f_I (k_N (As := [.double a0]) (n := 1) (rest := []) cx hl.1 hP hS (c_X5_hasMinus l X g M a0 v4 g_v4) mC_X5_hasMinus cx.2.2.2.2.2.1.2.1.1 mT_X5_hasMinus mZ_X5 (by decide +kernel) ⟨Nat.le_of_ble_eq_true rfl, Nat.le_of_ble_eq_true rfl⟩ rfl rfl (Nat.le_of_ble_eq_true rfl) dX2_comesBefore_13 ⟨Nat.le_of_ble_eq_true rfl, Nat.le_of_ble_eq_true rfl⟩) hS (fun H locs hP hS => ?_)
        have hP : hp X M H := hP
        refine W.eq (g2 := F0 m 16 ls [.int v4]) rfl ?_
        refine W.widen (k := 0) (n := 0) (Nat.le_of_ble_eq_true rfl) (Nat.le_of_ble_eq_true rfl) ?_
        refine lv_if_eq (tgt := 30) hx hb dX2_comesBefore_16 (by decide) (fun c5 => ?_) (fun c5 => ?_)
        · have hj := if_t c5 hj
          exact J_30  H locs ls hj hP hS (lv_sub hl [] rfl)
        · have hj := if_f c5 hj
          refine lv_dload_n hx hb dX2_comesBefore_19 rfl (lv_at hl 1 rfl) ?_
          obtain ⟨v6, g_v6, hj⟩ := Option.bind_eq_some_iff.mp hj
          refine f_I (k_N (As := [.double a2]) (n := 1) (rest := []) cx hl.1 hP hS (c_X5_hasMinus l X g M a2 v6 g_v6) mC_X5_hasMinus cx.2.2.2.2.2.1.2.1.1 mT_X5_hasMinus mZ_X5 (by decide +kernel) ⟨Nat.le_of_ble_eq_true rfl, Nat.le_of_ble_eq_true rfl⟩ rfl rfl (Nat.le_of_ble_eq_true rfl) dX2_comesBefore_20 ⟨Nat.le_of_ble_eq_true rfl, Nat.le_of_ble_eq_true rfl⟩) hS (fun H locs hP hS => ?_)
          have hP : hp X M H := hP
          refine W.eq (g2 := F0 m 23 ls [.int v6]) rfl ?_
          refine W.widen (k := 0) (n := 0) (Nat.le_of_ble_eq_true rfl) (Nat.le_of_ble_eq_true rfl) ?_
          refine lv_if_ne (tgt := 30) hx hb dX2_comesBefore_23 (by decide) (fun c7 => ?_) (fun c7 => ?_)
          · have hj := if_f c7 hj
            exact J_30  H locs ls hj hP hS (lv_sub hl [] rfl)
          · have hj := if_t c7 hj
            exact J_26  H locs ls hj hP hS (lv_sub hl [] rfl)
  exact hgo _ _ hP hS
set_option maxHeartbeats 4000000 in
set_option maxRecDepth 100000 in
theorem c_X3_blankAt (l : Launch) (X : hX) (g : Nat) (M : hm) (a0 : Nat) (a1 : Int32) (RR : Int32) (hj : j_X3_blankAt g M a0 a1 = some RR) : Ct l X yX3_blankAt cX3_blankAt 2 (some .boolean) { frames := 0, cells := 0, slots := 0, locals := 0 } [.ref a0, .int a1] M (qI X (M, RR)) := by
  refine h_enter (own := RX3) (by decide) rfl (Nat.le_of_ble_eq_true rfl) ?_
  intro p e s m below meth c ls cx hr hlocks hnm hP hS hl
  have hx := cx.1
  have hb := cx.2.1
  have hl : lv_has ls 2 [(0, .ref a0), (1, .int a1)] := hl
  unfold j_X3_blankAt at hj
  have hgo : ∀ (H : Heap) (locs : List Loc), hp X M H → va_S (hA X) s.heap H locs → W p l e ({ frames := 0, cells := 0, slots := 0, locals := 0 } : Room) s m _ below meth c H locs 0 0 (MQ below (qI X (M, RR)) _ s 0 0 (hA X)) (F0 m 0 ls []) := by
    have J_17 : ∀ (s0 : Int32) (H : Heap) (locs : List Loc) (ls : Array Slot), j_X3_blankAt_17 g M s0 = some RR → hp X M H → va_S (hA X) s.heap H locs → lv_has ls 2 [] → W p l e ({ frames := 0, cells := 0, slots := 0, locals := 0 } : Room) s m _ below meth c H locs 0 0 (MQ below (qI X (M, RR)) _ s 0 0 (hA X)) (F0 m 17 ls [.int s0]) := by
      intro s0 H locs ls hj hP hS hl
      unfold j_X3_blankAt_17 at hj
      obtain ⟨z1, g_z1, hj⟩ := Option.bind_eq_some_iff.mp hj
      exact t_Z cx hr hlocks hP hS (zb_eq g_z1).1 (congrArg (Prod.mk M) (Option.some.inj hj)) (Nat.le_of_ble_eq_true rfl) (Nat.le_of_ble_eq_true rfl) dX3_blankAt_17
    intro H locs hP hS
    refine lv_aload_n hx hb dX3_blankAt_0 rfl (lv_at hl 0 rfl) ?_
    obtain ⟨v2, g_v2, hj⟩ := Option.bind_eq_some_iff.mp hj
    refine r_getI cx hP g_v2 iX3 rfl (by decide) mF_X3_16 dX3_blankAt_1 ?_
    refine lv_iload_n hx hb dX3_blankAt_4 rfl (lv_at hl 1 rfl) ?_
    refine lv_ishr hx hb dX3_blankAt_5 ?_
    refine lv_iconst (v := 1) hx hb dX3_blankAt_6 (by decide) ?_
    refine lv_iand hx hb dX3_blankAt_7 ?_
    refine lv_iconst (v := 1) hx hb dX3_blankAt_8 (by decide) ?_
    refine lv_icmp_ne (tgt := 16) hx hb dX3_blankAt_9 (by decide) (fun c3 => ?_) (fun c3 => ?_)
    · have hj := if_f c3 hj
      refine lv_iconst (v := 0) hx hb dX3_blankAt_16 (by decide) ?_
      exact J_17 (0 : Int32) H locs ls hj hP hS (lv_sub hl [] rfl)
    · have hj := if_t c3 hj
      refine lv_iconst (v := 1) hx hb dX3_blankAt_12 (by decide) ?_
      refine lv_goto (tgt := 17) hx hb dX3_blankAt_13 (by decide) ?_
      exact J_17 (1 : Int32) H locs ls hj hP hS (lv_sub hl [] rfl)
  exact hgo _ _ hP hS
set_option maxHeartbeats 4000000 in
set_option maxRecDepth 100000 in
theorem c_X2_farthestAt (l : Launch) (X : hX) (g : Nat) (M : hm) (a0 : Nat) (a1 : Option Nat) (a2 : Int32) (RR : UInt64) (hj : j_X2_farthestAt g M a0 a1 a2 = some RR) : Ct l X yX2_farthestAt cX2_farthestAt 8 (some .double) { frames := 2, cells := 0, slots := 0, locals := 44 } [.ref a0, va_rf a1, .int a2] M (qD X (M, RR)) := by
  refine h_enter (own := RX2) (by decide) rfl (Nat.le_of_ble_eq_true rfl) ?_
  intro p e s m below meth c ls cx hr hlocks hnm hP hS hl
  have hx := cx.1
  have hb := cx.2.1
  have hl : lv_has ls 8 [(0, .ref a0), (1, va_rf a1), (2, .int a2)] := hl
  unfold j_X2_farthestAt at hj
  have hgo : ∀ (H : Heap) (locs : List Loc), hp X M H → va_S (hA X) s.heap H locs → W p l e ({ frames := 2, cells := 0, slots := 0, locals := 44 } : Room) s m _ below meth c H locs 0 0 (MQ below (qD X (M, RR)) _ s 0 0 (hA X)) (F0 m 0 ls []) := by
    have J_94 : ∀ (s0 : UInt64) (H : Heap) (locs : List Loc) (ls : Array Slot), j_X2_farthestAt_94 g M s0 = some RR → hp X M H → va_S (hA X) s.heap H locs → lv_has ls 8 [] → W p l e ({ frames := 2, cells := 0, slots := 0, locals := 44 } : Room) s m _ below meth c H locs 0 0 (MQ below (qD X (M, RR)) _ s 0 0 (hA X)) (F0 m 94 ls [.double s0]) := by
      intro s0 H locs ls hj hP hS hl
      unfold j_X2_farthestAt_94 at hj
      exact t_D cx hr hlocks hP hS (congrArg (Prod.mk M) (Option.some.inj hj)) (Nat.le_of_ble_eq_true rfl) (Nat.le_of_ble_eq_true rfl) dX2_farthestAt_94
    have J_81 : ∀ (p3 : UInt64) (p5 : UInt64) (s0 : Int32) (H : Heap) (locs : List Loc) (ls : Array Slot), j_X2_farthestAt_81 g M p3 p5 s0 = some RR → hp X M H → va_S (hA X) s.heap H locs → lv_has ls 8 [(3, .double p3), (5, .double p5)] → W p l e ({ frames := 2, cells := 0, slots := 0, locals := 44 } : Room) s m _ below meth c H locs 0 0 (MQ below (qD X (M, RR)) _ s 0 0 (hA X)) (F0 m 81 ls [.int s0]) := by
      intro p3 p5 s0 H locs ls hj hP hS hl
      unfold j_X2_farthestAt_81 at hj
      refine lv_istore (lv' := [(7, .int s0), (3, .double p3), (5, .double p5)]) hx hb dX2_farthestAt_81 hl (by decide) rfl (fun ls hl => ?_)
      refine lv_iload hx hb dX2_farthestAt_83 (lv_at hl 0 rfl) ?_
      refine lv_if_eq (tgt := 93) hx hb dX2_farthestAt_85 (by decide) (fun c1 => ?_) (fun c1 => ?_)
      · have hj := if_t c1 hj
        refine lv_dload_n hx hb dX2_farthestAt_93 rfl (lv_at hl 1 rfl) ?_
        exact J_94 p3 H locs ls hj hP hS (lv_sub hl [] rfl)
      · have hj := if_f c1 hj
        refine lv_dload hx hb dX2_farthestAt_88 (lv_at hl 2 rfl) ?_
        refine lv_goto (tgt := 94) hx hb dX2_farthestAt_90 (by decide) ?_
        exact J_94 p5 H locs ls hj hP hS (lv_sub hl [] rfl)
    have J_14 : ∀ (p0 : Nat) (p2 : Int32) (H : Heap) (locs : List Loc) (ls : Array Slot), j_X2_farthestAt_14 g M p0 p2 = some RR → hp X M H → va_S (hA X) s.heap H locs → lv_has ls 8 [(0, .ref p0), (2, .int p2)] → W p l e ({ frames := 2, cells := 0, slots := 0, locals := 44 } : Room) s m _ below meth c H locs 0 0 (MQ below (qD X (M, RR)) _ s 0 0 (hA X)) (F0 m 14 ls []) := by
      intro p0 p2 H locs ls hj hP hS hl
      unfold j_X2_farthestAt_14 at hj
      refine lv_aload_n hx hb dX2_farthestAt_14 rfl (lv_at hl 0 rfl) ?_
      obtain ⟨v2, g_v2, hj⟩ := Option.bind_eq_some_iff.mp hj
      refine r_getR cx hP g_v2 iX2 rfl (by decide) mF_X2_21 dX2_farthestAt_15 ?_
      obtain ⟨b3, e_b3, hj⟩ := Option.bind_eq_some_iff.mp hj
      subst e_b3
      obtain ⟨v4, g_v4, hj⟩ := Option.bind_eq_some_iff.mp hj
      refine r_getR cx hP g_v4 iX3 rfl (by decide) mF_X2_87 dX2_farthestAt_18 ?_
      refine lv_iload_n hx hb dX2_farthestAt_21 rfl (lv_at hl 1 rfl) ?_
      obtain ⟨b5, e_b5, hj⟩ := Option.bind_eq_some_iff.mp hj
      subst e_b5
      obtain ⟨v6, g_v6, hj⟩ := Option.bind_eq_some_iff.mp hj
      refine r_aldD cx hP g_v6 dX2_farthestAt_22 ?_
      exact t_D cx hr hlocks hP hS (congrArg (Prod.mk M) (Option.some.inj hj)) (Nat.le_of_ble_eq_true rfl) (Nat.le_of_ble_eq_true rfl) dX2_farthestAt_23
    intro H locs hP hS
    refine lv_iload_n hx hb dX2_farthestAt_0 rfl (lv_at hl 2 rfl) ?_
    refine lv_if_eq (tgt := 14) hx hb dX2_farthestAt_1 (by decide) (fun c7 => ?_) (fun c7 => ?_)
    · have hj := if_t c7 hj
      exact J_14 a0 a2 H locs ls hj hP hS (lv_sub hl [0, 2] rfl)
    · have hj := if_f c7 hj
      refine h_aload_n hx hb dX2_farthestAt_4 rfl (lv_at hl 1 rfl) ?_
      refine lv_iload_n hx hb dX2_farthestAt_5 rfl (lv_at hl 2 rfl) ?_
      refine lv_iconst (v := 1) hx hb dX2_farthestAt_6 (by decide) ?_
      refine lv_isub hx hb dX2_farthestAt_7 ?_
      obtain ⟨b8, e_b8, hj⟩ := Option.bind_eq_some_iff.mp hj
      subst e_b8
      obtain ⟨_, o9, hj⟩ := Option.bind_eq_some_iff.mp hj
      obtain ⟨v10, g_v10, hj⟩ := Option.bind_eq_some_iff.mp hj
      refine f_I (k_V (b := b8) (As := [.int (a2 - (1 : Int32))]) (n := 1) (rest := []) cx hl.1 hP hS (c_X3_blankAt l X g M b8 (a2 - (1 : Int32)) v10 g_v10) o9 rfl mC_X3_blankAt mM_X2_84 mI_X3_blankAt mS_X3_blankAt mZ_X3 (by decide +kernel) ⟨Nat.le_of_ble_eq_true rfl, Nat.le_of_ble_eq_true rfl⟩ rfl rfl (Nat.le_of_ble_eq_true rfl) dX2_farthestAt_8 ⟨Nat.le_of_ble_eq_true rfl, Nat.le_of_ble_eq_true rfl⟩) hS (fun H locs hP hS => ?_)
      have hP : hp X M H := hP
      refine W.eq (g2 := F0 m 11 ls [.int v10]) rfl ?_
      refine W.widen (k := 0) (n := 0) (Nat.le_of_ble_eq_true rfl) (Nat.le_of_ble_eq_true rfl) ?_
      refine lv_if_eq (tgt := 24) hx hb dX2_farthestAt_11 (by decide) (fun c11 => ?_) (fun c11 => ?_)
      · have hj := if_t c11 hj
        refine lv_aload_n hx hb dX2_farthestAt_24 rfl (lv_at hl 1 rfl) ?_
        obtain ⟨v12, g_v12, hj⟩ := Option.bind_eq_some_iff.mp hj
        refine r_getR cx hP g_v12 iX3 rfl (by decide) mF_X2_87 dX2_farthestAt_25 ?_
        refine lv_iload_n hx hb dX2_farthestAt_28 rfl (lv_at hl 2 rfl) ?_
        refine lv_iconst (v := 1) hx hb dX2_farthestAt_29 (by decide) ?_
        refine lv_isub hx hb dX2_farthestAt_30 ?_
        obtain ⟨b13, e_b13, hj⟩ := Option.bind_eq_some_iff.mp hj
        subst e_b13
        obtain ⟨v14, g_v14, hj⟩ := Option.bind_eq_some_iff.mp hj
        refine r_aldD cx hP g_v14 dX2_farthestAt_31 ?_
        refine lv_dstore_n (lv' := [(3, .double v14), (0, .ref a0), (1, .ref b8), (2, .int a2)]) hx hb dX2_farthestAt_32 rfl hl (by decide) rfl (fun ls hl => ?_)
        refine lv_aload_n hx hb dX2_farthestAt_33 rfl (lv_at hl 1 rfl) ?_
        obtain ⟨v15, g_v15, hj⟩ := Option.bind_eq_some_iff.mp hj
        refine r_getR cx hP g_v15 iX2 rfl (by decide) mF_X2_21 dX2_farthestAt_34 ?_
        refine lv_iload_n hx hb dX2_farthestAt_37 rfl (lv_at hl 3 rfl) ?_
        obtain ⟨b16, e_b16, hj⟩ := Option.bind_eq_some_iff.mp hj
        subst e_b16
        obtain ⟨_, o17, hj⟩ := Option.bind_eq_some_iff.mp hj
        obtain ⟨v18, g_v18, hj⟩ := Option.bind_eq_some_iff.mp hj
        refine f_I (k_V (b := b16) (As := [.int a2]) (n := 1) (rest := []) cx hl.1 hP hS (c_X3_blankAt l X g M b16 a2 v18 g_v18) o17 rfl mC_X3_blankAt mM_X2_84 mI_X3_blankAt mS_X3_blankAt mZ_X3 (by decide +kernel) ⟨Nat.le_of_ble_eq_true rfl, Nat.le_of_ble_eq_true rfl⟩ rfl rfl (Nat.le_of_ble_eq_true rfl) dX2_farthestAt_38 ⟨Nat.le_of_ble_eq_true rfl, Nat.le_of_ble_eq_true rfl⟩) hS (fun H locs hP hS => ?_)
        have hP : hp X M H := hP
        refine W.eq (g2 := F0 m 41 ls [.int v18]) rfl ?_
        refine W.widen (k := 0) (n := 0) (Nat.le_of_ble_eq_true rfl) (Nat.le_of_ble_eq_true rfl) ?_
        refine lv_if_eq (tgt := 46) hx hb dX2_farthestAt_41 (by decide) (fun c19 => ?_) (fun c19 => ?_)
        · have hj := if_t c19 hj
          refine lv_aload_n hx hb dX2_farthestAt_46 rfl (lv_at hl 1 rfl) ?_
          obtain ⟨v20, g_v20, hj⟩ := Option.bind_eq_some_iff.mp hj
          refine r_getR cx hP g_v20 iX2 rfl (by decide) mF_X2_21 dX2_farthestAt_47 ?_
          obtain ⟨b21, e_b21, hj⟩ := Option.bind_eq_some_iff.mp hj
          subst e_b21
          obtain ⟨v22, g_v22, hj⟩ := Option.bind_eq_some_iff.mp hj
          refine r_getR cx hP g_v22 iX3 rfl (by decide) mF_X2_87 dX2_farthestAt_50 ?_
          refine lv_iload_n hx hb dX2_farthestAt_53 rfl (lv_at hl 3 rfl) ?_
          obtain ⟨b23, e_b23, hj⟩ := Option.bind_eq_some_iff.mp hj
          subst e_b23
          obtain ⟨v24, g_v24, hj⟩ := Option.bind_eq_some_iff.mp hj
          refine r_aldD cx hP g_v24 dX2_farthestAt_54 ?_
          refine lv_dstore (lv' := [(5, .double v24), (3, .double v14), (0, .ref a0), (1, .ref b8), (2, .int a2)]) hx hb dX2_farthestAt_55 hl (by decide) rfl (fun ls hl => ?_)
          refine lv_aload_n hx hb dX2_farthestAt_57 rfl (lv_at hl 3 rfl) ?_
          obtain ⟨v25, g_v25, hj⟩ := Option.bind_eq_some_iff.mp hj
          refine r_getI cx hP g_v25 iX3 rfl (by decide) mF_X2_54 dX2_farthestAt_58 ?_
          refine lv_bipush (v := 20) hx hb dX2_farthestAt_61 (by decide) ?_
          refine lv_icmp_ne (tgt := 75) hx hb dX2_farthestAt_63 (by decide) (fun c26 => ?_) (fun c26 => ?_)
          · have hj := if_f c26 hj
            refine lv_dload hx hb dX2_farthestAt_75 (lv_at hl 0 rfl) ?_
            refine lv_dload_n hx hb dX2_farthestAt_77 rfl (lv_at hl 1 rfl) ?_
            obtain ⟨v27, g_v27, hj⟩ := Option.bind_eq_some_iff.mp hj
            refine f_I (k_S (As := [.double v24, .double v14]) (n := 2) (rest := []) cx hl.1 hP hS (c_X2_comesBefore l X g M v24 v14 v27 g_v27) mC_X2_comesBefore mM_X2_157 mT_X2_comesBefore mZ_X2 (by decide +kernel) ⟨Nat.le_of_ble_eq_true rfl, Nat.le_of_ble_eq_true rfl⟩ rfl rfl (Nat.le_of_ble_eq_true rfl) dX2_farthestAt_78 ⟨Nat.le_of_ble_eq_true rfl, Nat.le_of_ble_eq_true rfl⟩) hS (fun H locs hP hS => ?_)
            have hP : hp X M H := hP
            refine W.eq (g2 := F0 m 81 ls [.int v27]) rfl ?_
            refine W.widen (k := 0) (n := 0) (Nat.le_of_ble_eq_true rfl) (Nat.le_of_ble_eq_true rfl) ?_
            exact J_81 v14 v24 v27 H locs ls hj hP hS (lv_sub hl [1, 0] rfl)
          · have hj := if_t c26 hj
            refine lv_dload_n hx hb dX2_farthestAt_66 rfl (lv_at hl 1 rfl) ?_
            refine lv_dload hx hb dX2_farthestAt_67 (lv_at hl 0 rfl) ?_
            obtain ⟨v28, g_v28, hj⟩ := Option.bind_eq_some_iff.mp hj
            refine f_I (k_S (As := [.double v14, .double v24]) (n := 2) (rest := []) cx hl.1 hP hS (c_X2_comesBefore l X g M v14 v24 v28 g_v28) mC_X2_comesBefore mM_X2_157 mT_X2_comesBefore mZ_X2 (by decide +kernel) ⟨Nat.le_of_ble_eq_true rfl, Nat.le_of_ble_eq_true rfl⟩ rfl rfl (Nat.le_of_ble_eq_true rfl) dX2_farthestAt_69 ⟨Nat.le_of_ble_eq_true rfl, Nat.le_of_ble_eq_true rfl⟩) hS (fun H locs hP hS => ?_)
            have hP : hp X M H := hP
            refine W.eq (g2 := F0 m 72 ls [.int v28]) rfl ?_
            refine W.widen (k := 0) (n := 0) (Nat.le_of_ble_eq_true rfl) (Nat.le_of_ble_eq_true rfl) ?_
            refine lv_goto (tgt := 81) hx hb dX2_farthestAt_72 (by decide) ?_
            exact J_81 v14 v24 v28 H locs ls hj hP hS (lv_sub hl [1, 0] rfl)
        · have hj := if_f c19 hj
          refine lv_dload_n hx hb dX2_farthestAt_44 rfl (lv_at hl 0 rfl) ?_
          exact t_D cx hr hlocks hP hS (congrArg (Prod.mk M) (Option.some.inj hj)) (Nat.le_of_ble_eq_true rfl) (Nat.le_of_ble_eq_true rfl) dX2_farthestAt_45
      · have hj := if_f c11 hj
        exact J_14 a0 a2 H locs ls hj hP hS (lv_sub hl [0, 2] rfl)
  exact hgo _ _ hP hS
set_option maxHeartbeats 4000000 in
set_option maxRecDepth 100000 in
theorem c_X2_isSurelyWhole (l : Launch) (X : hX) (g : Nat) (M : hm) (a0 : UInt64) (RR : Int32) (hj : j_X2_isSurelyWhole g a0 = some RR) : Ct l X yX2_isSurelyWhole cX2_isSurelyWhole 2 (some .boolean) { frames := 0, cells := 0, slots := 0, locals := 0 } [.double a0] M (qI X (M, RR)) := by
  refine h_enter (own := RX2) (by decide) rfl (Nat.le_of_ble_eq_true rfl) ?_
  intro p e s m below meth c ls cx hr hlocks hnm hP hS hl
  have hx := cx.1
  have hb := cx.2.1
  have hl : lv_has ls 2 [(0, .double a0)] := hl
  unfold j_X2_isSurelyWhole at hj
  have hgo : ∀ (H : Heap) (locs : List Loc), hp X M H → va_S (hA X) s.heap H locs → W p l e ({ frames := 0, cells := 0, slots := 0, locals := 0 } : Room) s m _ below meth c H locs 0 0 (MQ below (qI X (M, RR)) _ s 0 0 (hA X)) (F0 m 0 ls []) := by
    have J_27 : ∀ (s0 : Int32) (H : Heap) (locs : List Loc) (ls : Array Slot), j_X2_isSurelyWhole_27 g s0 = some RR → hp X M H → va_S (hA X) s.heap H locs → lv_has ls 2 [] → W p l e ({ frames := 0, cells := 0, slots := 0, locals := 0 } : Room) s m _ below meth c H locs 0 0 (MQ below (qI X (M, RR)) _ s 0 0 (hA X)) (F0 m 27 ls [.int s0]) := by
      intro s0 H locs ls hj hP hS hl
      unfold j_X2_isSurelyWhole_27 at hj
      obtain ⟨z1, g_z1, hj⟩ := Option.bind_eq_some_iff.mp hj
      exact t_Z cx hr hlocks hP hS (zb_eq g_z1).1 (congrArg (Prod.mk M) (Option.some.inj hj)) (Nat.le_of_ble_eq_true rfl) (Nat.le_of_ble_eq_true rfl) dX2_isSurelyWhole_27
    have J_22 : ∀ (H : Heap) (locs : List Loc) (ls : Array Slot), j_X2_isSurelyWhole_22 g  = some RR → hp X M H → va_S (hA X) s.heap H locs → lv_has ls 2 [] → W p l e ({ frames := 0, cells := 0, slots := 0, locals := 0 } : Room) s m _ below meth c H locs 0 0 (MQ below (qI X (M, RR)) _ s 0 0 (hA X)) (F0 m 22 ls []) := by
      intro  H locs ls hj hP hS hl
      unfold j_X2_isSurelyWhole_22 at hj
      refine lv_iconst (v := 1) hx hb dX2_isSurelyWhole_22 (by decide) ?_
      refine lv_goto (tgt := 27) hx hb dX2_isSurelyWhole_23 (by decide) ?_
      exact J_27 (1 : Int32) H locs ls hj hP hS (lv_sub hl [] rfl)
    intro H locs hP hS
    refine lv_dload_n hx hb dX2_isSurelyWhole_0 rfl (lv_at hl 0 rfl) ?_
    refine lv_ldc2d hx hb cx.2.2.2.1 (cx.2.2.2.2.1 _ mK_X2_161) dX2_isSurelyWhole_1 ?_
    refine lv_dcmp hx hb dX2_isSurelyWhole_4 ?_
    refine lv_if_ge (tgt := 22) hx hb dX2_isSurelyWhole_5 (by decide) (fun c2 => ?_) (fun c2 => ?_)
    · have hj := if_t c2 hj
      exact J_22  H locs ls hj hP hS (lv_sub hl [] rfl)
    · have hj := if_f c2 hj
      refine lv_dload_n hx hb dX2_isSurelyWhole_8 rfl (lv_at hl 0 rfl) ?_
      refine lv_ldc2d hx hb cx.2.2.2.1 (cx.2.2.2.2.1 _ mK_X2_163) dX2_isSurelyWhole_9 ?_
      refine lv_dcmp hx hb dX2_isSurelyWhole_12 ?_
      refine lv_if_le (tgt := 22) hx hb dX2_isSurelyWhole_13 (by decide) (fun c3 => ?_) (fun c3 => ?_)
      · have hj := if_t c3 hj
        exact J_22  H locs ls hj hP hS (lv_sub hl [] rfl)
      · have hj := if_f c3 hj
        refine lv_dload_n hx hb dX2_isSurelyWhole_16 rfl (lv_at hl 0 rfl) ?_
        refine lv_dconst0 hx hb dX2_isSurelyWhole_17 ?_
        refine lv_dcmp hx hb dX2_isSurelyWhole_18 ?_
        refine lv_if_ne (tgt := 26) hx hb dX2_isSurelyWhole_19 (by decide) (fun c4 => ?_) (fun c4 => ?_)
        · have hj := if_f c4 hj
          refine lv_iconst (v := 0) hx hb dX2_isSurelyWhole_26 (by decide) ?_
          exact J_27 (0 : Int32) H locs ls hj hP hS (lv_sub hl [] rfl)
        · have hj := if_t c4 hj
          exact J_22  H locs ls hj hP hS (lv_sub hl [] rfl)
  exact hgo _ _ hP hS
set_option maxHeartbeats 4000000 in
set_option maxRecDepth 100000 in
theorem c_X2_floor (l : Launch) (X : hX) (g : Nat) (M : hm) (a0 : UInt64) (RR : UInt64) (hj : j_X2_floor g a0 = some RR) : Ct l X yX2_floor cX2_floor 4 (some .double) { frames := 1, cells := 0, slots := 0, locals := 21 } [.double a0] M (qD X (M, RR)) := by
  refine h_enter (own := RX2) (by decide) rfl (Nat.le_of_ble_eq_true rfl) ?_
  intro p e s m below meth c ls cx hr hlocks hnm hP hS hl
  have hx := cx.1
  have hb := cx.2.1
  have hl : lv_has ls 4 [(0, .double a0)] := hl
  unfold j_X2_floor at hj
  have hgo : ∀ (H : Heap) (locs : List Loc), hp X M H → va_S (hA X) s.heap H locs → W p l e ({ frames := 1, cells := 0, slots := 0, locals := 21 } : Room) s m _ below meth c H locs 0 0 (MQ below (qD X (M, RR)) _ s 0 0 (hA X)) (F0 m 0 ls []) := by
    have J_26 : ∀ (s0 : UInt64) (H : Heap) (locs : List Loc) (ls : Array Slot), j_X2_floor_26 g s0 = some RR → hp X M H → va_S (hA X) s.heap H locs → lv_has ls 4 [] → W p l e ({ frames := 1, cells := 0, slots := 0, locals := 21 } : Room) s m _ below meth c H locs 0 0 (MQ below (qD X (M, RR)) _ s 0 0 (hA X)) (F0 m 26 ls [.double s0]) := by
      intro s0 H locs ls hj hP hS hl
      unfold j_X2_floor_26 at hj
      exact t_D cx hr hlocks hP hS (congrArg (Prod.mk M) (Option.some.inj hj)) (Nat.le_of_ble_eq_true rfl) (Nat.le_of_ble_eq_true rfl) dX2_floor_26
    intro H locs hP hS
    refine lv_dload_n hx hb dX2_floor_0 rfl (lv_at hl 0 rfl) ?_
    obtain ⟨v1, g_v1, hj⟩ := Option.bind_eq_some_iff.mp hj
    refine f_I (k_S (As := [.double a0]) (n := 1) (rest := []) cx hl.1 hP hS (c_X2_isSurelyWhole l X g M a0 v1 g_v1) mC_X2_isSurelyWhole mM_X2_165 mT_X2_isSurelyWhole mZ_X2 (by decide +kernel) ⟨Nat.le_of_ble_eq_true rfl, Nat.le_of_ble_eq_true rfl⟩ rfl rfl (Nat.le_of_ble_eq_true rfl) dX2_floor_1 ⟨Nat.le_of_ble_eq_true rfl, Nat.le_of_ble_eq_true rfl⟩) hS (fun H locs hP hS => ?_)
    have hP : hp X M H := hP
    refine W.eq (g2 := F0 m 4 ls [.int v1]) rfl ?_
    refine W.widen (k := 0) (n := 0) (Nat.le_of_ble_eq_true rfl) (Nat.le_of_ble_eq_true rfl) ?_
    refine lv_if_eq (tgt := 9) hx hb dX2_floor_4 (by decide) (fun c2 => ?_) (fun c2 => ?_)
    · have hj := if_t c2 hj
      refine lv_dload_n hx hb dX2_floor_9 rfl (lv_at hl 0 rfl) ?_
      refine lv_d2l hx hb dX2_floor_10 ?_
      refine lv_l2d hx hb dX2_floor_11 ?_
      refine lv_dstore_n (lv' := [(2, .double (FP.l2d (FP.d2l a0))), (0, .double a0)]) hx hb dX2_floor_12 rfl hl (by decide) rfl (fun ls hl => ?_)
      refine lv_dload_n hx hb dX2_floor_13 rfl (lv_at hl 0 rfl) ?_
      refine lv_dload_n hx hb dX2_floor_14 rfl (lv_at hl 1 rfl) ?_
      refine lv_dcmp hx hb dX2_floor_15 ?_
      refine lv_if_le (tgt := 25) hx hb dX2_floor_16 (by decide) (fun c3 => ?_) (fun c3 => ?_)
      · have hj := if_t c3 hj
        refine lv_dload_n hx hb dX2_floor_25 rfl (lv_at hl 0 rfl) ?_
        exact J_26 (FP.l2d (FP.d2l a0)) H locs ls hj hP hS (lv_sub hl [] rfl)
      · have hj := if_f c3 hj
        refine lv_dload_n hx hb dX2_floor_19 rfl (lv_at hl 0 rfl) ?_
        refine lv_dconst1 hx hb dX2_floor_20 ?_
        obtain ⟨v4, g_v4, hj⟩ := Option.bind_eq_some_iff.mp hj
        obtain ⟨n_v4, e_v4⟩ := n64_eq g_v4
        refine lv_dsub hx hb dX2_floor_21 n_v4 ?_
        rw [← e_v4]
        refine lv_goto (tgt := 26) hx hb dX2_floor_22 (by decide) ?_
        exact J_26 v4 H locs ls hj hP hS (lv_sub hl [] rfl)
    · have hj := if_f c2 hj
      refine lv_dload_n hx hb dX2_floor_7 rfl (lv_at hl 0 rfl) ?_
      exact t_D cx hr hlocks hP hS (congrArg (Prod.mk M) (Option.some.inj hj)) (Nat.le_of_ble_eq_true rfl) (Nat.le_of_ble_eq_true rfl) dX2_floor_8
  exact hgo _ _ hP hS
set_option maxHeartbeats 4000000 in
set_option maxRecDepth 100000 in
theorem c_X2_hasBothNeighbours (l : Launch) (X : hX) (g : Nat) (M : hm) (a0 : Nat) (a1 : Int32) (RR : Int32) (hj : j_X2_hasBothNeighbours g M a0 a1 = some RR) : Ct l X yX2_hasBothNeighbours cX2_hasBothNeighbours 2 (some .boolean) { frames := 1, cells := 0, slots := 0, locals := 21 } [.ref a0, .int a1] M (qI X (M, RR)) := by
  refine h_enter (own := RX2) (by decide) rfl (Nat.le_of_ble_eq_true rfl) ?_
  intro p e s m below meth c ls cx hr hlocks hnm hP hS hl
  have hx := cx.1
  have hb := cx.2.1
  have hl : lv_has ls 2 [(0, .ref a0), (1, .int a1)] := hl
  unfold j_X2_hasBothNeighbours at hj
  have hgo : ∀ (H : Heap) (locs : List Loc), hp X M H → va_S (hA X) s.heap H locs → W p l e ({ frames := 1, cells := 0, slots := 0, locals := 21 } : Room) s m _ below meth c H locs 0 0 (MQ below (qI X (M, RR)) _ s 0 0 (hA X)) (F0 m 0 ls []) := by
    have J_52 : ∀ (s0 : Int32) (H : Heap) (locs : List Loc) (ls : Array Slot), j_X2_hasBothNeighbours_52 g M s0 = some RR → hp X M H → va_S (hA X) s.heap H locs → lv_has ls 2 [] → W p l e ({ frames := 1, cells := 0, slots := 0, locals := 21 } : Room) s m _ below meth c H locs 0 0 (MQ below (qI X (M, RR)) _ s 0 0 (hA X)) (F0 m 52 ls [.int s0]) := by
      intro s0 H locs ls hj hP hS hl
      unfold j_X2_hasBothNeighbours_52 at hj
      obtain ⟨z1, g_z1, hj⟩ := Option.bind_eq_some_iff.mp hj
      exact t_Z cx hr hlocks hP hS (zb_eq g_z1).1 (congrArg (Prod.mk M) (Option.some.inj hj)) (Nat.le_of_ble_eq_true rfl) (Nat.le_of_ble_eq_true rfl) dX2_hasBothNeighbours_52
    have J_51 : ∀ (H : Heap) (locs : List Loc) (ls : Array Slot), j_X2_hasBothNeighbours_51 g M  = some RR → hp X M H → va_S (hA X) s.heap H locs → lv_has ls 2 [] → W p l e ({ frames := 1, cells := 0, slots := 0, locals := 21 } : Room) s m _ below meth c H locs 0 0 (MQ below (qI X (M, RR)) _ s 0 0 (hA X)) (F0 m 51 ls []) := by
      intro  H locs ls hj hP hS hl
      unfold j_X2_hasBothNeighbours_51 at hj
      refine lv_iconst (v := 0) hx hb dX2_hasBothNeighbours_51 (by decide) ?_
      exact J_52 (0 : Int32) H locs ls hj hP hS (lv_sub hl [] rfl)
    intro H locs hP hS
    refine lv_iload_n hx hb dX2_hasBothNeighbours_0 rfl (lv_at hl 1 rfl) ?_
    refine lv_if_le (tgt := 51) hx hb dX2_hasBothNeighbours_1 (by decide) (fun c2 => ?_) (fun c2 => ?_)
    · have hj := if_t c2 hj
      exact J_51  H locs ls hj hP hS (lv_sub hl [] rfl)
    · have hj := if_f c2 hj
      refine lv_iload_n hx hb dX2_hasBothNeighbours_4 rfl (lv_at hl 1 rfl) ?_
      refine lv_bipush (v := 15) hx hb dX2_hasBothNeighbours_5 (by decide) ?_
      refine lv_icmp_ge (tgt := 51) hx hb dX2_hasBothNeighbours_7 (by decide) (fun c3 => ?_) (fun c3 => ?_)
      · have hj := if_t c3 hj
        exact J_51  H locs ls hj hP hS (lv_sub hl [] rfl)
      · have hj := if_f c3 hj
        refine lv_aload_n hx hb dX2_hasBothNeighbours_10 rfl (lv_at hl 0 rfl) ?_
        obtain ⟨v4, g_v4, hj⟩ := Option.bind_eq_some_iff.mp hj
        refine r_getR cx hP g_v4 iX2 rfl (by decide) mF_X2_21 dX2_hasBothNeighbours_11 ?_
        refine lv_iload_n hx hb dX2_hasBothNeighbours_14 rfl (lv_at hl 1 rfl) ?_
        refine lv_iconst (v := 1) hx hb dX2_hasBothNeighbours_15 (by decide) ?_
        refine lv_isub hx hb dX2_hasBothNeighbours_16 ?_
        obtain ⟨b5, e_b5, hj⟩ := Option.bind_eq_some_iff.mp hj
        subst e_b5
        obtain ⟨_, o6, hj⟩ := Option.bind_eq_some_iff.mp hj
        obtain ⟨v7, g_v7, hj⟩ := Option.bind_eq_some_iff.mp hj
        refine f_I (k_V (b := b5) (As := [.int (a1 - (1 : Int32))]) (n := 1) (rest := []) cx hl.1 hP hS (c_X3_blankAt l X g M b5 (a1 - (1 : Int32)) v7 g_v7) o6 rfl mC_X3_blankAt mM_X2_84 mI_X3_blankAt mS_X3_blankAt mZ_X3 (by decide +kernel) ⟨Nat.le_of_ble_eq_true rfl, Nat.le_of_ble_eq_true rfl⟩ rfl rfl (Nat.le_of_ble_eq_true rfl) dX2_hasBothNeighbours_17 ⟨Nat.le_of_ble_eq_true rfl, Nat.le_of_ble_eq_true rfl⟩) hS (fun H locs hP hS => ?_)
        have hP : hp X M H := hP
        refine W.eq (g2 := F0 m 20 ls [.int v7]) rfl ?_
        refine W.widen (k := 0) (n := 0) (Nat.le_of_ble_eq_true rfl) (Nat.le_of_ble_eq_true rfl) ?_
        refine lv_if_ne (tgt := 51) hx hb dX2_hasBothNeighbours_20 (by decide) (fun c8 => ?_) (fun c8 => ?_)
        · have hj := if_f c8 hj
          exact J_51  H locs ls hj hP hS (lv_sub hl [] rfl)
        · have hj := if_t c8 hj
          refine lv_aload_n hx hb dX2_hasBothNeighbours_23 rfl (lv_at hl 0 rfl) ?_
          obtain ⟨v9, g_v9, hj⟩ := Option.bind_eq_some_iff.mp hj
          refine r_getR cx hP g_v9 iX2 rfl (by decide) mF_X2_21 dX2_hasBothNeighbours_24 ?_
          refine lv_iload_n hx hb dX2_hasBothNeighbours_27 rfl (lv_at hl 1 rfl) ?_
          obtain ⟨b10, e_b10, hj⟩ := Option.bind_eq_some_iff.mp hj
          subst e_b10
          obtain ⟨_, o11, hj⟩ := Option.bind_eq_some_iff.mp hj
          obtain ⟨v12, g_v12, hj⟩ := Option.bind_eq_some_iff.mp hj
          refine f_I (k_V (b := b10) (As := [.int a1]) (n := 1) (rest := []) cx hl.1 hP hS (c_X3_blankAt l X g M b10 a1 v12 g_v12) o11 rfl mC_X3_blankAt mM_X2_84 mI_X3_blankAt mS_X3_blankAt mZ_X3 (by decide +kernel) ⟨Nat.le_of_ble_eq_true rfl, Nat.le_of_ble_eq_true rfl⟩ rfl rfl (Nat.le_of_ble_eq_true rfl) dX2_hasBothNeighbours_28 ⟨Nat.le_of_ble_eq_true rfl, Nat.le_of_ble_eq_true rfl⟩) hS (fun H locs hP hS => ?_)
          have hP : hp X M H := hP
          refine W.eq (g2 := F0 m 31 ls [.int v12]) rfl ?_
          refine W.widen (k := 0) (n := 0) (Nat.le_of_ble_eq_true rfl) (Nat.le_of_ble_eq_true rfl) ?_
          refine lv_if_ne (tgt := 51) hx hb dX2_hasBothNeighbours_31 (by decide) (fun c13 => ?_) (fun c13 => ?_)
          · have hj := if_f c13 hj
            exact J_51  H locs ls hj hP hS (lv_sub hl [] rfl)
          · have hj := if_t c13 hj
            refine lv_aload_n hx hb dX2_hasBothNeighbours_34 rfl (lv_at hl 0 rfl) ?_
            obtain ⟨v14, g_v14, hj⟩ := Option.bind_eq_some_iff.mp hj
            refine r_getR cx hP g_v14 iX2 rfl (by decide) mF_X2_21 dX2_hasBothNeighbours_35 ?_
            refine lv_iload_n hx hb dX2_hasBothNeighbours_38 rfl (lv_at hl 1 rfl) ?_
            refine lv_iconst (v := 1) hx hb dX2_hasBothNeighbours_39 (by decide) ?_
            refine lv_iadd hx hb dX2_hasBothNeighbours_40 ?_
            obtain ⟨b15, e_b15, hj⟩ := Option.bind_eq_some_iff.mp hj
            subst e_b15
            obtain ⟨_, o16, hj⟩ := Option.bind_eq_some_iff.mp hj
            obtain ⟨v17, g_v17, hj⟩ := Option.bind_eq_some_iff.mp hj
            refine f_I (k_V (b := b15) (As := [.int (a1 + (1 : Int32))]) (n := 1) (rest := []) cx hl.1 hP hS (c_X3_blankAt l X g M b15 (a1 + (1 : Int32)) v17 g_v17) o16 rfl mC_X3_blankAt mM_X2_84 mI_X3_blankAt mS_X3_blankAt mZ_X3 (by decide +kernel) ⟨Nat.le_of_ble_eq_true rfl, Nat.le_of_ble_eq_true rfl⟩ rfl rfl (Nat.le_of_ble_eq_true rfl) dX2_hasBothNeighbours_41 ⟨Nat.le_of_ble_eq_true rfl, Nat.le_of_ble_eq_true rfl⟩) hS (fun H locs hP hS => ?_)
            have hP : hp X M H := hP
            refine W.eq (g2 := F0 m 44 ls [.int v17]) rfl ?_
            refine W.widen (k := 0) (n := 0) (Nat.le_of_ble_eq_true rfl) (Nat.le_of_ble_eq_true rfl) ?_
            refine lv_if_ne (tgt := 51) hx hb dX2_hasBothNeighbours_44 (by decide) (fun c18 => ?_) (fun c18 => ?_)
            · have hj := if_f c18 hj
              exact J_51  H locs ls hj hP hS (lv_sub hl [] rfl)
            · have hj := if_t c18 hj
              refine lv_iconst (v := 1) hx hb dX2_hasBothNeighbours_47 (by decide) ?_
              refine lv_goto (tgt := 52) hx hb dX2_hasBothNeighbours_48 (by decide) ?_
              exact J_52 (1 : Int32) H locs ls hj hP hS (lv_sub hl [] rfl)
  exact hgo _ _ hP hS
set_option maxHeartbeats 4000000 in
set_option maxRecDepth 100000 in
theorem c_X5_isInfinite (l : Launch) (X : hX) (g : Nat) (M : hm) (a0 : UInt64) (RR : Int32) (hj : j_X5_isInfinite g a0 = some RR) : Ct l X yX5_isInfinite cX5_isInfinite 2 (some .boolean) { frames := 0, cells := 0, slots := 0, locals := 0 } [.double a0] M (qI X (M, RR)) := by
  refine h_enter (own := RX5) (by decide) rfl (Nat.le_of_ble_eq_true rfl) ?_
  intro p e s m below meth c ls cx hr hlocks hnm hP hS hl
  have hx := cx.1
  have hb := cx.2.1
  have hl : lv_has ls 2 [(0, .double a0)] := hl
  unfold j_X5_isInfinite at hj
  have hgo : ∀ (H : Heap) (locs : List Loc), hp X M H → va_S (hA X) s.heap H locs → W p l e ({ frames := 0, cells := 0, slots := 0, locals := 0 } : Room) s m _ below meth c H locs 0 0 (MQ below (qI X (M, RR)) _ s 0 0 (hA X)) (F0 m 0 ls []) := by
    have J_21 : ∀ (s0 : Int32) (H : Heap) (locs : List Loc) (ls : Array Slot), j_X5_isInfinite_21 g s0 = some RR → hp X M H → va_S (hA X) s.heap H locs → lv_has ls 2 [] → W p l e ({ frames := 0, cells := 0, slots := 0, locals := 0 } : Room) s m _ below meth c H locs 0 0 (MQ below (qI X (M, RR)) _ s 0 0 (hA X)) (F0 m 21 ls [.int s0]) := by
      intro s0 H locs ls hj hP hS hl
      unfold j_X5_isInfinite_21 at hj
      obtain ⟨z1, g_z1, hj⟩ := Option.bind_eq_some_iff.mp hj
      exact t_Z cx hr hlocks hP hS (zb_eq g_z1).1 (congrArg (Prod.mk M) (Option.some.inj hj)) (Nat.le_of_ble_eq_true rfl) (Nat.le_of_ble_eq_true rfl) dX5_isInfinite_21
    have J_16 : ∀ (H : Heap) (locs : List Loc) (ls : Array Slot), j_X5_isInfinite_16 g  = some RR → hp X M H → va_S (hA X) s.heap H locs → lv_has ls 2 [] → W p l e ({ frames := 0, cells := 0, slots := 0, locals := 0 } : Room) s m _ below meth c H locs 0 0 (MQ below (qI X (M, RR)) _ s 0 0 (hA X)) (F0 m 16 ls []) := by
      intro  H locs ls hj hP hS hl
      unfold j_X5_isInfinite_16 at hj
      refine lv_iconst (v := 1) hx hb dX5_isInfinite_16 (by decide) ?_
      refine lv_goto (tgt := 21) hx hb dX5_isInfinite_17 (by decide) ?_
      exact J_21 (1 : Int32) H locs ls hj hP hS (lv_sub hl [] rfl)
    intro H locs hP hS
    refine lv_dload_n hx hb dX5_isInfinite_0 rfl (lv_at hl 0 rfl) ?_
    refine lv_ldc2d hx hb cx.2.2.2.1 (cx.2.2.2.2.1 _ mK_X5_198) dX5_isInfinite_1 ?_
    refine lv_dcmp hx hb dX5_isInfinite_4 ?_
    refine lv_if_gt (tgt := 16) hx hb dX5_isInfinite_5 (by decide) (fun c2 => ?_) (fun c2 => ?_)
    · have hj := if_t c2 hj
      exact J_16  H locs ls hj hP hS (lv_sub hl [] rfl)
    · have hj := if_f c2 hj
      refine lv_dload_n hx hb dX5_isInfinite_8 rfl (lv_at hl 0 rfl) ?_
      refine lv_ldc2d hx hb cx.2.2.2.1 (cx.2.2.2.2.1 _ mK_X5_223) dX5_isInfinite_9 ?_
      refine lv_dcmp hx hb dX5_isInfinite_12 ?_
      refine lv_if_ge (tgt := 20) hx hb dX5_isInfinite_13 (by decide) (fun c3 => ?_) (fun c3 => ?_)
      · have hj := if_t c3 hj
        refine lv_iconst (v := 0) hx hb dX5_isInfinite_20 (by decide) ?_
        exact J_21 (0 : Int32) H locs ls hj hP hS (lv_sub hl [] rfl)
      · have hj := if_f c3 hj
        exact J_16  H locs ls hj hP hS (lv_sub hl [] rfl)
  exact hgo _ _ hP hS
