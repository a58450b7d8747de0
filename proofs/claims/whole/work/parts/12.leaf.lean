def f_hb (bits k : Int32) : Int32 := if ¬ (bits >>> (k &&& 31)) &&& 1 = 0 then 1 else 0
theorem f_hb01 (bits k : Int32) : f_hb bits k = 0 ∨ f_hb bits k = 1 := xm_b01
set_option maxHeartbeats 4000000 in
set_option maxRecDepth 100000 in
theorem c_hb (ω : xm_O) (bits k : Int32) : xm_M y_Rb_hasBit (Cond.code y_Rb_hasBit b_Rb_hasBit 2 (some .boolean)) (xm_rm 0 0 0) [.int bits, .int k] ω (xm_eq (.inl (some (.int (f_hb bits k)))) ω) := by
  refine xm_of (by decide) (Nat.le_of_ble_eq_true rfl) (fun E C0 => ?_)
  refine xs_eq (lv' := [(0, .int bits), (1, .int k)]) rfl rfl rfl ?_
  refine xs_iload_n C0 d_Rb_hasBit_0 rfl 0 rfl ?_
  refine xs_iload_n C0 d_Rb_hasBit_1 rfl 1 rfl ?_
  refine xs_ishr C0 d_Rb_hasBit_2 ?_
  refine xs_iconst (v := 1) C0 d_Rb_hasBit_3 (by decide) ?_
  refine xs_iand C0 d_Rb_hasBit_4 ?_
  refine xs_bz_eq (u := 1) (v := 0) (tgt := 12) (J := 13) C0 d_Rb_hasBit_5 (by decide) d_Rb_hasBit_8 (by decide) d_Rb_hasBit_9 (by decide) d_Rb_hasBit_12 (by decide) rfl ?_
  exact xs_zret C0 d_Rb_hasBit_13 xm_b01 (⟨rfl, rfl⟩) (Nat.le_of_ble_eq_true rfl) (Nat.le_of_ble_eq_true rfl)
def f_wb (bits k b : Int32) : Int32 := if b = 0 then bits &&& (((1 : Int32) <<< (k &&& 31)) ^^^ (-1)) else bits ||| ((1 : Int32) <<< (k &&& 31))
set_option maxHeartbeats 4000000 in
set_option maxRecDepth 100000 in
theorem c_wb (ω : xm_O) (bits k b : Int32) : xm_M y_Sd_withBit (Cond.code y_Sd_withBit b_Sd_withBit 3 (some .int)) (xm_rm 0 0 0) [.int bits, .int k, .int b] ω (xm_eq (.inl (some (.int (f_wb bits k b)))) ω) := by
  refine xm_of (by decide) (Nat.le_of_ble_eq_true rfl) (fun E C0 => ?_)
  refine xs_eq (lv' := [(0, .int bits), (1, .int k), (2, .int b)]) rfl rfl rfl ?_
  refine xs_iload_n C0 d_Sd_withBit_0 rfl 2 rfl ?_
  refine xs_if_eq (tgt := 12) C0 d_Sd_withBit_1 (by decide) (fun c1 => ?_) (fun c1 => ?_)
  · refine xs_iload_n C0 d_Sd_withBit_12 rfl 0 rfl ?_
    refine xs_iconst (v := 1) C0 d_Sd_withBit_13 (by decide) ?_
    refine xs_iload_n C0 d_Sd_withBit_14 rfl 1 rfl ?_
    refine xs_ishl C0 d_Sd_withBit_15 ?_
    refine xs_iconst (v := (-1)) C0 d_Sd_withBit_16 (by decide) ?_
    refine xs_ixor C0 d_Sd_withBit_17 ?_
    refine xs_iand C0 d_Sd_withBit_18 ?_
    exact xs_iret C0 d_Sd_withBit_19 (⟨by simp only [f_wb, c1, ↓reduceIte], rfl⟩) (Nat.le_of_ble_eq_true rfl) (Nat.le_of_ble_eq_true rfl)
  · refine xs_iload_n C0 d_Sd_withBit_4 rfl 0 rfl ?_
    refine xs_iconst (v := 1) C0 d_Sd_withBit_5 (by decide) ?_
    refine xs_iload_n C0 d_Sd_withBit_6 rfl 1 rfl ?_
    refine xs_ishl C0 d_Sd_withBit_7 ?_
    refine xs_ior C0 d_Sd_withBit_8 ?_
    refine xs_goto (tgt := 19) C0 d_Sd_withBit_9 (by decide) ?_
    exact xs_iret C0 d_Sd_withBit_19 (⟨by simp only [f_wb, c1, ↓reduceIte], rfl⟩) (Nat.le_of_ble_eq_true rfl) (Nat.le_of_ble_eq_true rfl)
def gw (x a b : Int32) : Prop := ¬ x < a ∧ x ≤ b
set_option maxHeartbeats 4000000 in
set_option maxRecDepth 100000 in
theorem c_nw (ω : xm_O) (x a b : Int32) (h : gw x a b) : xm_M y_Rb_needWithin (Cond.code y_Rb_needWithin b_Rb_needWithin 3 none) (xm_rm 0 0 0) [.int x, .int a, .int b] ω (xm_eq (.inl none) ω) := by
  refine xm_of (by decide) (Nat.le_of_ble_eq_true rfl) (fun E C0 => ?_)
  refine xs_eq (lv' := [(0, .int x), (1, .int a), (2, .int b)]) rfl rfl rfl ?_
  refine xs_iload_n C0 d_Rb_needWithin_0 rfl 0 rfl ?_
  refine xs_iload_n C0 d_Rb_needWithin_1 rfl 1 rfl ?_
  refine xs_icmp_lt (tgt := 10) C0 d_Rb_needWithin_2 (by decide) (fun c9 => absurd c9 h.1) (fun _ => ?_)
  refine xs_iload_n C0 d_Rb_needWithin_5 rfl 0 rfl ?_
  refine xs_iload_n C0 d_Rb_needWithin_6 rfl 2 rfl ?_
  refine xs_icmp_le (tgt := 20) C0 d_Rb_needWithin_7 (by decide) (fun _ => ?_) (fun c9 => absurd h.2 c9)
  exact xs_vret C0 d_Rb_needWithin_20 (⟨rfl, rfl⟩) (Nat.le_of_ble_eq_true rfl) (Nat.le_of_ble_eq_true rfl)
set_option maxHeartbeats 4000000 in
set_option maxRecDepth 100000 in
theorem c_nwT (ω : xm_O) (x a b : Int32) (h : ¬ gw x a b) : xm_M y_Rb_needWithin (Cond.code y_Rb_needWithin b_Rb_needWithin 3 none) (xm_rm 6 1 6) [.int x, .int a, .int b] ω (xm_eq (.inr "java/lang/IllegalArgumentException") ω) := by
  refine xm_of (by decide) (Nat.le_of_ble_eq_true rfl) (fun E C0 => ?_)
  refine xs_eq (lv' := [(0, .int x), (1, .int a), (2, .int b)]) rfl rfl rfl ?_
  refine xs_iload_n C0 d_Rb_needWithin_0 rfl 0 rfl ?_
  refine xs_iload_n C0 d_Rb_needWithin_1 rfl 1 rfl ?_
  refine xs_icmp_lt (tgt := 10) C0 d_Rb_needWithin_2 (by decide) (fun c1 => ?_) (fun c1 => ?_)
  · exact xs_throw (cls := "java/lang/IllegalArgumentException") (names := xm_up) C0 k_333 k_334 k_12 k_374 ta_IAE (by decide +kernel) (by decide +kernel) d_Rb_needWithin_10 d_Rb_needWithin_13 d_Rb_needWithin_14 d_Rb_needWithin_16 d_Rb_needWithin_19 (Nat.le_of_ble_eq_true rfl) (Nat.le_of_ble_eq_true rfl) (Nat.le_of_ble_eq_true rfl) (Nat.le_of_ble_eq_true rfl) ⟨rfl, rfl⟩
  · refine xs_iload_n C0 d_Rb_needWithin_5 rfl 0 rfl ?_
    refine xs_iload_n C0 d_Rb_needWithin_6 rfl 2 rfl ?_
    refine xs_icmp_le (tgt := 20) C0 d_Rb_needWithin_7 (by decide) (fun c9 => absurd ⟨c1, c9⟩ h) (fun _ => ?_)
    exact xs_throw (cls := "java/lang/IllegalArgumentException") (names := xm_up) C0 k_333 k_334 k_12 k_374 ta_IAE (by decide +kernel) (by decide +kernel) d_Rb_needWithin_10 d_Rb_needWithin_13 d_Rb_needWithin_14 d_Rb_needWithin_16 d_Rb_needWithin_19 (Nat.le_of_ble_eq_true rfl) (Nat.le_of_ble_eq_true rfl) (Nat.le_of_ble_eq_true rfl) (Nat.le_of_ble_eq_true rfl) ⟨rfl, rfl⟩
set_option maxHeartbeats 4000000 in
set_option maxRecDepth 100000 in
theorem c_nn (ω : xm_O) (x : Int32) (h : gw x 0 47) : xm_M y_Rb_needNode (Cond.code y_Rb_needNode b_Rb_needNode 1 none) (xm_rm 1 0 0) [.int x] ω (xm_eq (.inl none) ω) := by
  refine xm_of (by decide) (Nat.le_of_ble_eq_true rfl) (fun E C0 => ?_)
  refine xs_eq (lv' := [(0, .int x)]) rfl rfl rfl ?_
  refine xs_iload_n C0 d_Rb_needNode_0 rfl 0 rfl ?_
  refine xs_iconst (v := 0) C0 d_Rb_needNode_1 (by decide) ?_
  refine xs_bipush (v := 47) C0 d_Rb_needNode_2 (by decide) ?_
  refine xs_cS0 (ω' := ω) (av := [.int x, .int 0, .int 47]) (st := []) (kc' := 0) (ks' := 0) C0 d_Rb_needNode_4 l_Rb_70 (c_nw _ x 0 47 h) rfl rfl rfl (Nat.le_of_ble_eq_true rfl) (Nat.le_of_ble_eq_true rfl) (Nat.le_of_ble_eq_true rfl) (Nat.le_of_ble_eq_true rfl) (Nat.le_of_ble_eq_true rfl) (Nat.le_of_ble_eq_true rfl) ?_
  exact xs_vret C0 d_Rb_needNode_7 (⟨rfl, rfl⟩) (Nat.le_of_ble_eq_true rfl) (Nat.le_of_ble_eq_true rfl)
set_option maxHeartbeats 4000000 in
set_option maxRecDepth 100000 in
theorem c_nnT (ω : xm_O) (x : Int32) (h : ¬ gw x 0 47) : xm_M y_Rb_needNode (Cond.code y_Rb_needNode b_Rb_needNode 1 none) (xm_rm 7 1 6) [.int x] ω (xm_eq (.inr "java/lang/IllegalArgumentException") ω) := by
  refine xm_of (by decide) (Nat.le_of_ble_eq_true rfl) (fun E C0 => ?_)
  refine xs_eq (lv' := [(0, .int x)]) rfl rfl rfl ?_
  refine xs_iload_n C0 d_Rb_needNode_0 rfl 0 rfl ?_
  refine xs_iconst (v := 0) C0 d_Rb_needNode_1 (by decide) ?_
  refine xs_bipush (v := 47) C0 d_Rb_needNode_2 (by decide) ?_
  exact xs_cST (av := [.int x, .int 0, .int 47]) (st := []) C0 d_Rb_needNode_4 l_Rb_70 (c_nwT _ x 0 47 h) rfl rfl rfl (Nat.le_of_ble_eq_true rfl) (Nat.le_of_ble_eq_true rfl) (Nat.le_of_ble_eq_true rfl) (Nat.le_of_ble_eq_true rfl) (xt_leave C0 ⟨rfl, rfl⟩ (Nat.le_of_ble_eq_true rfl) (Nat.le_of_ble_eq_true rfl))
set_option maxHeartbeats 4000000 in
set_option maxRecDepth 100000 in
theorem c_nt (ω : xm_O) (x : Int32) (h : gw x 1 9) : xm_M y_Rb_needTime (Cond.code y_Rb_needTime b_Rb_needTime 1 none) (xm_rm 1 0 0) [.int x] ω (xm_eq (.inl none) ω) := by
  refine xm_of (by decide) (Nat.le_of_ble_eq_true rfl) (fun E C0 => ?_)
  refine xs_eq (lv' := [(0, .int x)]) rfl rfl rfl ?_
  refine xs_iload_n C0 d_Rb_needTime_0 rfl 0 rfl ?_
  refine xs_iconst (v := 1) C0 d_Rb_needTime_1 (by decide) ?_
  refine xs_bipush (v := 9) C0 d_Rb_needTime_2 (by decide) ?_
  refine xs_cS0 (ω' := ω) (av := [.int x, .int 1, .int 9]) (st := []) (kc' := 0) (ks' := 0) C0 d_Rb_needTime_4 l_Rb_70 (c_nw _ x 1 9 h) rfl rfl rfl (Nat.le_of_ble_eq_true rfl) (Nat.le_of_ble_eq_true rfl) (Nat.le_of_ble_eq_true rfl) (Nat.le_of_ble_eq_true rfl) (Nat.le_of_ble_eq_true rfl) (Nat.le_of_ble_eq_true rfl) ?_
  exact xs_vret C0 d_Rb_needTime_7 (⟨rfl, rfl⟩) (Nat.le_of_ble_eq_true rfl) (Nat.le_of_ble_eq_true rfl)
set_option maxHeartbeats 4000000 in
set_option maxRecDepth 100000 in
theorem c_ntT (ω : xm_O) (x : Int32) (h : ¬ gw x 1 9) : xm_M y_Rb_needTime (Cond.code y_Rb_needTime b_Rb_needTime 1 none) (xm_rm 7 1 6) [.int x] ω (xm_eq (.inr "java/lang/IllegalArgumentException") ω) := by
  refine xm_of (by decide) (Nat.le_of_ble_eq_true rfl) (fun E C0 => ?_)
  refine xs_eq (lv' := [(0, .int x)]) rfl rfl rfl ?_
  refine xs_iload_n C0 d_Rb_needTime_0 rfl 0 rfl ?_
  refine xs_iconst (v := 1) C0 d_Rb_needTime_1 (by decide) ?_
  refine xs_bipush (v := 9) C0 d_Rb_needTime_2 (by decide) ?_
  exact xs_cST (av := [.int x, .int 1, .int 9]) (st := []) C0 d_Rb_needTime_4 l_Rb_70 (c_nwT _ x 1 9 h) rfl rfl rfl (Nat.le_of_ble_eq_true rfl) (Nat.le_of_ble_eq_true rfl) (Nat.le_of_ble_eq_true rfl) (Nat.le_of_ble_eq_true rfl) (xt_leave C0 ⟨rfl, rfl⟩ (Nat.le_of_ble_eq_true rfl) (Nat.le_of_ble_eq_true rfl))
def g2 (a b : Int32) : Prop := gw a 0 47 ∧ gw b 0 47 ∧ ¬ a = b
set_option maxHeartbeats 4000000 in
set_option maxRecDepth 100000 in
theorem c_n2 (ω : xm_O) (a b : Int32) (h : g2 a b) : xm_M y_Rb_needTwoNodes (Cond.code y_Rb_needTwoNodes b_Rb_needTwoNodes 2 none) (xm_rm 2 0 0) [.int a, .int b] ω (xm_eq (.inl none) ω) := by
  refine xm_of (by decide) (Nat.le_of_ble_eq_true rfl) (fun E C0 => ?_)
  refine xs_eq (lv' := [(0, .int a), (1, .int b)]) rfl rfl rfl ?_
  refine xs_iload_n C0 d_Rb_needTwoNodes_0 rfl 0 rfl ?_
  refine xs_cS0 (ω' := ω) (av := [.int a]) (st := []) (kc' := 0) (ks' := 0) C0 d_Rb_needTwoNodes_1 l_Rb_170 (c_nn _ a h.1) rfl rfl rfl (Nat.le_of_ble_eq_true rfl) (Nat.le_of_ble_eq_true rfl) (Nat.le_of_ble_eq_true rfl) (Nat.le_of_ble_eq_true rfl) (Nat.le_of_ble_eq_true rfl) (Nat.le_of_ble_eq_true rfl) ?_
  refine xs_iload_n C0 d_Rb_needTwoNodes_4 rfl 1 rfl ?_
  refine xs_cS0 (ω' := ω) (av := [.int b]) (st := []) (kc' := 0) (ks' := 0) C0 d_Rb_needTwoNodes_5 l_Rb_170 (c_nn _ b h.2.1) rfl rfl rfl (Nat.le_of_ble_eq_true rfl) (Nat.le_of_ble_eq_true rfl) (Nat.le_of_ble_eq_true rfl) (Nat.le_of_ble_eq_true rfl) (Nat.le_of_ble_eq_true rfl) (Nat.le_of_ble_eq_true rfl) ?_
  refine xs_iload_n C0 d_Rb_needTwoNodes_8 rfl 0 rfl ?_
  refine xs_iload_n C0 d_Rb_needTwoNodes_9 rfl 1 rfl ?_
  refine xs_icmp_ne (tgt := 23) C0 d_Rb_needTwoNodes_10 (by decide) (fun _ => ?_) (fun c9 => absurd c9 h.2.2)
  exact xs_vret C0 d_Rb_needTwoNodes_23 (⟨rfl, rfl⟩) (Nat.le_of_ble_eq_true rfl) (Nat.le_of_ble_eq_true rfl)
set_option maxHeartbeats 4000000 in
set_option maxRecDepth 100000 in
theorem c_n2T (ω : xm_O) (a b : Int32) (h : ¬ g2 a b) : xm_M y_Rb_needTwoNodes (Cond.code y_Rb_needTwoNodes b_Rb_needTwoNodes 2 none) (xm_rm 8 1 6) [.int a, .int b] ω (xm_eq (.inr "java/lang/IllegalArgumentException") ω) := by
  refine xm_of (by decide) (Nat.le_of_ble_eq_true rfl) (fun E C0 => ?_)
  refine xs_eq (lv' := [(0, .int a), (1, .int b)]) rfl rfl rfl ?_
  by_cases ha : gw a 0 47
  · by_cases hb : gw b 0 47
    · refine xs_iload_n C0 d_Rb_needTwoNodes_0 rfl 0 rfl ?_
      refine xs_cS0 (ω' := ω) (av := [.int a]) (st := []) (kc' := 0) (ks' := 0) C0 d_Rb_needTwoNodes_1 l_Rb_170 (c_nn _ a ha) rfl rfl rfl (Nat.le_of_ble_eq_true rfl) (Nat.le_of_ble_eq_true rfl) (Nat.le_of_ble_eq_true rfl) (Nat.le_of_ble_eq_true rfl) (Nat.le_of_ble_eq_true rfl) (Nat.le_of_ble_eq_true rfl) ?_
      refine xs_iload_n C0 d_Rb_needTwoNodes_4 rfl 1 rfl ?_
      refine xs_cS0 (ω' := ω) (av := [.int b]) (st := []) (kc' := 0) (ks' := 0) C0 d_Rb_needTwoNodes_5 l_Rb_170 (c_nn _ b hb) rfl rfl rfl (Nat.le_of_ble_eq_true rfl) (Nat.le_of_ble_eq_true rfl) (Nat.le_of_ble_eq_true rfl) (Nat.le_of_ble_eq_true rfl) (Nat.le_of_ble_eq_true rfl) (Nat.le_of_ble_eq_true rfl) ?_
      refine xs_iload_n C0 d_Rb_needTwoNodes_8 rfl 0 rfl ?_
      refine xs_iload_n C0 d_Rb_needTwoNodes_9 rfl 1 rfl ?_
      refine xs_icmp_ne (tgt := 23) C0 d_Rb_needTwoNodes_10 (by decide) (fun c9 => absurd ⟨ha, hb, c9⟩ h) (fun _ => ?_)
      exact xs_throw (cls := "java/lang/IllegalArgumentException") (names := xm_up) C0 k_333 k_334 k_12 k_401 ta_IAE (by decide +kernel) (by decide +kernel) d_Rb_needTwoNodes_13 d_Rb_needTwoNodes_16 d_Rb_needTwoNodes_17 d_Rb_needTwoNodes_19 d_Rb_needTwoNodes_22 (Nat.le_of_ble_eq_true rfl) (Nat.le_of_ble_eq_true rfl) (Nat.le_of_ble_eq_true rfl) (Nat.le_of_ble_eq_true rfl) ⟨rfl, rfl⟩
    · refine xs_iload_n C0 d_Rb_needTwoNodes_0 rfl 0 rfl ?_
      refine xs_cS0 (ω' := ω) (av := [.int a]) (st := []) (kc' := 0) (ks' := 0) C0 d_Rb_needTwoNodes_1 l_Rb_170 (c_nn _ a ha) rfl rfl rfl (Nat.le_of_ble_eq_true rfl) (Nat.le_of_ble_eq_true rfl) (Nat.le_of_ble_eq_true rfl) (Nat.le_of_ble_eq_true rfl) (Nat.le_of_ble_eq_true rfl) (Nat.le_of_ble_eq_true rfl) ?_
      refine xs_iload_n C0 d_Rb_needTwoNodes_4 rfl 1 rfl ?_
      exact xs_cST (av := [.int b]) (st := []) C0 d_Rb_needTwoNodes_5 l_Rb_170 (c_nnT _ b hb) rfl rfl rfl (Nat.le_of_ble_eq_true rfl) (Nat.le_of_ble_eq_true rfl) (Nat.le_of_ble_eq_true rfl) (Nat.le_of_ble_eq_true rfl) (xt_leave C0 ⟨rfl, rfl⟩ (Nat.le_of_ble_eq_true rfl) (Nat.le_of_ble_eq_true rfl))
  · refine xs_iload_n C0 d_Rb_needTwoNodes_0 rfl 0 rfl ?_
    exact xs_cST (av := [.int a]) (st := []) C0 d_Rb_needTwoNodes_1 l_Rb_170 (c_nnT _ a ha) rfl rfl rfl (Nat.le_of_ble_eq_true rfl) (Nat.le_of_ble_eq_true rfl) (Nat.le_of_ble_eq_true rfl) (Nat.le_of_ble_eq_true rfl) (xt_leave C0 ⟨rfl, rfl⟩ (Nat.le_of_ble_eq_true rfl) (Nat.le_of_ble_eq_true rfl))
def f_us (i k : Int32) : Int32 := (i.toUInt32 >>> (k.toUInt32 &&& Int32.toUInt32 31)).toInt32
def f_z4 (n i : Int32) : Int32 := n + f_us i 1
def f_z3 (n i : Int32) : Int32 := if i ≤ 4 then f_z4 n i else f_z4 (n + 2) (f_us i 2)
def f_z2 (n i : Int32) : Int32 := if i ≤ 16 then f_z3 n i else f_z3 (n + 4) (f_us i 4)
def f_z1 (n i : Int32) : Int32 := if i ≤ 256 then f_z2 n i else f_z2 (n + 8) (f_us i 8)
def f_z0 (n i : Int32) : Int32 := if i ≤ 65536 then f_z1 n i else f_z1 (n + 16) (f_us i 16)
def f_itz (m : Int32) : Int32 := if m > 0 then f_z0 1 m else m &&& 32
set_option maxHeartbeats 4000000 in
set_option maxRecDepth 100000 in
theorem c_itz (ω : xm_O) (x : Int32) : xm_M y_In_numberOfTrailingZeros (Cond.code y_In_numberOfTrailingZeros b_In_numberOfTrailingZeros 2 (some .int)) (xm_rm 0 0 0) [.int x] ω (xm_eq (.inl (some (.int (f_itz ((x ^^^ (-1)) &&& (x - 1)))))) ω) := by
  refine xm_of (by decide) (Nat.le_of_ble_eq_true rfl) (fun E C0 => ?_)
  refine xs_eq (lv' := [(0, .int x)]) rfl rfl rfl ?_
  refine xs_iload_n C0 d_In_numberOfTrailingZeros_0 rfl 0 rfl ?_
  refine xs_iconst (v := (-1)) C0 d_In_numberOfTrailingZeros_1 (by decide) ?_
  refine xs_ixor C0 d_In_numberOfTrailingZeros_2 ?_
  refine xs_iload_n C0 d_In_numberOfTrailingZeros_3 rfl 0 rfl ?_
  refine xs_iconst (v := 1) C0 d_In_numberOfTrailingZeros_4 (by decide) ?_
  refine xs_isub C0 d_In_numberOfTrailingZeros_5 ?_
  refine xs_iand C0 d_In_numberOfTrailingZeros_6 ?_
  refine xs_istore_n (lv' := [(0, .int ((x ^^^ (-1)) &&& (x - 1)))]) C0 d_In_numberOfTrailingZeros_7 rfl (by decide) rfl ?_
  refine xs_iload_n C0 d_In_numberOfTrailingZeros_8 rfl 0 rfl ?_
  refine xs_if_gt (tgt := 17) C0 d_In_numberOfTrailingZeros_9 (by decide) (fun c_1 => ?_) (fun c_1 => ?_)
  · refine xs_iconst (v := 1) C0 d_In_numberOfTrailingZeros_17 (by decide) ?_
    refine xs_istore_n (lv' := [(1, .int 1), (0, .int ((x ^^^ (-1)) &&& (x - 1)))]) C0 d_In_numberOfTrailingZeros_18 rfl (by decide) rfl ?_
    refine xs_iload_n C0 d_In_numberOfTrailingZeros_19 rfl 1 rfl ?_
    refine xs_ldcw (v := 65536) C0 d_In_numberOfTrailingZeros_20 k_280 ?_
    refine xs_icmp_le (tgt := 34) C0 d_In_numberOfTrailingZeros_23 (by decide) (fun c_2 => ?_) (fun c_2 => ?_)
    · refine xs_iload_n C0 d_In_numberOfTrailingZeros_34 rfl 1 rfl ?_
      refine xs_sipush (v := 256) C0 d_In_numberOfTrailingZeros_35 (by decide) ?_
      refine xs_icmp_le (tgt := 49) C0 d_In_numberOfTrailingZeros_38 (by decide) (fun c_3 => ?_) (fun c_3 => ?_)
      · refine xs_iload_n C0 d_In_numberOfTrailingZeros_49 rfl 1 rfl ?_
        refine xs_bipush (v := 16) C0 d_In_numberOfTrailingZeros_50 (by decide) ?_
        refine xs_icmp_le (tgt := 62) C0 d_In_numberOfTrailingZeros_52 (by decide) (fun c_4 => ?_) (fun c_4 => ?_)
        · refine xs_iload_n C0 d_In_numberOfTrailingZeros_62 rfl 1 rfl ?_
          refine xs_iconst (v := 4) C0 d_In_numberOfTrailingZeros_63 (by decide) ?_
          refine xs_icmp_le (tgt := 74) C0 d_In_numberOfTrailingZeros_64 (by decide) (fun c_5 => ?_) (fun c_5 => ?_)
          · refine xs_iload_n C0 d_In_numberOfTrailingZeros_74 rfl 0 rfl ?_
            refine xs_iload_n C0 d_In_numberOfTrailingZeros_75 rfl 1 rfl ?_
            refine xs_iconst (v := 1) C0 d_In_numberOfTrailingZeros_76 (by decide) ?_
            refine xs_iushr C0 d_In_numberOfTrailingZeros_77 ?_
            refine xs_iadd C0 d_In_numberOfTrailingZeros_78 ?_
            exact xs_iret C0 d_In_numberOfTrailingZeros_79 (⟨by simp only [f_itz, f_z0, f_z1, f_z2, f_z3, f_z4, f_us, c_1, c_2, c_3, c_4, c_5, ↓reduceIte], rfl⟩) (Nat.le_of_ble_eq_true rfl) (Nat.le_of_ble_eq_true rfl)
          · refine xs_iinc (v := 1 + 2) (lv' := [(1, .int (1 + 2)), (0, .int ((x ^^^ (-1)) &&& (x - 1)))]) C0 d_In_numberOfTrailingZeros_67 0 rfl rfl (by decide) rfl ?_
            refine xs_iload_n C0 d_In_numberOfTrailingZeros_70 rfl 1 rfl ?_
            refine xs_iconst (v := 2) C0 d_In_numberOfTrailingZeros_71 (by decide) ?_
            refine xs_iushr C0 d_In_numberOfTrailingZeros_72 ?_
            refine xs_istore_n (lv' := [(0, .int (((x ^^^ (-1)) &&& (x - 1)).toUInt32 >>> ((2 : Int32).toUInt32 &&& Int32.toUInt32 31)).toInt32), (1, .int (1 + 2))]) C0 d_In_numberOfTrailingZeros_73 rfl (by decide) rfl ?_
            refine xs_iload_n C0 d_In_numberOfTrailingZeros_74 rfl 1 rfl ?_
            refine xs_iload_n C0 d_In_numberOfTrailingZeros_75 rfl 0 rfl ?_
            refine xs_iconst (v := 1) C0 d_In_numberOfTrailingZeros_76 (by decide) ?_
            refine xs_iushr C0 d_In_numberOfTrailingZeros_77 ?_
            refine xs_iadd C0 d_In_numberOfTrailingZeros_78 ?_
            exact xs_iret C0 d_In_numberOfTrailingZeros_79 (⟨by simp only [f_itz, f_z0, f_z1, f_z2, f_z3, f_z4, f_us, c_1, c_2, c_3, c_4, c_5, ↓reduceIte], rfl⟩) (Nat.le_of_ble_eq_true rfl) (Nat.le_of_ble_eq_true rfl)
        · refine xs_iinc (v := 1 + 4) (lv' := [(1, .int (1 + 4)), (0, .int ((x ^^^ (-1)) &&& (x - 1)))]) C0 d_In_numberOfTrailingZeros_55 0 rfl rfl (by decide) rfl ?_
          refine xs_iload_n C0 d_In_numberOfTrailingZeros_58 rfl 1 rfl ?_
          refine xs_iconst (v := 4) C0 d_In_numberOfTrailingZeros_59 (by decide) ?_
          refine xs_iushr C0 d_In_numberOfTrailingZeros_60 ?_
          refine xs_istore_n (lv' := [(0, .int (((x ^^^ (-1)) &&& (x - 1)).toUInt32 >>> ((4 : Int32).toUInt32 &&& Int32.toUInt32 31)).toInt32), (1, .int (1 + 4))]) C0 d_In_numberOfTrailingZeros_61 rfl (by decide) rfl ?_
          refine xs_iload_n C0 d_In_numberOfTrailingZeros_62 rfl 0 rfl ?_
          refine xs_iconst (v := 4) C0 d_In_numberOfTrailingZeros_63 (by decide) ?_
          refine xs_icmp_le (tgt := 74) C0 d_In_numberOfTrailingZeros_64 (by decide) (fun c_6 => ?_) (fun c_6 => ?_)
          · refine xs_iload_n C0 d_In_numberOfTrailingZeros_74 rfl 1 rfl ?_
            refine xs_iload_n C0 d_In_numberOfTrailingZeros_75 rfl 0 rfl ?_
            refine xs_iconst (v := 1) C0 d_In_numberOfTrailingZeros_76 (by decide) ?_
            refine xs_iushr C0 d_In_numberOfTrailingZeros_77 ?_
            refine xs_iadd C0 d_In_numberOfTrailingZeros_78 ?_
            exact xs_iret C0 d_In_numberOfTrailingZeros_79 (⟨by simp only [f_itz, f_z0, f_z1, f_z2, f_z3, f_z4, f_us, c_1, c_2, c_3, c_4, c_6, ↓reduceIte], rfl⟩) (Nat.le_of_ble_eq_true rfl) (Nat.le_of_ble_eq_true rfl)
          · refine xs_iinc (v := (1 + 4) + 2) (lv' := [(1, .int ((1 + 4) + 2)), (0, .int (((x ^^^ (-1)) &&& (x - 1)).toUInt32 >>> ((4 : Int32).toUInt32 &&& Int32.toUInt32 31)).toInt32)]) C0 d_In_numberOfTrailingZeros_67 1 rfl rfl (by decide) rfl ?_
            refine xs_iload_n C0 d_In_numberOfTrailingZeros_70 rfl 1 rfl ?_
            refine xs_iconst (v := 2) C0 d_In_numberOfTrailingZeros_71 (by decide) ?_
            refine xs_iushr C0 d_In_numberOfTrailingZeros_72 ?_
            refine xs_istore_n (lv' := [(0, .int ((((x ^^^ (-1)) &&& (x - 1)).toUInt32 >>> ((4 : Int32).toUInt32 &&& Int32.toUInt32 31)).toInt32.toUInt32 >>> ((2 : Int32).toUInt32 &&& Int32.toUInt32 31)).toInt32), (1, .int ((1 + 4) + 2))]) C0 d_In_numberOfTrailingZeros_73 rfl (by decide) rfl ?_
            refine xs_iload_n C0 d_In_numberOfTrailingZeros_74 rfl 1 rfl ?_
            refine xs_iload_n C0 d_In_numberOfTrailingZeros_75 rfl 0 rfl ?_
            refine xs_iconst (v := 1) C0 d_In_numberOfTrailingZeros_76 (by decide) ?_
            refine xs_iushr C0 d_In_numberOfTrailingZeros_77 ?_
            refine xs_iadd C0 d_In_numberOfTrailingZeros_78 ?_
            exact xs_iret C0 d_In_numberOfTrailingZeros_79 (⟨by simp only [f_itz, f_z0, f_z1, f_z2, f_z3, f_z4, f_us, c_1, c_2, c_3, c_4, c_6, ↓reduceIte], rfl⟩) (Nat.le_of_ble_eq_true rfl) (Nat.le_of_ble_eq_true rfl)
      · refine xs_iinc (v := 1 + 8) (lv' := [(1, .int (1 + 8)), (0, .int ((x ^^^ (-1)) &&& (x - 1)))]) C0 d_In_numberOfTrailingZeros_41 0 rfl rfl (by decide) rfl ?_
        refine xs_iload_n C0 d_In_numberOfTrailingZeros_44 rfl 1 rfl ?_
        refine xs_bipush (v := 8) C0 d_In_numberOfTrailingZeros_45 (by decide) ?_
        refine xs_iushr C0 d_In_numberOfTrailingZeros_47 ?_
        refine xs_istore_n (lv' := [(0, .int (((x ^^^ (-1)) &&& (x - 1)).toUInt32 >>> ((8 : Int32).toUInt32 &&& Int32.toUInt32 31)).toInt32), (1, .int (1 + 8))]) C0 d_In_numberOfTrailingZeros_48 rfl (by decide) rfl ?_
        refine xs_iload_n C0 d_In_numberOfTrailingZeros_49 rfl 0 rfl ?_
        refine xs_bipush (v := 16) C0 d_In_numberOfTrailingZeros_50 (by decide) ?_
        refine xs_icmp_le (tgt := 62) C0 d_In_numberOfTrailingZeros_52 (by decide) (fun c_7 => ?_) (fun c_7 => ?_)
        · refine xs_iload_n C0 d_In_numberOfTrailingZeros_62 rfl 0 rfl ?_
          refine xs_iconst (v := 4) C0 d_In_numberOfTrailingZeros_63 (by decide) ?_
          refine xs_icmp_le (tgt := 74) C0 d_In_numberOfTrailingZeros_64 (by decide) (fun c_8 => ?_) (fun c_8 => ?_)
          · refine xs_iload_n C0 d_In_numberOfTrailingZeros_74 rfl 1 rfl ?_
            refine xs_iload_n C0 d_In_numberOfTrailingZeros_75 rfl 0 rfl ?_
            refine xs_iconst (v := 1) C0 d_In_numberOfTrailingZeros_76 (by decide) ?_
            refine xs_iushr C0 d_In_numberOfTrailingZeros_77 ?_
            refine xs_iadd C0 d_In_numberOfTrailingZeros_78 ?_
            exact xs_iret C0 d_In_numberOfTrailingZeros_79 (⟨by simp only [f_itz, f_z0, f_z1, f_z2, f_z3, f_z4, f_us, c_1, c_2, c_3, c_7, c_8, ↓reduceIte], rfl⟩) (Nat.le_of_ble_eq_true rfl) (Nat.le_of_ble_eq_true rfl)
          · refine xs_iinc (v := (1 + 8) + 2) (lv' := [(1, .int ((1 + 8) + 2)), (0, .int (((x ^^^ (-1)) &&& (x - 1)).toUInt32 >>> ((8 : Int32).toUInt32 &&& Int32.toUInt32 31)).toInt32)]) C0 d_In_numberOfTrailingZeros_67 1 rfl rfl (by decide) rfl ?_
            refine xs_iload_n C0 d_In_numberOfTrailingZeros_70 rfl 1 rfl ?_
            refine xs_iconst (v := 2) C0 d_In_numberOfTrailingZeros_71 (by decide) ?_
            refine xs_iushr C0 d_In_numberOfTrailingZeros_72 ?_
            refine xs_istore_n (lv' := [(0, .int ((((x ^^^ (-1)) &&& (x - 1)).toUInt32 >>> ((8 : Int32).toUInt32 &&& Int32.toUInt32 31)).toInt32.toUInt32 >>> ((2 : Int32).toUInt32 &&& Int32.toUInt32 31)).toInt32), (1, .int ((1 + 8) + 2))]) C0 d_In_numberOfTrailingZeros_73 rfl (by decide) rfl ?_
            refine xs_iload_n C0 d_In_numberOfTrailingZeros_74 rfl 1 rfl ?_
            refine xs_iload_n C0 d_In_numberOfTrailingZeros_75 rfl 0 rfl ?_
            refine xs_iconst (v := 1) C0 d_In_numberOfTrailingZeros_76 (by decide) ?_
            refine xs_iushr C0 d_In_numberOfTrailingZeros_77 ?_
            refine xs_iadd C0 d_In_numberOfTrailingZeros_78 ?_
            exact xs_iret C0 d_In_numberOfTrailingZeros_79 (⟨by simp only [f_itz, f_z0, f_z1, f_z2, f_z3, f_z4, f_us, c_1, c_2, c_3, c_7, c_8, ↓reduceIte], rfl⟩) (Nat.le_of_ble_eq_true rfl) (Nat.le_of_ble_eq_true rfl)
        · refine xs_iinc (v := (1 + 8) + 4) (lv' := [(1, .int ((1 + 8) + 4)), (0, .int (((x ^^^ (-1)) &&& (x - 1)).toUInt32 >>> ((8 : Int32).toUInt32 &&& Int32.toUInt32 31)).toInt32)]) C0 d_In_numberOfTrailingZeros_55 1 rfl rfl (by decide) rfl ?_
          refine xs_iload_n C0 d_In_numberOfTrailingZeros_58 rfl 1 rfl ?_
          refine xs_iconst (v := 4) C0 d_In_numberOfTrailingZeros_59 (by decide) ?_
          refine xs_iushr C0 d_In_numberOfTrailingZeros_60 ?_
          refine xs_istore_n (lv' := [(0, .int ((((x ^^^ (-1)) &&& (x - 1)).toUInt32 >>> ((8 : Int32).toUInt32 &&& Int32.toUInt32 31)).toInt32.toUInt32 >>> ((4 : Int32).toUInt32 &&& Int32.toUInt32 31)).toInt32), (1, .int ((1 + 8) + 4))]) C0 d_In_numberOfTrailingZeros_61 rfl (by decide) rfl ?_
          refine xs_iload_n C0 d_In_numberOfTrailingZeros_62 rfl 0 rfl ?_
          refine xs_iconst (v := 4) C0 d_In_numberOfTrailingZeros_63 (by decide) ?_
          refine xs_icmp_le (tgt := 74) C0 d_In_numberOfTrailingZeros_64 (by decide) (fun c_9 => ?_) (fun c_9 => ?_)
          · refine xs_iload_n C0 d_In_numberOfTrailingZeros_74 rfl 1 rfl ?_
            refine xs_iload_n C0 d_In_numberOfTrailingZeros_75 rfl 0 rfl ?_
            refine xs_iconst (v := 1) C0 d_In_numberOfTrailingZeros_76 (by decide) ?_
            refine xs_iushr C0 d_In_numberOfTrailingZeros_77 ?_
            refine xs_iadd C0 d_In_numberOfTrailingZeros_78 ?_
            exact xs_iret C0 d_In_numberOfTrailingZeros_79 (⟨by simp only [f_itz, f_z0, f_z1, f_z2, f_z3, f_z4, f_us, c_1, c_2, c_3, c_7, c_9, ↓reduceIte], rfl⟩) (Nat.le_of_ble_eq_true rfl) (Nat.le_of_ble_eq_true rfl)
          · refine xs_iinc (v := ((1 + 8) + 4) + 2) (lv' := [(1, .int (((1 + 8) + 4) + 2)), (0, .int ((((x ^^^ (-1)) &&& (x - 1)).toUInt32 >>> ((8 : Int32).toUInt32 &&& Int32.toUInt32 31)).toInt32.toUInt32 >>> ((4 : Int32).toUInt32 &&& Int32.toUInt32 31)).toInt32)]) C0 d_In_numberOfTrailingZeros_67 1 rfl rfl (by decide) rfl ?_
            refine xs_iload_n C0 d_In_numberOfTrailingZeros_70 rfl 1 rfl ?_
            refine xs_iconst (v := 2) C0 d_In_numberOfTrailingZeros_71 (by decide) ?_
            refine xs_iushr C0 d_In_numberOfTrailingZeros_72 ?_
            refine xs_istore_n (lv' := [(0, .int (((((x ^^^ (-1)) &&& (x - 1)).toUInt32 >>> ((8 : Int32).toUInt32 &&& Int32.toUInt32 31)).toInt32.toUInt32 >>> ((4 : Int32).toUInt32 &&& Int32.toUInt32 31)).toInt32.toUInt32 >>> ((2 : Int32).toUInt32 &&& Int32.toUInt32 31)).toInt32), (1, .int (((1 + 8) + 4) + 2))]) C0 d_In_numberOfTrailingZeros_73 rfl (by decide) rfl ?_
            refine xs_iload_n C0 d_In_numberOfTrailingZeros_74 rfl 1 rfl ?_
            refine xs_iload_n C0 d_In_numberOfTrailingZeros_75 rfl 0 rfl ?_
            refine xs_iconst (v := 1) C0 d_In_numberOfTrailingZeros_76 (by decide) ?_
            refine xs_iushr C0 d_In_numberOfTrailingZeros_77 ?_
            refine xs_iadd C0 d_In_numberOfTrailingZeros_78 ?_
            exact xs_iret C0 d_In_numberOfTrailingZeros_79 (⟨by simp only [f_itz, f_z0, f_z1, f_z2, f_z3, f_z4, f_us, c_1, c_2, c_3, c_7, c_9, ↓reduceIte], rfl⟩) (Nat.le_of_ble_eq_true rfl) (Nat.le_of_ble_eq_true rfl)
    · refine xs_iinc (v := 1 + 16) (lv' := [(1, .int (1 + 16)), (0, .int ((x ^^^ (-1)) &&& (x - 1)))]) C0 d_In_numberOfTrailingZeros_26 0 rfl rfl (by decide) rfl ?_
      refine xs_iload_n C0 d_In_numberOfTrailingZeros_29 rfl 1 rfl ?_
      refine xs_bipush (v := 16) C0 d_In_numberOfTrailingZeros_30 (by decide) ?_
      refine xs_iushr C0 d_In_numberOfTrailingZeros_32 ?_
      refine xs_istore_n (lv' := [(0, .int (((x ^^^ (-1)) &&& (x - 1)).toUInt32 >>> ((16 : Int32).toUInt32 &&& Int32.toUInt32 31)).toInt32), (1, .int (1 + 16))]) C0 d_In_numberOfTrailingZeros_33 rfl (by decide) rfl ?_
      refine xs_iload_n C0 d_In_numberOfTrailingZeros_34 rfl 0 rfl ?_
      refine xs_sipush (v := 256) C0 d_In_numberOfTrailingZeros_35 (by decide) ?_
      refine xs_icmp_le (tgt := 49) C0 d_In_numberOfTrailingZeros_38 (by decide) (fun c_10 => ?_) (fun c_10 => ?_)
      · refine xs_iload_n C0 d_In_numberOfTrailingZeros_49 rfl 0 rfl ?_
        refine xs_bipush (v := 16) C0 d_In_numberOfTrailingZeros_50 (by decide) ?_
        refine xs_icmp_le (tgt := 62) C0 d_In_numberOfTrailingZeros_52 (by decide) (fun c_11 => ?_) (fun c_11 => ?_)
        · refine xs_iload_n C0 d_In_numberOfTrailingZeros_62 rfl 0 rfl ?_
          refine xs_iconst (v := 4) C0 d_In_numberOfTrailingZeros_63 (by decide) ?_
          refine xs_icmp_le (tgt := 74) C0 d_In_numberOfTrailingZeros_64 (by decide) (fun c_12 => ?_) (fun c_12 => ?_)
          · refine xs_iload_n C0 d_In_numberOfTrailingZeros_74 rfl 1 rfl ?_
            refine xs_iload_n C0 d_In_numberOfTrailingZeros_75 rfl 0 rfl ?_
            refine xs_iconst (v := 1) C0 d_In_numberOfTrailingZeros_76 (by decide) ?_
            refine xs_iushr C0 d_In_numberOfTrailingZeros_77 ?_
            refine xs_iadd C0 d_In_numberOfTrailingZeros_78 ?_
            exact xs_iret C0 d_In_numberOfTrailingZeros_79 (⟨by simp only [f_itz, f_z0, f_z1, f_z2, f_z3, f_z4, f_us, c_1, c_2, c_10, c_11, c_12, ↓reduceIte], rfl⟩) (Nat.le_of_ble_eq_true rfl) (Nat.le_of_ble_eq_true rfl)
          · refine xs_iinc (v := (1 + 16) + 2) (lv' := [(1, .int ((1 + 16) + 2)), (0, .int (((x ^^^ (-1)) &&& (x - 1)).toUInt32 >>> ((16 : Int32).toUInt32 &&& Int32.toUInt32 31)).toInt32)]) C0 d_In_numberOfTrailingZeros_67 1 rfl rfl (by decide) rfl ?_
            refine xs_iload_n C0 d_In_numberOfTrailingZeros_70 rfl 1 rfl ?_
            refine xs_iconst (v := 2) C0 d_In_numberOfTrailingZeros_71 (by decide) ?_
            refine xs_iushr C0 d_In_numberOfTrailingZeros_72 ?_
            refine xs_istore_n (lv' := [(0, .int ((((x ^^^ (-1)) &&& (x - 1)).toUInt32 >>> ((16 : Int32).toUInt32 &&& Int32.toUInt32 31)).toInt32.toUInt32 >>> ((2 : Int32).toUInt32 &&& Int32.toUInt32 31)).toInt32), (1, .int ((1 + 16) + 2))]) C0 d_In_numberOfTrailingZeros_73 rfl (by decide) rfl ?_
            refine xs_iload_n C0 d_In_numberOfTrailingZeros_74 rfl 1 rfl ?_
            refine xs_iload_n C0 d_In_numberOfTrailingZeros_75 rfl 0 rfl ?_
            refine xs_iconst (v := 1) C0 d_In_numberOfTrailingZeros_76 (by decide) ?_
            refine xs_iushr C0 d_In_numberOfTrailingZeros_77 ?_
            refine xs_iadd C0 d_In_numberOfTrailingZeros_78 ?_
            exact xs_iret C0 d_In_numberOfTrailingZeros_79 (⟨by simp only [f_itz, f_z0, f_z1, f_z2, f_z3, f_z4, f_us, c_1, c_2, c_10, c_11, c_12, ↓reduceIte], rfl⟩) (Nat.le_of_ble_eq_true rfl) (Nat.le_of_ble_eq_true rfl)
        · refine xs_iinc (v := (1 + 16) + 4) (lv' := [(1, .int ((1 + 16) + 4)), (0, .int (((x ^^^ (-1)) &&& (x - 1)).toUInt32 >>> ((16 : Int32).toUInt32 &&& Int32.toUInt32 31)).toInt32)]) C0 d_In_numberOfTrailingZeros_55 1 rfl rfl (by decide) rfl ?_
          refine xs_iload_n C0 d_In_numberOfTrailingZeros_58 rfl 1 rfl ?_
          refine xs_iconst (v := 4) C0 d_In_numberOfTrailingZeros_59 (by decide) ?_
          refine xs_iushr C0 d_In_numberOfTrailingZeros_60 ?_
          refine xs_istore_n (lv' := [(0, .int ((((x ^^^ (-1)) &&& (x - 1)).toUInt32 >>> ((16 : Int32).toUInt32 &&& Int32.toUInt32 31)).toInt32.toUInt32 >>> ((4 : Int32).toUInt32 &&& Int32.toUInt32 31)).toInt32), (1, .int ((1 + 16) + 4))]) C0 d_In_numberOfTrailingZeros_61 rfl (by decide) rfl ?_
          refine xs_iload_n C0 d_In_numberOfTrailingZeros_62 rfl 0 rfl ?_
          refine xs_iconst (v := 4) C0 d_In_numberOfTrailingZeros_63 (by decide) ?_
          refine xs_icmp_le (tgt := 74) C0 d_In_numberOfTrailingZeros_64 (by decide) (fun c_13 => ?_) (fun c_13 => ?_)
          · refine xs_iload_n C0 d_In_numberOfTrailingZeros_74 rfl 1 rfl ?_
            refine xs_iload_n C0 d_In_numberOfTrailingZeros_75 rfl 0 rfl ?_
            refine xs_iconst (v := 1) C0 d_In_numberOfTrailingZeros_76 (by decide) ?_
            refine xs_iushr C0 d_In_numberOfTrailingZeros_77 ?_
            refine xs_iadd C0 d_In_numberOfTrailingZeros_78 ?_
            exact xs_iret C0 d_In_numberOfTrailingZeros_79 (⟨by simp only [f_itz, f_z0, f_z1, f_z2, f_z3, f_z4, f_us, c_1, c_2, c_10, c_11, c_13, ↓reduceIte], rfl⟩) (Nat.le_of_ble_eq_true rfl) (Nat.le_of_ble_eq_true rfl)
          · refine xs_iinc (v := ((1 + 16) + 4) + 2) (lv' := [(1, .int (((1 + 16) + 4) + 2)), (0, .int ((((x ^^^ (-1)) &&& (x - 1)).toUInt32 >>> ((16 : Int32).toUInt32 &&& Int32.toUInt32 31)).toInt32.toUInt32 >>> ((4 : Int32).toUInt32 &&& Int32.toUInt32 31)).toInt32)]) C0 d_In_numberOfTrailingZeros_67 1 rfl rfl (by decide) rfl ?_
            refine xs_iload_n C0 d_In_numberOfTrailingZeros_70 rfl 1 rfl ?_
            refine xs_iconst (v := 2) C0 d_In_numberOfTrailingZeros_71 (by decide) ?_
            refine xs_iushr C0 d_In_numberOfTrailingZeros_72 ?_
            refine xs_istore_n (lv' := [(0, .int (((((x ^^^ (-1)) &&& (x - 1)).toUInt32 >>> ((16 : Int32).toUInt32 &&& Int32.toUInt32 31)).toInt32.toUInt32 >>> ((4 : Int32).toUInt32 &&& Int32.toUInt32 31)).toInt32.toUInt32 >>> ((2 : Int32).toUInt32 &&& Int32.toUInt32 31)).toInt32), (1, .int (((1 + 16) + 4) + 2))]) C0 d_In_numberOfTrailingZeros_73 rfl (by decide) rfl ?_
            refine xs_iload_n C0 d_In_numberOfTrailingZeros_74 rfl 1 rfl ?_
            refine xs_iload_n C0 d_In_numberOfTrailingZeros_75 rfl 0 rfl ?_
            refine xs_iconst (v := 1) C0 d_In_numberOfTrailingZeros_76 (by decide) ?_
            refine xs_iushr C0 d_In_numberOfTrailingZeros_77 ?_
            refine xs_iadd C0 d_In_numberOfTrailingZeros_78 ?_
            exact xs_iret C0 d_In_numberOfTrailingZeros_79 (⟨by simp only [f_itz, f_z0, f_z1, f_z2, f_z3, f_z4, f_us, c_1, c_2, c_10, c_11, c_13, ↓reduceIte], rfl⟩) (Nat.le_of_ble_eq_true rfl) (Nat.le_of_ble_eq_true rfl)
      · refine xs_iinc (v := (1 + 16) + 8) (lv' := [(1, .int ((1 + 16) + 8)), (0, .int (((x ^^^ (-1)) &&& (x - 1)).toUInt32 >>> ((16 : Int32).toUInt32 &&& Int32.toUInt32 31)).toInt32)]) C0 d_In_numberOfTrailingZeros_41 1 rfl rfl (by decide) rfl ?_
        refine xs_iload_n C0 d_In_numberOfTrailingZeros_44 rfl 1 rfl ?_
        refine xs_bipush (v := 8) C0 d_In_numberOfTrailingZeros_45 (by decide) ?_
        refine xs_iushr C0 d_In_numberOfTrailingZeros_47 ?_
        refine xs_istore_n (lv' := [(0, .int ((((x ^^^ (-1)) &&& (x - 1)).toUInt32 >>> ((16 : Int32).toUInt32 &&& Int32.toUInt32 31)).toInt32.toUInt32 >>> ((8 : Int32).toUInt32 &&& Int32.toUInt32 31)).toInt32), (1, .int ((1 + 16) + 8))]) C0 d_In_numberOfTrailingZeros_48 rfl (by decide) rfl ?_
        refine xs_iload_n C0 d_In_numberOfTrailingZeros_49 rfl 0 rfl ?_
        refine xs_bipush (v := 16) C0 d_In_numberOfTrailingZeros_50 (by decide) ?_
        refine xs_icmp_le (tgt := 62) C0 d_In_numberOfTrailingZeros_52 (by decide) (fun c_14 => ?_) (fun c_14 => ?_)
        · refine xs_iload_n C0 d_In_numberOfTrailingZeros_62 rfl 0 rfl ?_
          refine xs_iconst (v := 4) C0 d_In_numberOfTrailingZeros_63 (by decide) ?_
          refine xs_icmp_le (tgt := 74) C0 d_In_numberOfTrailingZeros_64 (by decide) (fun c_15 => ?_) (fun c_15 => ?_)
          · refine xs_iload_n C0 d_In_numberOfTrailingZeros_74 rfl 1 rfl ?_
            refine xs_iload_n C0 d_In_numberOfTrailingZeros_75 rfl 0 rfl ?_
            refine xs_iconst (v := 1) C0 d_In_numberOfTrailingZeros_76 (by decide) ?_
            refine xs_iushr C0 d_In_numberOfTrailingZeros_77 ?_
            refine xs_iadd C0 d_In_numberOfTrailingZeros_78 ?_
            exact xs_iret C0 d_In_numberOfTrailingZeros_79 (⟨by simp only [f_itz, f_z0, f_z1, f_z2, f_z3, f_z4, f_us, c_1, c_2, c_10, c_14, c_15, ↓reduceIte], rfl⟩) (Nat.le_of_ble_eq_true rfl) (Nat.le_of_ble_eq_true rfl)
          · refine xs_iinc (v := ((1 + 16) + 8) + 2) (lv' := [(1, .int (((1 + 16) + 8) + 2)), (0, .int ((((x ^^^ (-1)) &&& (x - 1)).toUInt32 >>> ((16 : Int32).toUInt32 &&& Int32.toUInt32 31)).toInt32.toUInt32 >>> ((8 : Int32).toUInt32 &&& Int32.toUInt32 31)).toInt32)]) C0 d_In_numberOfTrailingZeros_67 1 rfl rfl (by decide) rfl ?_
            refine xs_iload_n C0 d_In_numberOfTrailingZeros_70 rfl 1 rfl ?_
            refine xs_iconst (v := 2) C0 d_In_numberOfTrailingZeros_71 (by decide) ?_
            refine xs_iushr C0 d_In_numberOfTrailingZeros_72 ?_
            refine xs_istore_n (lv' := [(0, .int (((((x ^^^ (-1)) &&& (x - 1)).toUInt32 >>> ((16 : Int32).toUInt32 &&& Int32.toUInt32 31)).toInt32.toUInt32 >>> ((8 : Int32).toUInt32 &&& Int32.toUInt32 31)).toInt32.toUInt32 >>> ((2 : Int32).toUInt32 &&& Int32.toUInt32 31)).toInt32), (1, .int (((1 + 16) + 8) + 2))]) C0 d_In_numberOfTrailingZeros_73 rfl (by decide) rfl ?_
            refine xs_iload_n C0 d_In_numberOfTrailingZeros_74 rfl 1 rfl ?_
            refine xs_iload_n C0 d_In_numberOfTrailingZeros_75 rfl 0 rfl ?_
            refine xs_iconst (v := 1) C0 d_In_numberOfTrailingZeros_76 (by decide) ?_
            refine xs_iushr C0 d_In_numberOfTrailingZeros_77 ?_
            refine xs_iadd C0 d_In_numberOfTrailingZeros_78 ?_
            exact xs_iret C0 d_In_numberOfTrailingZeros_79 (⟨by simp only [f_itz, f_z0, f_z1, f_z2, f_z3, f_z4, f_us, c_1, c_2, c_10, c_14, c_15, ↓reduceIte], rfl⟩) (Nat.le_of_ble_eq_true rfl) (Nat.le_of_ble_eq_true rfl)
        · refine xs_iinc (v := ((1 + 16) + 8) + 4) (lv' := [(1, .int (((1 + 16) + 8) + 4)), (0, .int ((((x ^^^ (-1)) &&& (x - 1)).toUInt32 >>> ((16 : Int32).toUInt32 &&& Int32.toUInt32 31)).toInt32.toUInt32 >>> ((8 : Int32).toUInt32 &&& Int32.toUInt32 31)).toInt32)]) C0 d_In_numberOfTrailingZeros_55 1 rfl rfl (by decide) rfl ?_
          refine xs_iload_n C0 d_In_numberOfTrailingZeros_58 rfl 1 rfl ?_
          refine xs_iconst (v := 4) C0 d_In_numberOfTrailingZeros_59 (by decide) ?_
          refine xs_iushr C0 d_In_numberOfTrailingZeros_60 ?_
          refine xs_istore_n (lv' := [(0, .int (((((x ^^^ (-1)) &&& (x - 1)).toUInt32 >>> ((16 : Int32).toUInt32 &&& Int32.toUInt32 31)).toInt32.toUInt32 >>> ((8 : Int32).toUInt32 &&& Int32.toUInt32 31)).toInt32.toUInt32 >>> ((4 : Int32).toUInt32 &&& Int32.toUInt32 31)).toInt32), (1, .int (((1 + 16) + 8) + 4))]) C0 d_In_numberOfTrailingZeros_61 rfl (by decide) rfl ?_
          refine xs_iload_n C0 d_In_numberOfTrailingZeros_62 rfl 0 rfl ?_
          refine xs_iconst (v := 4) C0 d_In_numberOfTrailingZeros_63 (by decide) ?_
          refine xs_icmp_le (tgt := 74) C0 d_In_numberOfTrailingZeros_64 (by decide) (fun c_16 => ?_) (fun c_16 => ?_)
          · refine xs_iload_n C0 d_In_numberOfTrailingZeros_74 rfl 1 rfl ?_
            refine xs_iload_n C0 d_In_numberOfTrailingZeros_75 rfl 0 rfl ?_
            refine xs_iconst (v := 1) C0 d_In_numberOfTrailingZeros_76 (by decide) ?_
            refine xs_iushr C0 d_In_numberOfTrailingZeros_77 ?_
            refine xs_iadd C0 d_In_numberOfTrailingZeros_78 ?_
            exact xs_iret C0 d_In_numberOfTrailingZeros_79 (⟨by simp only [f_itz, f_z0, f_z1, f_z2, f_z3, f_z4, f_us, c_1, c_2, c_10, c_14, c_16, ↓reduceIte], rfl⟩) (Nat.le_of_ble_eq_true rfl) (Nat.le_of_ble_eq_true rfl)
          · refine xs_iinc (v := (((1 + 16) + 8) + 4) + 2) (lv' := [(1, .int ((((1 + 16) + 8) + 4) + 2)), (0, .int (((((x ^^^ (-1)) &&& (x - 1)).toUInt32 >>> ((16 : Int32).toUInt32 &&& Int32.toUInt32 31)).toInt32.toUInt32 >>> ((8 : Int32).toUInt32 &&& Int32.toUInt32 31)).toInt32.toUInt32 >>> ((4 : Int32).toUInt32 &&& Int32.toUInt32 31)).toInt32)]) C0 d_In_numberOfTrailingZeros_67 1 rfl rfl (by decide) rfl ?_
            refine xs_iload_n C0 d_In_numberOfTrailingZeros_70 rfl 1 rfl ?_
            refine xs_iconst (v := 2) C0 d_In_numberOfTrailingZeros_71 (by decide) ?_
            refine xs_iushr C0 d_In_numberOfTrailingZeros_72 ?_
            refine xs_istore_n (lv' := [(0, .int ((((((x ^^^ (-1)) &&& (x - 1)).toUInt32 >>> ((16 : Int32).toUInt32 &&& Int32.toUInt32 31)).toInt32.toUInt32 >>> ((8 : Int32).toUInt32 &&& Int32.toUInt32 31)).toInt32.toUInt32 >>> ((4 : Int32).toUInt32 &&& Int32.toUInt32 31)).toInt32.toUInt32 >>> ((2 : Int32).toUInt32 &&& Int32.toUInt32 31)).toInt32), (1, .int ((((1 + 16) + 8) + 4) + 2))]) C0 d_In_numberOfTrailingZeros_73 rfl (by decide) rfl ?_
            refine xs_iload_n C0 d_In_numberOfTrailingZeros_74 rfl 1 rfl ?_
            refine xs_iload_n C0 d_In_numberOfTrailingZeros_75 rfl 0 rfl ?_
            refine xs_iconst (v := 1) C0 d_In_numberOfTrailingZeros_76 (by decide) ?_
            refine xs_iushr C0 d_In_numberOfTrailingZeros_77 ?_
            refine xs_iadd C0 d_In_numberOfTrailingZeros_78 ?_
            exact xs_iret C0 d_In_numberOfTrailingZeros_79 (⟨by simp only [f_itz, f_z0, f_z1, f_z2, f_z3, f_z4, f_us, c_1, c_2, c_10, c_14, c_16, ↓reduceIte], rfl⟩) (Nat.le_of_ble_eq_true rfl) (Nat.le_of_ble_eq_true rfl)
  · refine xs_iload_n C0 d_In_numberOfTrailingZeros_12 rfl 0 rfl ?_
    refine xs_bipush (v := 32) C0 d_In_numberOfTrailingZeros_13 (by decide) ?_
    refine xs_iand C0 d_In_numberOfTrailingZeros_15 ?_
    exact xs_iret C0 d_In_numberOfTrailingZeros_16 (⟨by simp only [f_itz, f_z0, f_z1, f_z2, f_z3, f_z4, f_us, c_1, ↓reduceIte], rfl⟩) (Nat.le_of_ble_eq_true rfl) (Nat.le_of_ble_eq_true rfl)
def f_i (x : Int32) : Int32 := f_itz ((x ^^^ (-1)) &&& (x - 1))
def f_ltz (x : Int64) : Int32 := if ¬ x.toInt32 = 0 then f_i x.toInt32 else 32 + f_i (x.toUInt64 >>> ((32 : Int32).toInt64.toUInt64 &&& Int64.toUInt64 63)).toInt64.toInt32
set_option maxHeartbeats 4000000 in
set_option maxRecDepth 100000 in
theorem c_ltz (ω : xm_O) (x : Int64) : xm_M y_Lo_numberOfTrailingZeros (Cond.code y_Lo_numberOfTrailingZeros b_Lo_numberOfTrailingZeros 3 (some .int)) (xm_rm 1 0 0) [.long x] ω (xm_eq (.inl (some (.int (f_ltz x)))) ω) := by
  refine xm_of (by decide) (Nat.le_of_ble_eq_true rfl) (fun E C0 => ?_)
  refine xs_eq (lv' := [(0, .long x)]) rfl rfl rfl ?_
  refine xs_lload_n C0 d_Lo_numberOfTrailingZeros_0 rfl 0 rfl ?_
  refine xs_l2i C0 d_Lo_numberOfTrailingZeros_1 ?_
  refine xs_istore_n (lv' := [(2, .int x.toInt32), (0, .long x)]) C0 d_Lo_numberOfTrailingZeros_2 rfl (by decide) rfl ?_
  refine xs_iload_n C0 d_Lo_numberOfTrailingZeros_3 rfl 0 rfl ?_
  refine xs_if_ne (tgt := 21) C0 d_Lo_numberOfTrailingZeros_4 (by decide) (fun c_1 => ?_) (fun c_1 => ?_)
  · refine xs_iload_n C0 d_Lo_numberOfTrailingZeros_21 rfl 0 rfl ?_
    refine xs_cS1 (ω' := ω) (av := [.int x.toInt32]) (st := []) (kc' := 0) (ks' := 0) (v := .int (f_itz ((x.toInt32 ^^^ (-1)) &&& (x.toInt32 - 1)))) C0 d_Lo_numberOfTrailingZeros_22 l_Lo_311 (c_itz _ x.toInt32) rfl rfl rfl (Nat.le_of_ble_eq_true rfl) (Nat.le_of_ble_eq_true rfl) (Nat.le_of_ble_eq_true rfl) (Nat.le_of_ble_eq_true rfl) (Nat.le_of_ble_eq_true rfl) (Nat.le_of_ble_eq_true rfl) ?_
    exact xs_iret C0 d_Lo_numberOfTrailingZeros_25 (⟨by simp only [f_ltz, f_i, c_1, not_true_eq_false, not_false_eq_true, ↓reduceIte], rfl⟩) (Nat.le_of_ble_eq_true rfl) (Nat.le_of_ble_eq_true rfl)
  · refine xs_bipush (v := 32) C0 d_Lo_numberOfTrailingZeros_7 (by decide) ?_
    refine xs_lload_n C0 d_Lo_numberOfTrailingZeros_9 rfl 1 rfl ?_
    refine xs_bipush (v := 32) C0 d_Lo_numberOfTrailingZeros_10 (by decide) ?_
    refine xs_lushr C0 d_Lo_numberOfTrailingZeros_12 ?_
    refine xs_l2i C0 d_Lo_numberOfTrailingZeros_13 ?_
    refine xs_cS1 (ω' := ω) (av := [.int (x.toUInt64 >>> ((32 : Int32).toInt64.toUInt64 &&& Int64.toUInt64 63)).toInt64.toInt32]) (st := [.int 32]) (kc' := 0) (ks' := 0) (v := .int (f_itz ((((x.toUInt64 >>> ((32 : Int32).toInt64.toUInt64 &&& Int64.toUInt64 63)).toInt64.toInt32) ^^^ (-1)) &&& (((x.toUInt64 >>> ((32 : Int32).toInt64.toUInt64 &&& Int64.toUInt64 63)).toInt64.toInt32) - 1)))) C0 d_Lo_numberOfTrailingZeros_14 l_Lo_311 (c_itz _ ((x.toUInt64 >>> ((32 : Int32).toInt64.toUInt64 &&& Int64.toUInt64 63)).toInt64.toInt32)) rfl rfl rfl (Nat.le_of_ble_eq_true rfl) (Nat.le_of_ble_eq_true rfl) (Nat.le_of_ble_eq_true rfl) (Nat.le_of_ble_eq_true rfl) (Nat.le_of_ble_eq_true rfl) (Nat.le_of_ble_eq_true rfl) ?_
    refine xs_iadd C0 d_Lo_numberOfTrailingZeros_17 ?_
    refine xs_goto (tgt := 25) C0 d_Lo_numberOfTrailingZeros_18 (by decide) ?_
    exact xs_iret C0 d_Lo_numberOfTrailingZeros_25 (⟨by simp only [f_ltz, f_i, c_1, not_true_eq_false, not_false_eq_true, ↓reduceIte], rfl⟩) (Nat.le_of_ble_eq_true rfl) (Nat.le_of_ble_eq_true rfl)
