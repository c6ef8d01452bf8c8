def f_X0_isFine (i : Nat) (r : Int32) (σ : Sg) : Int32 :=
  if ((σ 0 i 4) &&& r) = 0 then 0
  else 1
set_option maxHeartbeats 4000000 in
set_option maxRecDepth 100000 in
theorem c_X0_isFine (l : Launch) (D : va_G) (ca : Nat → ClassId) (base : Nat) (ad : Adr) (σ : Sg) (i : Nat) (r : Int32) (hi : i < 12) : Mt l yX0_isFine cX0_isFine 2 (some .boolean) { frames := 0, cells := 0, slots := 0, locals := 0 } D ca base ad ρm Lm [.ref (ad 0 i), .int r] σ (some (.int (f_X0_isFine i r σ))) σ := by
  refine w_ofW (by decide) (Nat.le_of_ble_eq_true rfl) rfl ?_
  intro p e s m args below meth c hC hW hS ls hl hin
  have hx := hC.1
  have hb := hC.2.1
  refine lv_aload_n hx hb dX0_isFine_0 rfl (lv_at hl 0 rfl) ?_
  refine gf_X0_19 hC hW (mm_0 hi) dX0_isFine_1 ?_
  refine lv_iload_n hx hb dX0_isFine_4 rfl (lv_at hl 1 rfl) ?_
  refine lv_iand hx hb dX0_isFine_5 ?_
  refine lv_if_eq (tgt := 13) hx hb dX0_isFine_6 (by decide) (fun c_1 => ?_) (fun c_1 => ?_)
  · refine lv_iconst (v := 0) hx hb dX0_isFine_13 (by decide) ?_
    have hO : f_X0_isFine i r σ = 0 := by rw [f_X0_isFine, if_pos c_1]
    exact w_zret hC hW hS (by decide) (by rw [hO]) (Nat.le_of_ble_eq_true rfl) (Nat.le_of_ble_eq_true rfl) dX0_isFine_14
  · refine lv_iconst (v := 1) hx hb dX0_isFine_9 (by decide) ?_
    refine lv_goto (tgt := 14) hx hb dX0_isFine_10 (by decide) ?_
    have hO : f_X0_isFine i r σ = 1 := by rw [f_X0_isFine, if_neg c_1]
    exact w_zret hC hW hS (by decide) (by rw [hO]) (Nat.le_of_ble_eq_true rfl) (Nat.le_of_ble_eq_true rfl) dX0_isFine_14

def f_X3_isCell (d : Int32) (t : Int32) : Int32 :=
  if d < 0 then 0
  else if 4 ≤ d then 0
  else if t < 0 then 0
  else if 4 ≤ t then 0
  else 1
set_option maxHeartbeats 4000000 in
set_option maxRecDepth 100000 in
theorem c_X3_isCell (l : Launch) (D : va_G) (ca : Nat → ClassId) (base : Nat) (ad : Adr) (σ : Sg) (d : Int32) (t : Int32)  : Mt l yX3_isCell cX3_isCell 2 (some .boolean) { frames := 0, cells := 0, slots := 0, locals := 0 } D ca base ad ρm Lm [.int d, .int t] σ (some (.int (f_X3_isCell d t))) σ := by
  refine w_ofW (by decide) (Nat.le_of_ble_eq_true rfl) rfl ?_
  intro p e s m args below meth c hC hW hS ls hl hin
  have hx := hC.1
  have hb := hC.2.1
  refine lv_iload_n hx hb dX3_isCell_0 rfl (lv_at hl 0 rfl) ?_
  refine lv_if_lt (tgt := 22) hx hb dX3_isCell_1 (by decide) (fun c_1 => ?_) (fun c_1 => ?_)
  · refine lv_iconst (v := 0) hx hb dX3_isCell_22 (by decide) ?_
    have hO : f_X3_isCell d t = 0 := by rw [f_X3_isCell, if_pos c_1]
    exact w_zret hC hW hS (by decide) (by rw [hO]) (Nat.le_of_ble_eq_true rfl) (Nat.le_of_ble_eq_true rfl) dX3_isCell_23
  · refine lv_iload_n hx hb dX3_isCell_4 rfl (lv_at hl 0 rfl) ?_
    refine lv_iconst (v := 4) hx hb dX3_isCell_5 (by decide) ?_
    refine lv_icmp_ge (tgt := 22) hx hb dX3_isCell_6 (by decide) (fun c_2 => ?_) (fun c_2 => ?_)
    · refine lv_iconst (v := 0) hx hb dX3_isCell_22 (by decide) ?_
      have hO : f_X3_isCell d t = 0 := by rw [f_X3_isCell, if_neg c_1, if_pos c_2]
      exact w_zret hC hW hS (by decide) (by rw [hO]) (Nat.le_of_ble_eq_true rfl) (Nat.le_of_ble_eq_true rfl) dX3_isCell_23
    · refine lv_iload_n hx hb dX3_isCell_9 rfl (lv_at hl 1 rfl) ?_
      refine lv_if_lt (tgt := 22) hx hb dX3_isCell_10 (by decide) (fun c_3 => ?_) (fun c_3 => ?_)
      · refine lv_iconst (v := 0) hx hb dX3_isCell_22 (by decide) ?_
        have hO : f_X3_isCell d t = 0 := by rw [f_X3_isCell, if_neg c_1, if_neg c_2, if_pos c_3]
        exact w_zret hC hW hS (by decide) (by rw [hO]) (Nat.le_of_ble_eq_true rfl) (Nat.le_of_ble_eq_true rfl) dX3_isCell_23
      · refine lv_iload_n hx hb dX3_isCell_13 rfl (lv_at hl 1 rfl) ?_
        refine lv_iconst (v := 4) hx hb dX3_isCell_14 (by decide) ?_
        refine lv_icmp_ge (tgt := 22) hx hb dX3_isCell_15 (by decide) (fun c_4 => ?_) (fun c_4 => ?_)
        · refine lv_iconst (v := 0) hx hb dX3_isCell_22 (by decide) ?_
          have hO : f_X3_isCell d t = 0 := by rw [f_X3_isCell, if_neg c_1, if_neg c_2, if_neg c_3, if_pos c_4]
          exact w_zret hC hW hS (by decide) (by rw [hO]) (Nat.le_of_ble_eq_true rfl) (Nat.le_of_ble_eq_true rfl) dX3_isCell_23
        · refine lv_iconst (v := 1) hx hb dX3_isCell_18 (by decide) ?_
          refine lv_goto (tgt := 23) hx hb dX3_isCell_19 (by decide) ?_
          have hO : f_X3_isCell d t = 1 := by rw [f_X3_isCell, if_neg c_1, if_neg c_2, if_neg c_3, if_neg c_4]
          exact w_zret hC hW hS (by decide) (by rw [hO]) (Nat.le_of_ble_eq_true rfl) (Nat.le_of_ble_eq_true rfl) dX3_isCell_23

def e_X7_needPlace (x : Int32) (n : Int32) : Option String :=
  if x < 0 then some "java/lang/IndexOutOfBoundsException"
  else if x < n then none
  else some "java/lang/IndexOutOfBoundsException"
set_option maxHeartbeats 4000000 in
set_option maxRecDepth 100000 in
theorem c_X7_needPlace (l : Launch) (hl9 : l.stackTraces = false) (D : va_G) (ca : Nat → ClassId) (base : Nat) (ad : Adr) (σ : Sg) (x : Int32) (n : Int32)  : Mx l yX7_needPlace cX7_needPlace 2 none { frames := 6, cells := 1, slots := 6, locals := 100 } D ca base ad ρm Lm [.int x, .int n] σ (e_X7_needPlace x n) none σ := by
  refine w_ofX (by decide) (Nat.le_of_ble_eq_true rfl) rfl ?_
  intro p e s m args below meth c hC hW hS hout ls hl
  have hx := hC.1
  have hb := hC.2.1
  refine lv_iload_n hx hb dX7_needPlace_0 rfl (lv_at hl 0 rfl) ?_
  refine lv_if_lt (tgt := 9) hx hb dX7_needPlace_1 (by decide) (fun c_1 => ?_) (fun c_1 => ?_)
  · have hO : e_X7_needPlace x n = some "java/lang/IndexOutOfBoundsException" := by rw [e_X7_needPlace, if_pos c_1]
    exact w_throw hl9 hC hW hS hout hl th_317_319_321 hO dX7_needPlace_9 dX7_needPlace_12 dX7_needPlace_13 dX7_needPlace_16 dX7_needPlace_19 (Nat.le_of_ble_eq_true rfl) (Nat.le_of_ble_eq_true rfl) (Nat.le_of_ble_eq_true rfl) (Nat.le_of_ble_eq_true rfl) (Nat.le_of_ble_eq_true rfl) (Nat.le_of_ble_eq_true rfl)
  · refine lv_iload_n hx hb dX7_needPlace_4 rfl (lv_at hl 0 rfl) ?_
    refine lv_iload_n hx hb dX7_needPlace_5 rfl (lv_at hl 1 rfl) ?_
    refine lv_icmp_lt (tgt := 20) hx hb dX7_needPlace_6 (by decide) (fun c_2 => ?_) (fun c_2 => ?_)
    · have hO : e_X7_needPlace x n = none := by rw [e_X7_needPlace, if_neg c_1, if_pos c_2]
      exact w_vretX hC hW hS hO rfl (Nat.le_of_ble_eq_true rfl) (Nat.le_of_ble_eq_true rfl) dX7_needPlace_20
    · have hO : e_X7_needPlace x n = some "java/lang/IndexOutOfBoundsException" := by rw [e_X7_needPlace, if_neg c_1, if_neg c_2]
      exact w_throw hl9 hC hW hS hout hl th_317_319_321 hO dX7_needPlace_9 dX7_needPlace_12 dX7_needPlace_13 dX7_needPlace_16 dX7_needPlace_19 (Nat.le_of_ble_eq_true rfl) (Nat.le_of_ble_eq_true rfl) (Nat.le_of_ble_eq_true rfl) (Nat.le_of_ble_eq_true rfl) (Nat.le_of_ble_eq_true rfl) (Nat.le_of_ble_eq_true rfl)

def e_X7_needRange (x : Int32) (lo : Int32) (hi : Int32) : Option String :=
  if x < lo then some "java/lang/IllegalArgumentException"
  else if x ≤ hi then none
  else some "java/lang/IllegalArgumentException"
set_option maxHeartbeats 4000000 in
set_option maxRecDepth 100000 in
theorem c_X7_needRange (l : Launch) (hl9 : l.stackTraces = false) (D : va_G) (ca : Nat → ClassId) (base : Nat) (ad : Adr) (σ : Sg) (x : Int32) (lo : Int32) (hi : Int32)  : Mx l yX7_needRange cX7_needRange 3 none { frames := 6, cells := 1, slots := 6, locals := 100 } D ca base ad ρm Lm [.int x, .int lo, .int hi] σ (e_X7_needRange x lo hi) none σ := by
  refine w_ofX (by decide) (Nat.le_of_ble_eq_true rfl) rfl ?_
  intro p e s m args below meth c hC hW hS hout ls hl
  have hx := hC.1
  have hb := hC.2.1
  refine lv_iload_n hx hb dX7_needRange_0 rfl (lv_at hl 0 rfl) ?_
  refine lv_iload_n hx hb dX7_needRange_1 rfl (lv_at hl 1 rfl) ?_
  refine lv_icmp_lt (tgt := 10) hx hb dX7_needRange_2 (by decide) (fun c_1 => ?_) (fun c_1 => ?_)
  · have hO : e_X7_needRange x lo hi = some "java/lang/IllegalArgumentException" := by rw [e_X7_needRange, if_pos c_1]
    exact w_throw hl9 hC hW hS hout hl th_322_324_326 hO dX7_needRange_10 dX7_needRange_13 dX7_needRange_14 dX7_needRange_17 dX7_needRange_20 (Nat.le_of_ble_eq_true rfl) (Nat.le_of_ble_eq_true rfl) (Nat.le_of_ble_eq_true rfl) (Nat.le_of_ble_eq_true rfl) (Nat.le_of_ble_eq_true rfl) (Nat.le_of_ble_eq_true rfl)
  · refine lv_iload_n hx hb dX7_needRange_5 rfl (lv_at hl 0 rfl) ?_
    refine lv_iload_n hx hb dX7_needRange_6 rfl (lv_at hl 2 rfl) ?_
    refine lv_icmp_le (tgt := 21) hx hb dX7_needRange_7 (by decide) (fun c_2 => ?_) (fun c_2 => ?_)
    · have hO : e_X7_needRange x lo hi = none := by rw [e_X7_needRange, if_neg c_1, if_pos c_2]
      exact w_vretX hC hW hS hO rfl (Nat.le_of_ble_eq_true rfl) (Nat.le_of_ble_eq_true rfl) dX7_needRange_21
    · have hO : e_X7_needRange x lo hi = some "java/lang/IllegalArgumentException" := by rw [e_X7_needRange, if_neg c_1, if_neg c_2]
      exact w_throw hl9 hC hW hS hout hl th_322_324_326 hO dX7_needRange_10 dX7_needRange_13 dX7_needRange_14 dX7_needRange_17 dX7_needRange_20 (Nat.le_of_ble_eq_true rfl) (Nat.le_of_ble_eq_true rfl) (Nat.le_of_ble_eq_true rfl) (Nat.le_of_ble_eq_true rfl) (Nat.le_of_ble_eq_true rfl) (Nat.le_of_ble_eq_true rfl)

def e_X7_needSubset (x : Int32) (y : Int32) : Option String :=
  if (x &&& (y ^^^ (-1))) = 0 then none
  else some "java/lang/IllegalArgumentException"
set_option maxHeartbeats 4000000 in
set_option maxRecDepth 100000 in
theorem c_X7_needSubset (l : Launch) (hl9 : l.stackTraces = false) (D : va_G) (ca : Nat → ClassId) (base : Nat) (ad : Adr) (σ : Sg) (x : Int32) (y : Int32)  : Mx l yX7_needSubset cX7_needSubset 2 none { frames := 6, cells := 1, slots := 6, locals := 100 } D ca base ad ρm Lm [.int x, .int y] σ (e_X7_needSubset x y) none σ := by
  refine w_ofX (by decide) (Nat.le_of_ble_eq_true rfl) rfl ?_
  intro p e s m args below meth c hC hW hS hout ls hl
  have hx := hC.1
  have hb := hC.2.1
  refine lv_iload_n hx hb dX7_needSubset_0 rfl (lv_at hl 0 rfl) ?_
  refine lv_iload_n hx hb dX7_needSubset_1 rfl (lv_at hl 1 rfl) ?_
  refine lv_iconst (v := (-1)) hx hb dX7_needSubset_2 (by decide) ?_
  refine lv_ixor hx hb dX7_needSubset_3 ?_
  refine lv_iand hx hb dX7_needSubset_4 ?_
  refine lv_if_eq (tgt := 19) hx hb dX7_needSubset_5 (by decide) (fun c_1 => ?_) (fun c_1 => ?_)
  · have hO : e_X7_needSubset x y = none := by rw [e_X7_needSubset, if_pos c_1]
    exact w_vretX hC hW hS hO rfl (Nat.le_of_ble_eq_true rfl) (Nat.le_of_ble_eq_true rfl) dX7_needSubset_19
  · have hO : e_X7_needSubset x y = some "java/lang/IllegalArgumentException" := by rw [e_X7_needSubset, if_neg c_1]
    exact w_throw hl9 hC hW hS hout hl th_322_327_326 hO dX7_needSubset_8 dX7_needSubset_11 dX7_needSubset_12 dX7_needSubset_15 dX7_needSubset_18 (Nat.le_of_ble_eq_true rfl) (Nat.le_of_ble_eq_true rfl) (Nat.le_of_ble_eq_true rfl) (Nat.le_of_ble_eq_true rfl) (Nat.le_of_ble_eq_true rfl) (Nat.le_of_ble_eq_true rfl)

def e_X7_needRight (r : Int32) : Option String :=
  if r = 1 then none
  else if r = 2 then none
  else if r = 4 then none
  else some "java/lang/IllegalArgumentException"
set_option maxHeartbeats 4000000 in
set_option maxRecDepth 100000 in
theorem c_X7_needRight (l : Launch) (hl9 : l.stackTraces = false) (D : va_G) (ca : Nat → ClassId) (base : Nat) (ad : Adr) (σ : Sg) (r : Int32)  : Mx l yX7_needRight cX7_needRight 1 none { frames := 6, cells := 1, slots := 6, locals := 100 } D ca base ad ρm Lm [.int r] σ (e_X7_needRight r) none σ := by
  refine w_ofX (by decide) (Nat.le_of_ble_eq_true rfl) rfl ?_
  intro p e s m args below meth c hC hW hS hout ls hl
  have hx := hC.1
  have hb := hC.2.1
  refine lv_iload_n hx hb dX7_needRight_0 rfl (lv_at hl 0 rfl) ?_
  refine lv_iconst (v := 1) hx hb dX7_needRight_1 (by decide) ?_
  refine lv_icmp_eq (tgt := 26) hx hb dX7_needRight_2 (by decide) (fun c_1 => ?_) (fun c_1 => ?_)
  · have hO : e_X7_needRight r = none := by rw [e_X7_needRight, if_pos c_1]
    exact w_vretX hC hW hS hO rfl (Nat.le_of_ble_eq_true rfl) (Nat.le_of_ble_eq_true rfl) dX7_needRight_26
  · refine lv_iload_n hx hb dX7_needRight_5 rfl (lv_at hl 0 rfl) ?_
    refine lv_iconst (v := 2) hx hb dX7_needRight_6 (by decide) ?_
    refine lv_icmp_eq (tgt := 26) hx hb dX7_needRight_7 (by decide) (fun c_2 => ?_) (fun c_2 => ?_)
    · have hO : e_X7_needRight r = none := by rw [e_X7_needRight, if_neg c_1, if_pos c_2]
      exact w_vretX hC hW hS hO rfl (Nat.le_of_ble_eq_true rfl) (Nat.le_of_ble_eq_true rfl) dX7_needRight_26
    · refine lv_iload_n hx hb dX7_needRight_10 rfl (lv_at hl 0 rfl) ?_
      refine lv_iconst (v := 4) hx hb dX7_needRight_11 (by decide) ?_
      refine lv_icmp_eq (tgt := 26) hx hb dX7_needRight_12 (by decide) (fun c_3 => ?_) (fun c_3 => ?_)
      · have hO : e_X7_needRight r = none := by rw [e_X7_needRight, if_neg c_1, if_neg c_2, if_pos c_3]
        exact w_vretX hC hW hS hO rfl (Nat.le_of_ble_eq_true rfl) (Nat.le_of_ble_eq_true rfl) dX7_needRight_26
      · have hO : e_X7_needRight r = some "java/lang/IllegalArgumentException" := by rw [e_X7_needRight, if_neg c_1, if_neg c_2, if_neg c_3]
        exact w_throw hl9 hC hW hS hout hl th_322_329_326 hO dX7_needRight_15 dX7_needRight_18 dX7_needRight_19 dX7_needRight_22 dX7_needRight_25 (Nat.le_of_ble_eq_true rfl) (Nat.le_of_ble_eq_true rfl) (Nat.le_of_ble_eq_true rfl) (Nat.le_of_ble_eq_true rfl) (Nat.le_of_ble_eq_true rfl) (Nat.le_of_ble_eq_true rfl)

def e_X7_needPower (b : Int32) : Option String :=
  if b = 0 then some "java/lang/UnsupportedOperationException"
  else none
set_option maxHeartbeats 4000000 in
set_option maxRecDepth 100000 in
theorem c_X7_needPower (l : Launch) (hl9 : l.stackTraces = false) (D : va_G) (ca : Nat → ClassId) (base : Nat) (ad : Adr) (σ : Sg) (b : Int32)  : Mx l yX7_needPower cX7_needPower 1 none { frames := 6, cells := 1, slots := 6, locals := 100 } D ca base ad ρm Lm [.int b] σ (e_X7_needPower b) none σ := by
  refine w_ofX (by decide) (Nat.le_of_ble_eq_true rfl) rfl ?_
  intro p e s m args below meth c hC hW hS hout ls hl
  have hx := hC.1
  have hb := hC.2.1
  refine lv_iload_n hx hb dX7_needPower_0 rfl (lv_at hl 0 rfl) ?_
  refine lv_if_ne (tgt := 15) hx hb dX7_needPower_1 (by decide) (fun c_1 => ?_) (fun c_1 => ?_)
  · have hO : e_X7_needPower b = none := by rw [e_X7_needPower, if_neg c_1]
    exact w_vretX hC hW hS hO rfl (Nat.le_of_ble_eq_true rfl) (Nat.le_of_ble_eq_true rfl) dX7_needPower_15
  · have hO : e_X7_needPower b = some "java/lang/UnsupportedOperationException" := by rw [e_X7_needPower, if_pos c_1]
    exact w_throw hl9 hC hW hS hout hl th_331_333_335 hO dX7_needPower_4 dX7_needPower_7 dX7_needPower_8 dX7_needPower_11 dX7_needPower_14 (Nat.le_of_ble_eq_true rfl) (Nat.le_of_ble_eq_true rfl) (Nat.le_of_ble_eq_true rfl) (Nat.le_of_ble_eq_true rfl) (Nat.le_of_ble_eq_true rfl) (Nat.le_of_ble_eq_true rfl)

def e_X7_needRoom (x : Int32) (y : Int32) : Option String :=
  if x < y then none
  else some "java/lang/IllegalStateException"
set_option maxHeartbeats 4000000 in
set_option maxRecDepth 100000 in
theorem c_X7_needRoom (l : Launch) (hl9 : l.stackTraces = false) (D : va_G) (ca : Nat → ClassId) (base : Nat) (ad : Adr) (σ : Sg) (x : Int32) (y : Int32)  : Mx l yX7_needRoom cX7_needRoom 2 none { frames := 6, cells := 1, slots := 6, locals := 100 } D ca base ad ρm Lm [.int x, .int y] σ (e_X7_needRoom x y) none σ := by
  refine w_ofX (by decide) (Nat.le_of_ble_eq_true rfl) rfl ?_
  intro p e s m args below meth c hC hW hS hout ls hl
  have hx := hC.1
  have hb := hC.2.1
  refine lv_iload_n hx hb dX7_needRoom_0 rfl (lv_at hl 0 rfl) ?_
  refine lv_iload_n hx hb dX7_needRoom_1 rfl (lv_at hl 1 rfl) ?_
  refine lv_icmp_lt (tgt := 16) hx hb dX7_needRoom_2 (by decide) (fun c_1 => ?_) (fun c_1 => ?_)
  · have hO : e_X7_needRoom x y = none := by rw [e_X7_needRoom, if_pos c_1]
    exact w_vretX hC hW hS hO rfl (Nat.le_of_ble_eq_true rfl) (Nat.le_of_ble_eq_true rfl) dX7_needRoom_16
  · have hO : e_X7_needRoom x y = some "java/lang/IllegalStateException" := by rw [e_X7_needRoom, if_neg c_1]
    exact w_throw hl9 hC hW hS hout hl th_84_336_88 hO dX7_needRoom_5 dX7_needRoom_8 dX7_needRoom_9 dX7_needRoom_12 dX7_needRoom_15 (Nat.le_of_ble_eq_true rfl) (Nat.le_of_ble_eq_true rfl) (Nat.le_of_ble_eq_true rfl) (Nat.le_of_ble_eq_true rfl) (Nat.le_of_ble_eq_true rfl) (Nat.le_of_ble_eq_true rfl)
