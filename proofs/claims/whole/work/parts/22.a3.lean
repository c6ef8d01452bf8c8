def f_X5_oneIfIn (a : Int32) (r : Int32) : Int32 :=
  if (a &&& r) = 0 then 0
  else 1
set_option maxHeartbeats 4000000 in
set_option maxRecDepth 100000 in
theorem c_X5_oneIfIn (l : Launch) (hl9 : l.stackTraces = false) (D : va_G) (ca : Nat → ClassId) (base : Nat) (ad : Adr) (σ : Sg) (a : Int32) (r : Int32)  : Mt l yX5_oneIfIn cX5_oneIfIn 2 (some .int) { frames := 0, cells := 0, slots := 0, locals := 0 } D ca base ad ρm Lm [.int a, .int r] σ (some (.int (f_X5_oneIfIn a r))) σ := by
  refine w_ofW (by decide) (Nat.le_of_ble_eq_true rfl) rfl ?_
  intro p e s m args below meth c hC hW hS ls hl hin
  have hx := hC.1
  have hb := hC.2.1
  refine lv_iload_n hx hb dX5_oneIfIn_0 rfl (lv_at hl 0 rfl) ?_
  refine lv_iload_n hx hb dX5_oneIfIn_1 rfl (lv_at hl 1 rfl) ?_
  refine lv_iand hx hb dX5_oneIfIn_2 ?_
  refine lv_if_ne (tgt := 10) hx hb dX5_oneIfIn_3 (by decide) (fun c_1 => ?_) (fun c_1 => ?_)
  · refine lv_iconst (v := 1) hx hb dX5_oneIfIn_10 (by decide) ?_
    have hO : f_X5_oneIfIn a r = 1 := by rw [f_X5_oneIfIn, if_neg c_1]
    exact w_iretP hC hW hS hO (Nat.le_of_ble_eq_true rfl) (Nat.le_of_ble_eq_true rfl) dX5_oneIfIn_11
  · refine lv_iconst (v := 0) hx hb dX5_oneIfIn_6 (by decide) ?_
    refine lv_goto (tgt := 11) hx hb dX5_oneIfIn_7 (by decide) ?_
    have hO : f_X5_oneIfIn a r = 0 := by rw [f_X5_oneIfIn, if_pos c_1]
    exact w_iretP hC hW hS hO (Nat.le_of_ble_eq_true rfl) (Nat.le_of_ble_eq_true rfl) dX5_oneIfIn_11

def f_X5_rightsOf (i : Nat) (x : Int32) (σ : Sg) : Int32 :=
  if x < 0 then (-1)
  else if x < 12 then σ 20 i x.toNatClampNeg
  else (-1)
set_option maxHeartbeats 4000000 in
set_option maxRecDepth 100000 in
theorem c_X5_rightsOf (l : Launch) (hl9 : l.stackTraces = false) (D : va_G) (ca : Nat → ClassId) (base : Nat) (ad : Adr) (σ : Sg) (i : Nat) (x : Int32) (hi : i < 13) : Mt l yX5_rightsOf cX5_rightsOf 2 (some .int) { frames := 0, cells := 0, slots := 0, locals := 0 } D ca base ad ρm Lm [.ref (ad 5 i), .int x] σ (some (.int (f_X5_rightsOf i x σ))) σ := by
  refine w_ofW (by decide) (Nat.le_of_ble_eq_true rfl) rfl ?_
  intro p e s m args below meth c hC hW hS ls hl hin
  have hx := hC.1
  have hb := hC.2.1
  refine lv_iload_n hx hb dX5_rightsOf_0 rfl (lv_at hl 1 rfl) ?_
  refine lv_if_lt (tgt := 10) hx hb dX5_rightsOf_1 (by decide) (fun c_1 => ?_) (fun c_1 => ?_)
  · refine lv_iconst (v := (-1)) hx hb dX5_rightsOf_10 (by decide) ?_
    refine lv_goto (tgt := 20) hx hb dX5_rightsOf_11 (by decide) ?_
    have hO : f_X5_rightsOf i x σ = (-1) := by rw [f_X5_rightsOf, if_pos c_1]
    exact w_iretP hC hW hS hO (Nat.le_of_ble_eq_true rfl) (Nat.le_of_ble_eq_true rfl) dX5_rightsOf_20
  · refine lv_iload_n hx hb dX5_rightsOf_4 rfl (lv_at hl 1 rfl) ?_
    refine lv_bipush (v := 12) hx hb dX5_rightsOf_5 (by decide) ?_
    refine lv_icmp_lt (tgt := 14) hx hb dX5_rightsOf_7 (by decide) (fun c_2 => ?_) (fun c_2 => ?_)
    · refine lv_aload_n hx hb dX5_rightsOf_14 rfl (lv_at hl 0 rfl) ?_
      refine gf_X5_15 hC hW (mm_5 hi) rfl dX5_rightsOf_15 ?_
      refine lv_iload_n hx hb dX5_rightsOf_18 rfl (lv_at hl 1 rfl) ?_
      refine w_iald hC hW (mm_20 hi) (n := 12) rfl (by first | assumption | exact vp_in_c (y := 12) (by decide) (by decide) (by assumption) (by assumption) | exact vp_in_d (y := 12) (by decide) (by decide) (by assumption) (by assumption)) dX5_rightsOf_19 ?_
      have hO : f_X5_rightsOf i x σ = σ 20 i x.toNatClampNeg := by rw [f_X5_rightsOf, if_neg c_1, if_pos c_2]
      exact w_iretP hC hW hS hO (Nat.le_of_ble_eq_true rfl) (Nat.le_of_ble_eq_true rfl) dX5_rightsOf_20
    · refine lv_iconst (v := (-1)) hx hb dX5_rightsOf_10 (by decide) ?_
      refine lv_goto (tgt := 20) hx hb dX5_rightsOf_11 (by decide) ?_
      have hO : f_X5_rightsOf i x σ = (-1) := by rw [f_X5_rightsOf, if_neg c_1, if_neg c_2]
      exact w_iretP hC hW hS hO (Nat.le_of_ble_eq_true rfl) (Nat.le_of_ble_eq_true rfl) dX5_rightsOf_20

def s_X5_putEntry (i : Nat) (x : Int32) (r : Int32) (d : Int32) (σ : Sg) : Sg :=
  if x < 0 then σ
  else if x < 12 then (if r = (-1) then (if (σ 20 i x.toNatClampNeg) = (-1) then (if d = 0 then us (us (us σ 5 i 7 ((σ 5 i 7) + (0 : Int32))) 20 i x.toNatClampNeg r) 5 i 8 ((σ 5 i 8) &&& (((1 : Int32) <<< (x &&& 31)) ^^^ (-1 : Int32)))
        else if r = (-1) then us (us (us σ 5 i 7 ((σ 5 i 7) + (0 : Int32))) 20 i x.toNatClampNeg r) 5 i 8 ((σ 5 i 8) &&& (((1 : Int32) <<< (x &&& 31)) ^^^ (-1 : Int32)))
        else us (us (us (us σ 5 i 7 ((σ 5 i 7) + (0 : Int32))) 20 i x.toNatClampNeg r) 5 i 8 ((σ 5 i 8) &&& (((1 : Int32) <<< (x &&& 31)) ^^^ (-1 : Int32)))) 5 i 8 (((σ 5 i 8) &&& (((1 : Int32) <<< (x &&& 31)) ^^^ (-1 : Int32))) ||| ((1 : Int32) <<< (x &&& 31))))
      else if d = 0 then us (us (us σ 5 i 7 ((σ 5 i 7) + (-1 : Int32))) 20 i x.toNatClampNeg r) 5 i 8 ((σ 5 i 8) &&& (((1 : Int32) <<< (x &&& 31)) ^^^ (-1 : Int32)))
      else if r = (-1) then us (us (us σ 5 i 7 ((σ 5 i 7) + (-1 : Int32))) 20 i x.toNatClampNeg r) 5 i 8 ((σ 5 i 8) &&& (((1 : Int32) <<< (x &&& 31)) ^^^ (-1 : Int32)))
      else us (us (us (us σ 5 i 7 ((σ 5 i 7) + (-1 : Int32))) 20 i x.toNatClampNeg r) 5 i 8 ((σ 5 i 8) &&& (((1 : Int32) <<< (x &&& 31)) ^^^ (-1 : Int32)))) 5 i 8 (((σ 5 i 8) &&& (((1 : Int32) <<< (x &&& 31)) ^^^ (-1 : Int32))) ||| ((1 : Int32) <<< (x &&& 31))))
    else if (σ 20 i x.toNatClampNeg) = (-1) then (if d = 0 then us (us (us σ 5 i 7 ((σ 5 i 7) + (1 : Int32))) 20 i x.toNatClampNeg r) 5 i 8 ((σ 5 i 8) &&& (((1 : Int32) <<< (x &&& 31)) ^^^ (-1 : Int32)))
      else if r = (-1) then us (us (us σ 5 i 7 ((σ 5 i 7) + (1 : Int32))) 20 i x.toNatClampNeg r) 5 i 8 ((σ 5 i 8) &&& (((1 : Int32) <<< (x &&& 31)) ^^^ (-1 : Int32)))
      else us (us (us (us σ 5 i 7 ((σ 5 i 7) + (1 : Int32))) 20 i x.toNatClampNeg r) 5 i 8 ((σ 5 i 8) &&& (((1 : Int32) <<< (x &&& 31)) ^^^ (-1 : Int32)))) 5 i 8 (((σ 5 i 8) &&& (((1 : Int32) <<< (x &&& 31)) ^^^ (-1 : Int32))) ||| ((1 : Int32) <<< (x &&& 31))))
    else if d = 0 then us (us (us σ 5 i 7 ((σ 5 i 7) + (0 : Int32))) 20 i x.toNatClampNeg r) 5 i 8 ((σ 5 i 8) &&& (((1 : Int32) <<< (x &&& 31)) ^^^ (-1 : Int32)))
    else if r = (-1) then us (us (us σ 5 i 7 ((σ 5 i 7) + (0 : Int32))) 20 i x.toNatClampNeg r) 5 i 8 ((σ 5 i 8) &&& (((1 : Int32) <<< (x &&& 31)) ^^^ (-1 : Int32)))
    else us (us (us (us σ 5 i 7 ((σ 5 i 7) + (0 : Int32))) 20 i x.toNatClampNeg r) 5 i 8 ((σ 5 i 8) &&& (((1 : Int32) <<< (x &&& 31)) ^^^ (-1 : Int32)))) 5 i 8 (((σ 5 i 8) &&& (((1 : Int32) <<< (x &&& 31)) ^^^ (-1 : Int32))) ||| ((1 : Int32) <<< (x &&& 31))))
  else σ
set_option maxHeartbeats 4000000 in
set_option maxRecDepth 100000 in
theorem c_X5_putEntry (l : Launch) (hl9 : l.stackTraces = false) (D : va_G) (ca : Nat → ClassId) (base : Nat) (ad : Adr) (σ : Sg) (i : Nat) (x : Int32) (r : Int32) (d : Int32) (hi : i < 13) : Mt l yX5_putEntry cX5_putEntry 4 none { frames := 0, cells := 0, slots := 0, locals := 0 } D ca base ad ρm Lm [.ref (ad 5 i), .int x, .int r, .int d] σ none (s_X5_putEntry i x r d σ) := by
  refine w_ofW (by decide) (Nat.le_of_ble_eq_true rfl) rfl ?_
  intro p e s m args below meth c hC hW hS ls hl hin
  have hx := hC.1
  have hb := hC.2.1
  refine lv_iload_n hx hb dX5_putEntry_0 rfl (lv_at hl 1 rfl) ?_
  refine lv_if_lt (tgt := 10) hx hb dX5_putEntry_1 (by decide) (fun c_1 => ?_) (fun c_1 => ?_)
  · have hO : s_X5_putEntry i x r d σ = σ := by rw [s_X5_putEntry, if_pos c_1]
    exact w_vretV hC hW hS hO (Nat.le_of_ble_eq_true rfl) (Nat.le_of_ble_eq_true rfl) dX5_putEntry_10
  · refine lv_iload_n hx hb dX5_putEntry_4 rfl (lv_at hl 1 rfl) ?_
    refine lv_bipush (v := 12) hx hb dX5_putEntry_5 (by decide) ?_
    refine lv_icmp_lt (tgt := 11) hx hb dX5_putEntry_7 (by decide) (fun c_2 => ?_) (fun c_2 => ?_)
    · refine lv_aload_n hx hb dX5_putEntry_11 rfl (lv_at hl 0 rfl) ?_
      refine lv_dup hx hb dX5_putEntry_12 rfl ?_
      refine gf_X5_19 hC hW (mm_5 hi) dX5_putEntry_13 ?_
      refine lv_iload_n hx hb dX5_putEntry_16 rfl (lv_at hl 2 rfl) ?_
      refine lv_iconst (v := (-1)) hx hb dX5_putEntry_17 (by decide) ?_
      refine lv_icmp_ne (tgt := 25) hx hb dX5_putEntry_18 (by decide) (fun c_3 => ?_) (fun c_3 => ?_)
      · refine lv_iconst (v := 1) hx hb dX5_putEntry_25 (by decide) ?_
        refine lv_aload_n hx hb dX5_putEntry_26 rfl (lv_at hl 0 rfl) ?_
        refine gf_X5_15 hC hW (mm_5 hi) rfl dX5_putEntry_27 ?_
        refine lv_iload_n hx hb dX5_putEntry_30 rfl (lv_at hl 1 rfl) ?_
        refine w_iald hC hW (mm_20 hi) (n := 12) rfl (by first | assumption | exact vp_in_c (y := 12) (by decide) (by decide) (by assumption) (by assumption) | exact vp_in_d (y := 12) (by decide) (by decide) (by assumption) (by assumption)) dX5_putEntry_31 ?_
        refine lv_iconst (v := (-1)) hx hb dX5_putEntry_32 (by decide) ?_
        refine lv_icmp_ne (tgt := 40) hx hb dX5_putEntry_33 (by decide) (fun c_4 => ?_) (fun c_4 => ?_)
        · refine lv_iconst (v := 1) hx hb dX5_putEntry_40 (by decide) ?_
          refine lv_isub hx hb dX5_putEntry_41 ?_
          refine lv_eqi (y := 0) (by decide) ?_
          refine lv_iadd hx hb dX5_putEntry_42 ?_
          refine pf_X5_19 hC hW (mm_5 hi) hS dX5_putEntry_43 (fun H locs hW hS => ?_)
          refine lv_aload_n hx hb dX5_putEntry_46 rfl (lv_at hl 0 rfl) ?_
          refine gf_X5_15 hC hW (mm_5 hi) rfl dX5_putEntry_47 ?_
          refine lv_iload_n hx hb dX5_putEntry_50 rfl (lv_at hl 1 rfl) ?_
          refine lv_iload_n hx hb dX5_putEntry_51 rfl (lv_at hl 2 rfl) ?_
          refine w_iast hC hW hS (mm_20 hi) (n := 12) (fun _ => rfl) (by first | assumption | exact vp_in_c (y := 12) (by decide) (by decide) (by assumption) (by assumption) | exact vp_in_d (y := 12) (by decide) (by decide) (by assumption) (by assumption)) dX5_putEntry_52 (fun H locs hW hS => ?_)
          refine lv_aload_n hx hb dX5_putEntry_53 rfl (lv_at hl 0 rfl) ?_
          refine lv_dup hx hb dX5_putEntry_54 rfl ?_
          refine gf_X5_22 hC hW (mm_5 hi) dX5_putEntry_55 ?_
          refine lv_eqi (y := σ 5 i 8) (by rw [us_k (by decide), us_j (by decide)]) ?_
          refine lv_iconst (v := 1) hx hb dX5_putEntry_58 (by decide) ?_
          refine lv_iload_n hx hb dX5_putEntry_59 rfl (lv_at hl 1 rfl) ?_
          refine lv_ishl hx hb dX5_putEntry_60 ?_
          refine lv_iconst (v := (-1)) hx hb dX5_putEntry_61 (by decide) ?_
          refine lv_ixor hx hb dX5_putEntry_62 ?_
          refine lv_iand hx hb dX5_putEntry_63 ?_
          refine pf_X5_22 hC hW (mm_5 hi) hS dX5_putEntry_64 (fun H locs hW hS => ?_)
          refine lv_iload_n hx hb dX5_putEntry_67 rfl (lv_at hl 3 rfl) ?_
          refine lv_if_eq (tgt := 88) hx hb dX5_putEntry_68 (by decide) (fun c_5 => ?_) (fun c_5 => ?_)
          · have hO : s_X5_putEntry i x r d σ = us (us (us σ 5 i 7 ((σ 5 i 7) + (0 : Int32))) 20 i x.toNatClampNeg r) 5 i 8 ((σ 5 i 8) &&& (((1 : Int32) <<< (x &&& 31)) ^^^ (-1 : Int32))) := by rw [s_X5_putEntry, if_neg c_1, if_pos c_2, if_neg c_3, if_neg c_4, if_pos c_5]
            exact w_vretV hC hW hS hO (Nat.le_of_ble_eq_true rfl) (Nat.le_of_ble_eq_true rfl) dX5_putEntry_88
          · refine lv_iload_n hx hb dX5_putEntry_71 rfl (lv_at hl 2 rfl) ?_
            refine lv_iconst (v := (-1)) hx hb dX5_putEntry_72 (by decide) ?_
            refine lv_icmp_eq (tgt := 88) hx hb dX5_putEntry_73 (by decide) (fun c_6 => ?_) (fun c_6 => ?_)
            · have hO : s_X5_putEntry i x r d σ = us (us (us σ 5 i 7 ((σ 5 i 7) + (0 : Int32))) 20 i x.toNatClampNeg r) 5 i 8 ((σ 5 i 8) &&& (((1 : Int32) <<< (x &&& 31)) ^^^ (-1 : Int32))) := by rw [s_X5_putEntry, if_neg c_1, if_pos c_2, if_neg c_3, if_neg c_4, if_neg c_5, if_pos c_6]
              exact w_vretV hC hW hS hO (Nat.le_of_ble_eq_true rfl) (Nat.le_of_ble_eq_true rfl) dX5_putEntry_88
            · refine lv_aload_n hx hb dX5_putEntry_76 rfl (lv_at hl 0 rfl) ?_
              refine lv_dup hx hb dX5_putEntry_77 rfl ?_
              refine gf_X5_22 hC hW (mm_5 hi) dX5_putEntry_78 ?_
              refine lv_eqi (y := (σ 5 i 8) &&& (((1 : Int32) <<< (x &&& 31)) ^^^ (-1 : Int32))) (by rw [us_h]) ?_
              refine lv_iconst (v := 1) hx hb dX5_putEntry_81 (by decide) ?_
              refine lv_iload_n hx hb dX5_putEntry_82 rfl (lv_at hl 1 rfl) ?_
              refine lv_ishl hx hb dX5_putEntry_83 ?_
              refine lv_ior hx hb dX5_putEntry_84 ?_
              refine pf_X5_22 hC hW (mm_5 hi) hS dX5_putEntry_85 (fun H locs hW hS => ?_)
              have hO : s_X5_putEntry i x r d σ = us (us (us (us σ 5 i 7 ((σ 5 i 7) + (0 : Int32))) 20 i x.toNatClampNeg r) 5 i 8 ((σ 5 i 8) &&& (((1 : Int32) <<< (x &&& 31)) ^^^ (-1 : Int32)))) 5 i 8 (((σ 5 i 8) &&& (((1 : Int32) <<< (x &&& 31)) ^^^ (-1 : Int32))) ||| ((1 : Int32) <<< (x &&& 31))) := by rw [s_X5_putEntry, if_neg c_1, if_pos c_2, if_neg c_3, if_neg c_4, if_neg c_5, if_neg c_6]
              exact w_vretV hC hW hS hO (Nat.le_of_ble_eq_true rfl) (Nat.le_of_ble_eq_true rfl) dX5_putEntry_88
        · refine lv_iconst (v := 0) hx hb dX5_putEntry_36 (by decide) ?_
          refine lv_goto (tgt := 41) hx hb dX5_putEntry_37 (by decide) ?_
          refine lv_isub hx hb dX5_putEntry_41 ?_
          refine lv_eqi (y := 1) (by decide) ?_
          refine lv_iadd hx hb dX5_putEntry_42 ?_
          refine pf_X5_19 hC hW (mm_5 hi) hS dX5_putEntry_43 (fun H locs hW hS => ?_)
          refine lv_aload_n hx hb dX5_putEntry_46 rfl (lv_at hl 0 rfl) ?_
          refine gf_X5_15 hC hW (mm_5 hi) rfl dX5_putEntry_47 ?_
          refine lv_iload_n hx hb dX5_putEntry_50 rfl (lv_at hl 1 rfl) ?_
          refine lv_iload_n hx hb dX5_putEntry_51 rfl (lv_at hl 2 rfl) ?_
          refine w_iast hC hW hS (mm_20 hi) (n := 12) (fun _ => rfl) (by first | assumption | exact vp_in_c (y := 12) (by decide) (by decide) (by assumption) (by assumption) | exact vp_in_d (y := 12) (by decide) (by decide) (by assumption) (by assumption)) dX5_putEntry_52 (fun H locs hW hS => ?_)
          refine lv_aload_n hx hb dX5_putEntry_53 rfl (lv_at hl 0 rfl) ?_
          refine lv_dup hx hb dX5_putEntry_54 rfl ?_
          refine gf_X5_22 hC hW (mm_5 hi) dX5_putEntry_55 ?_
          refine lv_eqi (y := σ 5 i 8) (by rw [us_k (by decide), us_j (by decide)]) ?_
          refine lv_iconst (v := 1) hx hb dX5_putEntry_58 (by decide) ?_
          refine lv_iload_n hx hb dX5_putEntry_59 rfl (lv_at hl 1 rfl) ?_
          refine lv_ishl hx hb dX5_putEntry_60 ?_
          refine lv_iconst (v := (-1)) hx hb dX5_putEntry_61 (by decide) ?_
          refine lv_ixor hx hb dX5_putEntry_62 ?_
          refine lv_iand hx hb dX5_putEntry_63 ?_
          refine pf_X5_22 hC hW (mm_5 hi) hS dX5_putEntry_64 (fun H locs hW hS => ?_)
          refine lv_iload_n hx hb dX5_putEntry_67 rfl (lv_at hl 3 rfl) ?_
          refine lv_if_eq (tgt := 88) hx hb dX5_putEntry_68 (by decide) (fun c_7 => ?_) (fun c_7 => ?_)
          · have hO : s_X5_putEntry i x r d σ = us (us (us σ 5 i 7 ((σ 5 i 7) + (1 : Int32))) 20 i x.toNatClampNeg r) 5 i 8 ((σ 5 i 8) &&& (((1 : Int32) <<< (x &&& 31)) ^^^ (-1 : Int32))) := by rw [s_X5_putEntry, if_neg c_1, if_pos c_2, if_neg c_3, if_pos c_4, if_pos c_7]
            exact w_vretV hC hW hS hO (Nat.le_of_ble_eq_true rfl) (Nat.le_of_ble_eq_true rfl) dX5_putEntry_88
          · refine lv_iload_n hx hb dX5_putEntry_71 rfl (lv_at hl 2 rfl) ?_
            refine lv_iconst (v := (-1)) hx hb dX5_putEntry_72 (by decide) ?_
            refine lv_icmp_eq (tgt := 88) hx hb dX5_putEntry_73 (by decide) (fun c_8 => ?_) (fun c_8 => ?_)
            · have hO : s_X5_putEntry i x r d σ = us (us (us σ 5 i 7 ((σ 5 i 7) + (1 : Int32))) 20 i x.toNatClampNeg r) 5 i 8 ((σ 5 i 8) &&& (((1 : Int32) <<< (x &&& 31)) ^^^ (-1 : Int32))) := by rw [s_X5_putEntry, if_neg c_1, if_pos c_2, if_neg c_3, if_pos c_4, if_neg c_7, if_pos c_8]
              exact w_vretV hC hW hS hO (Nat.le_of_ble_eq_true rfl) (Nat.le_of_ble_eq_true rfl) dX5_putEntry_88
            · refine lv_aload_n hx hb dX5_putEntry_76 rfl (lv_at hl 0 rfl) ?_
              refine lv_dup hx hb dX5_putEntry_77 rfl ?_
              refine gf_X5_22 hC hW (mm_5 hi) dX5_putEntry_78 ?_
              refine lv_eqi (y := (σ 5 i 8) &&& (((1 : Int32) <<< (x &&& 31)) ^^^ (-1 : Int32))) (by rw [us_h]) ?_
              refine lv_iconst (v := 1) hx hb dX5_putEntry_81 (by decide) ?_
              refine lv_iload_n hx hb dX5_putEntry_82 rfl (lv_at hl 1 rfl) ?_
              refine lv_ishl hx hb dX5_putEntry_83 ?_
              refine lv_ior hx hb dX5_putEntry_84 ?_
              refine pf_X5_22 hC hW (mm_5 hi) hS dX5_putEntry_85 (fun H locs hW hS => ?_)
              have hO : s_X5_putEntry i x r d σ = us (us (us (us σ 5 i 7 ((σ 5 i 7) + (1 : Int32))) 20 i x.toNatClampNeg r) 5 i 8 ((σ 5 i 8) &&& (((1 : Int32) <<< (x &&& 31)) ^^^ (-1 : Int32)))) 5 i 8 (((σ 5 i 8) &&& (((1 : Int32) <<< (x &&& 31)) ^^^ (-1 : Int32))) ||| ((1 : Int32) <<< (x &&& 31))) := by rw [s_X5_putEntry, if_neg c_1, if_pos c_2, if_neg c_3, if_pos c_4, if_neg c_7, if_neg c_8]
              exact w_vretV hC hW hS hO (Nat.le_of_ble_eq_true rfl) (Nat.le_of_ble_eq_true rfl) dX5_putEntry_88
      · refine lv_iconst (v := 0) hx hb dX5_putEntry_21 (by decide) ?_
        refine lv_goto (tgt := 26) hx hb dX5_putEntry_22 (by decide) ?_
        refine lv_aload_n hx hb dX5_putEntry_26 rfl (lv_at hl 0 rfl) ?_
        refine gf_X5_15 hC hW (mm_5 hi) rfl dX5_putEntry_27 ?_
        refine lv_iload_n hx hb dX5_putEntry_30 rfl (lv_at hl 1 rfl) ?_
        refine w_iald hC hW (mm_20 hi) (n := 12) rfl (by first | assumption | exact vp_in_c (y := 12) (by decide) (by decide) (by assumption) (by assumption) | exact vp_in_d (y := 12) (by decide) (by decide) (by assumption) (by assumption)) dX5_putEntry_31 ?_
        refine lv_iconst (v := (-1)) hx hb dX5_putEntry_32 (by decide) ?_
        refine lv_icmp_ne (tgt := 40) hx hb dX5_putEntry_33 (by decide) (fun c_9 => ?_) (fun c_9 => ?_)
        · refine lv_iconst (v := 1) hx hb dX5_putEntry_40 (by decide) ?_
          refine lv_isub hx hb dX5_putEntry_41 ?_
          refine lv_eqi (y := (-1)) (by decide) ?_
          refine lv_iadd hx hb dX5_putEntry_42 ?_
          refine pf_X5_19 hC hW (mm_5 hi) hS dX5_putEntry_43 (fun H locs hW hS => ?_)
          refine lv_aload_n hx hb dX5_putEntry_46 rfl (lv_at hl 0 rfl) ?_
          refine gf_X5_15 hC hW (mm_5 hi) rfl dX5_putEntry_47 ?_
          refine lv_iload_n hx hb dX5_putEntry_50 rfl (lv_at hl 1 rfl) ?_
          refine lv_iload_n hx hb dX5_putEntry_51 rfl (lv_at hl 2 rfl) ?_
          refine w_iast hC hW hS (mm_20 hi) (n := 12) (fun _ => rfl) (by first | assumption | exact vp_in_c (y := 12) (by decide) (by decide) (by assumption) (by assumption) | exact vp_in_d (y := 12) (by decide) (by decide) (by assumption) (by assumption)) dX5_putEntry_52 (fun H locs hW hS => ?_)
          refine lv_aload_n hx hb dX5_putEntry_53 rfl (lv_at hl 0 rfl) ?_
          refine lv_dup hx hb dX5_putEntry_54 rfl ?_
          refine gf_X5_22 hC hW (mm_5 hi) dX5_putEntry_55 ?_
          refine lv_eqi (y := σ 5 i 8) (by rw [us_k (by decide), us_j (by decide)]) ?_
          refine lv_iconst (v := 1) hx hb dX5_putEntry_58 (by decide) ?_
          refine lv_iload_n hx hb dX5_putEntry_59 rfl (lv_at hl 1 rfl) ?_
          refine lv_ishl hx hb dX5_putEntry_60 ?_
          refine lv_iconst (v := (-1)) hx hb dX5_putEntry_61 (by decide) ?_
          refine lv_ixor hx hb dX5_putEntry_62 ?_
          refine lv_iand hx hb dX5_putEntry_63 ?_
          refine pf_X5_22 hC hW (mm_5 hi) hS dX5_putEntry_64 (fun H locs hW hS => ?_)
          refine lv_iload_n hx hb dX5_putEntry_67 rfl (lv_at hl 3 rfl) ?_
          refine lv_if_eq (tgt := 88) hx hb dX5_putEntry_68 (by decide) (fun c_10 => ?_) (fun c_10 => ?_)
          · have hO : s_X5_putEntry i x r d σ = us (us (us σ 5 i 7 ((σ 5 i 7) + (-1 : Int32))) 20 i x.toNatClampNeg r) 5 i 8 ((σ 5 i 8) &&& (((1 : Int32) <<< (x &&& 31)) ^^^ (-1 : Int32))) := by rw [s_X5_putEntry, if_neg c_1, if_pos c_2, if_pos c_3, if_neg c_9, if_pos c_10]
            exact w_vretV hC hW hS hO (Nat.le_of_ble_eq_true rfl) (Nat.le_of_ble_eq_true rfl) dX5_putEntry_88
          · refine lv_iload_n hx hb dX5_putEntry_71 rfl (lv_at hl 2 rfl) ?_
            refine lv_iconst (v := (-1)) hx hb dX5_putEntry_72 (by decide) ?_
            refine lv_icmp_eq (tgt := 88) hx hb dX5_putEntry_73 (by decide) (fun c_11 => ?_) (fun c_11 => ?_)
            · have hO : s_X5_putEntry i x r d σ = us (us (us σ 5 i 7 ((σ 5 i 7) + (-1 : Int32))) 20 i x.toNatClampNeg r) 5 i 8 ((σ 5 i 8) &&& (((1 : Int32) <<< (x &&& 31)) ^^^ (-1 : Int32))) := by rw [s_X5_putEntry, if_neg c_1, if_pos c_2, if_pos c_3, if_neg c_9, if_neg c_10, if_pos c_11]
              exact w_vretV hC hW hS hO (Nat.le_of_ble_eq_true rfl) (Nat.le_of_ble_eq_true rfl) dX5_putEntry_88
            · refine lv_aload_n hx hb dX5_putEntry_76 rfl (lv_at hl 0 rfl) ?_
              refine lv_dup hx hb dX5_putEntry_77 rfl ?_
              refine gf_X5_22 hC hW (mm_5 hi) dX5_putEntry_78 ?_
              refine lv_eqi (y := (σ 5 i 8) &&& (((1 : Int32) <<< (x &&& 31)) ^^^ (-1 : Int32))) (by rw [us_h]) ?_
              refine lv_iconst (v := 1) hx hb dX5_putEntry_81 (by decide) ?_
              refine lv_iload_n hx hb dX5_putEntry_82 rfl (lv_at hl 1 rfl) ?_
              refine lv_ishl hx hb dX5_putEntry_83 ?_
              refine lv_ior hx hb dX5_putEntry_84 ?_
              refine pf_X5_22 hC hW (mm_5 hi) hS dX5_putEntry_85 (fun H locs hW hS => ?_)
              have hO : s_X5_putEntry i x r d σ = us (us (us (us σ 5 i 7 ((σ 5 i 7) + (-1 : Int32))) 20 i x.toNatClampNeg r) 5 i 8 ((σ 5 i 8) &&& (((1 : Int32) <<< (x &&& 31)) ^^^ (-1 : Int32)))) 5 i 8 (((σ 5 i 8) &&& (((1 : Int32) <<< (x &&& 31)) ^^^ (-1 : Int32))) ||| ((1 : Int32) <<< (x &&& 31))) := by rw [s_X5_putEntry, if_neg c_1, if_pos c_2, if_pos c_3, if_neg c_9, if_neg c_10, if_neg c_11]
              exact w_vretV hC hW hS hO (Nat.le_of_ble_eq_true rfl) (Nat.le_of_ble_eq_true rfl) dX5_putEntry_88
        · refine lv_iconst (v := 0) hx hb dX5_putEntry_36 (by decide) ?_
          refine lv_goto (tgt := 41) hx hb dX5_putEntry_37 (by decide) ?_
          refine lv_isub hx hb dX5_putEntry_41 ?_
          refine lv_eqi (y := 0) (by decide) ?_
          refine lv_iadd hx hb dX5_putEntry_42 ?_
          refine pf_X5_19 hC hW (mm_5 hi) hS dX5_putEntry_43 (fun H locs hW hS => ?_)
          refine lv_aload_n hx hb dX5_putEntry_46 rfl (lv_at hl 0 rfl) ?_
          refine gf_X5_15 hC hW (mm_5 hi) rfl dX5_putEntry_47 ?_
          refine lv_iload_n hx hb dX5_putEntry_50 rfl (lv_at hl 1 rfl) ?_
          refine lv_iload_n hx hb dX5_putEntry_51 rfl (lv_at hl 2 rfl) ?_
          refine w_iast hC hW hS (mm_20 hi) (n := 12) (fun _ => rfl) (by first | assumption | exact vp_in_c (y := 12) (by decide) (by decide) (by assumption) (by assumption) | exact vp_in_d (y := 12) (by decide) (by decide) (by assumption) (by assumption)) dX5_putEntry_52 (fun H locs hW hS => ?_)
          refine lv_aload_n hx hb dX5_putEntry_53 rfl (lv_at hl 0 rfl) ?_
          refine lv_dup hx hb dX5_putEntry_54 rfl ?_
          refine gf_X5_22 hC hW (mm_5 hi) dX5_putEntry_55 ?_
          refine lv_eqi (y := σ 5 i 8) (by rw [us_k (by decide), us_j (by decide)]) ?_
          refine lv_iconst (v := 1) hx hb dX5_putEntry_58 (by decide) ?_
          refine lv_iload_n hx hb dX5_putEntry_59 rfl (lv_at hl 1 rfl) ?_
          refine lv_ishl hx hb dX5_putEntry_60 ?_
          refine lv_iconst (v := (-1)) hx hb dX5_putEntry_61 (by decide) ?_
          refine lv_ixor hx hb dX5_putEntry_62 ?_
          refine lv_iand hx hb dX5_putEntry_63 ?_
          refine pf_X5_22 hC hW (mm_5 hi) hS dX5_putEntry_64 (fun H locs hW hS => ?_)
          refine lv_iload_n hx hb dX5_putEntry_67 rfl (lv_at hl 3 rfl) ?_
          refine lv_if_eq (tgt := 88) hx hb dX5_putEntry_68 (by decide) (fun c_12 => ?_) (fun c_12 => ?_)
          · have hO : s_X5_putEntry i x r d σ = us (us (us σ 5 i 7 ((σ 5 i 7) + (0 : Int32))) 20 i x.toNatClampNeg r) 5 i 8 ((σ 5 i 8) &&& (((1 : Int32) <<< (x &&& 31)) ^^^ (-1 : Int32))) := by rw [s_X5_putEntry, if_neg c_1, if_pos c_2, if_pos c_3, if_pos c_9, if_pos c_12]
            exact w_vretV hC hW hS hO (Nat.le_of_ble_eq_true rfl) (Nat.le_of_ble_eq_true rfl) dX5_putEntry_88
          · refine lv_iload_n hx hb dX5_putEntry_71 rfl (lv_at hl 2 rfl) ?_
            refine lv_iconst (v := (-1)) hx hb dX5_putEntry_72 (by decide) ?_
            refine lv_icmp_eq (tgt := 88) hx hb dX5_putEntry_73 (by decide) (fun c_13 => ?_) (fun c_13 => ?_)
            · have hO : s_X5_putEntry i x r d σ = us (us (us σ 5 i 7 ((σ 5 i 7) + (0 : Int32))) 20 i x.toNatClampNeg r) 5 i 8 ((σ 5 i 8) &&& (((1 : Int32) <<< (x &&& 31)) ^^^ (-1 : Int32))) := by rw [s_X5_putEntry, if_neg c_1, if_pos c_2, if_pos c_3, if_pos c_9, if_neg c_12, if_pos c_13]
              exact w_vretV hC hW hS hO (Nat.le_of_ble_eq_true rfl) (Nat.le_of_ble_eq_true rfl) dX5_putEntry_88
            · refine lv_aload_n hx hb dX5_putEntry_76 rfl (lv_at hl 0 rfl) ?_
              refine lv_dup hx hb dX5_putEntry_77 rfl ?_
              refine gf_X5_22 hC hW (mm_5 hi) dX5_putEntry_78 ?_
              refine lv_eqi (y := (σ 5 i 8) &&& (((1 : Int32) <<< (x &&& 31)) ^^^ (-1 : Int32))) (by rw [us_h]) ?_
              refine lv_iconst (v := 1) hx hb dX5_putEntry_81 (by decide) ?_
              refine lv_iload_n hx hb dX5_putEntry_82 rfl (lv_at hl 1 rfl) ?_
              refine lv_ishl hx hb dX5_putEntry_83 ?_
              refine lv_ior hx hb dX5_putEntry_84 ?_
              refine pf_X5_22 hC hW (mm_5 hi) hS dX5_putEntry_85 (fun H locs hW hS => ?_)
              have hO : s_X5_putEntry i x r d σ = us (us (us (us σ 5 i 7 ((σ 5 i 7) + (0 : Int32))) 20 i x.toNatClampNeg r) 5 i 8 ((σ 5 i 8) &&& (((1 : Int32) <<< (x &&& 31)) ^^^ (-1 : Int32)))) 5 i 8 (((σ 5 i 8) &&& (((1 : Int32) <<< (x &&& 31)) ^^^ (-1 : Int32))) ||| ((1 : Int32) <<< (x &&& 31))) := by rw [s_X5_putEntry, if_neg c_1, if_pos c_2, if_pos c_3, if_pos c_9, if_neg c_12, if_neg c_13]
              exact w_vretV hC hW hS hO (Nat.le_of_ble_eq_true rfl) (Nat.le_of_ble_eq_true rfl) dX5_putEntry_88
    · have hO : s_X5_putEntry i x r d σ = σ := by rw [s_X5_putEntry, if_neg c_1, if_neg c_2]
      exact w_vretV hC hW hS hO (Nat.le_of_ble_eq_true rfl) (Nat.le_of_ble_eq_true rfl) dX5_putEntry_10
theorem fr_X5_putEntry {kk : Nat}  {i : Nat} {x : Int32} {r : Int32} {d : Int32} {σ : Sg} (h5 : kk ≠ 5) (h20 : kk ≠ 20) : (s_X5_putEntry i x r d σ) kk = σ kk := by
  rw [s_X5_putEntry]
  repeat' split
  all_goals (first | (simp only [us_kk, ne_eq, not_false_eq_true, h5, h20]; done) | with_reducible rfl | (simp only [us_kk, ne_eq, not_false_eq_true, h5, h20]; with_reducible rfl))

def s_X5_inherit_L2 (i : Nat) (o : Nat) : Nat → Nat → Sg → Sg
  | 0, _, σ2 => σ2
  | n2 + 1, k2, σ2 => if 12 ≤ (nI k2) then σ2
    else if (((σ2 5 o 8) >>> ((nI k2) &&& 31)) &&& (1 : Int32)) = 0 then s_X5_inherit_L2 i o n2 (k2 + 1) σ2
    else s_X5_inherit_L2 i o n2 (k2 + 1) (s_X5_putEntry i (nI k2) (σ2 20 o k2) 1 σ2)
def s_X5_inherit (i : Nat) (o : Nat) (σ : Sg) : Sg :=
  (s_X5_inherit_L2 i o 13 0 σ)
set_option maxHeartbeats 4000000 in
set_option maxRecDepth 100000 in
theorem c_X5_inherit (l : Launch) (hl9 : l.stackTraces = false) (D : va_G) (ca : Nat → ClassId) (base : Nat) (ad : Adr) (σ : Sg) (i : Nat) (o : Nat) (hi : i < 13) (ho : o < 13) : Mt l yX5_inherit cX5_inherit 3 none { frames := 1, cells := 0, slots := 0, locals := 23 } D ca base ad ρm Lm [.ref (ad 5 i), .ref (ad 5 o)] σ none (s_X5_inherit i o σ) := by
  refine w_ofW (by decide) (Nat.le_of_ble_eq_true rfl) rfl ?_
  intro p e s m args below meth c hC hW hS ls hl hin
  have hx := hC.1
  have hb := hC.2.1
  refine lv_iconst (v := 0) hx hb dX5_inherit_0 (by decide) ?_
  refine lv_istore_n (lv' := [(2, .int 0), (0, .ref (ad 5 i)), (1, .ref (ad 5 o))]) hx hb dX5_inherit_1 rfl hl (by decide) rfl (fun ls hl => ?_)
  have h_2 : ∀ (n2 k2 : Nat) (σ2 : Sg) (H : Heap) (locs : List Loc) (ls : Array Slot), 13 ≤ k2 + n2 → k2 ≤ 12 → Wd D ca (Ab base) ad ρm Lm σ2 H → va_S (Ab base) s.heap H locs → lv_has ls 3 [(2, .int (nI k2)), (0, .ref (ad 5 i)), (1, .ref (ad 5 o))] → s_X5_inherit i o σ = ((s_X5_inherit_L2 i o n2 k2 σ2)) → W p l e ({ frames := 1, cells := 0, slots := 0, locals := 23 } : Room) s m args below meth c H locs 0 0 (MQ below (Rt D ca base ad ρm Lm (s_X5_inherit i o σ) none) args s 0 0 (Ab base)) (F0 m 2 ls []) := by
    intro n2
    induction n2 with
    | zero =>
      intro k2 σ2 H locs ls hk1_2 hk2_2 hW hS hl hO
      exact absurd hk1_2 (by omega)
    | succ n2 ih_2 =>
      intro k2 σ2 H locs ls hk1_2 hk2_2 hW hS hl hO
      refine lv_iload_n hx hb dX5_inherit_2 rfl (lv_at hl 0 rfl) ?_
      refine lv_bipush (v := 12) hx hb dX5_inherit_3 (by decide) ?_
      refine lv_icmp_ge (tgt := 37) hx hb dX5_inherit_5 (by decide) (fun c_1 => ?_) (fun c_1 => ?_)
      · replace hl := lv_sub hl [1, 2] (l' := [(0, .ref (ad 5 i)), (1, .ref (ad 5 o))]) rfl
        have hO : s_X5_inherit i o σ = σ2 := by rw [hO, s_X5_inherit_L2, if_pos c_1]
        exact w_vretV hC hW hS hO (Nat.le_of_ble_eq_true rfl) (Nat.le_of_ble_eq_true rfl) dX5_inherit_37
      · have hi_c_1 : k2 < 12 := idx_lt c_1 (by decide) (by decide) (by omega)
        refine lv_aload_n hx hb dX5_inherit_8 rfl (lv_at hl 2 rfl) ?_
        refine gf_X5_22 hC hW (mm_5 ho) dX5_inherit_9 ?_
        refine lv_iload_n hx hb dX5_inherit_12 rfl (lv_at hl 0 rfl) ?_
        refine lv_ishr hx hb dX5_inherit_13 ?_
        refine lv_iconst (v := 1) hx hb dX5_inherit_14 (by decide) ?_
        refine lv_iand hx hb dX5_inherit_15 ?_
        refine lv_if_eq (tgt := 31) hx hb dX5_inherit_16 (by decide) (fun c_2 => ?_) (fun c_2 => ?_)
        · refine lv_iinc (v := nI (k2 + 1)) (lv' := [(2, .int (nI (k2 + 1))), (0, .ref (ad 5 i)), (1, .ref (ad 5 o))]) hx hb dX5_inherit_31 hl (k := 0) rfl (nI_1 _) (by decide) rfl (fun ls hl => ?_)
          refine lv_goto (tgt := 2) hx hb dX5_inherit_34 (by decide) ?_
          refine ih_2 (k2 + 1) σ2 _ _ _ (by omega) (by omega)  hW hS (lv_sub hl [0, 1, 2] rfl) ?_
          rw [hO, s_X5_inherit_L2, if_neg c_1, if_pos c_2]
        · refine lv_aload_n hx hb dX5_inherit_19 rfl (lv_at hl 1 rfl) ?_
          refine lv_iload_n hx hb dX5_inherit_20 rfl (lv_at hl 0 rfl) ?_
          refine lv_aload_n hx hb dX5_inherit_21 rfl (lv_at hl 2 rfl) ?_
          refine gf_X5_15 hC hW (mm_5 ho) rfl dX5_inherit_22 ?_
          refine lv_iload_n hx hb dX5_inherit_25 rfl (lv_at hl 0 rfl) ?_
          refine w_iald hC hW (mm_20 ho) (n := 12) rfl (vp_in_nI (by omega) (by omega)) dX5_inherit_26 ?_
          refine lv_eqi (y := σ2 20 o k2) (by rw [nI_clamp (by omega)]) ?_
          refine lv_iconst (v := 1) hx hb dX5_inherit_27 (by decide) ?_
          refine w_callV (As := [.int (nI k2), .int (σ2 20 o k2), .int 1]) (rest := []) (st2 := []) hC hW hS hl cv_X5_25 (mm_5 hi) (by decide) rfl (c_X5_putEntry l hl9 D ca base ad σ2 i (nI k2) (σ2 20 o k2) 1 hi) rfl rfl rfl ⟨Nat.le_of_ble_eq_true rfl, Nat.le_of_ble_eq_true rfl⟩ (Nat.le_of_ble_eq_true rfl) dX5_inherit_28 ⟨Nat.le_of_ble_eq_true rfl, Nat.le_of_ble_eq_true rfl⟩ (fun H locs hW hS => ?_)
          refine lv_iinc (v := nI (k2 + 1)) (lv' := [(2, .int (nI (k2 + 1))), (0, .ref (ad 5 i)), (1, .ref (ad 5 o))]) hx hb dX5_inherit_31 hl (k := 0) rfl (nI_1 _) (by decide) rfl (fun ls hl => ?_)
          refine lv_goto (tgt := 2) hx hb dX5_inherit_34 (by decide) ?_
          refine ih_2 (k2 + 1) (s_X5_putEntry i (nI k2) (σ2 20 o k2) 1 σ2) _ _ _ (by omega) (by omega)  hW hS (lv_sub hl [0, 1, 2] rfl) ?_
          rw [hO, s_X5_inherit_L2, if_neg c_1, if_neg c_2]
  refine h_2 13 0 σ _ _ _ (by omega) (by omega)  hW hS (lv_sub hl [0, 1, 2] rfl) ?_
  rw [s_X5_inherit]
theorem fr_s_X5_inherit_L2 {kk : Nat}  (i : Nat) (o : Nat) (h5 : kk ≠ 5) (h20 : kk ≠ 20) : ∀ (y0 : Nat) (y1 : Nat) (σ : Sg), (s_X5_inherit_L2 i o y0 y1 σ) kk = σ kk := by
  intro y0
  induction y0 with
  | zero => intros; rfl
  | succ n ih =>
    intros
    rw [s_X5_inherit_L2]
    repeat' split
    all_goals (first | (simp only [ih, us_kk, ne_eq, not_false_eq_true, h5, h20, fr_X5_putEntry]; done) | with_reducible rfl | (simp only [ih, us_kk, ne_eq, not_false_eq_true, h5, h20, fr_X5_putEntry]; with_reducible rfl))
theorem fr_X5_inherit {kk : Nat}  {i : Nat} {o : Nat} {σ : Sg} (h5 : kk ≠ 5) (h20 : kk ≠ 20) : (s_X5_inherit i o σ) kk = σ kk := by
  rw [s_X5_inherit]
  repeat' split
  all_goals (first | (simp only [us_kk, ne_eq, not_false_eq_true, h5, h20, fr_s_X5_inherit_L2, fr_X5_putEntry]; done) | with_reducible rfl | (simp only [us_kk, ne_eq, not_false_eq_true, h5, h20, fr_s_X5_inherit_L2, fr_X5_putEntry]; with_reducible rfl))

def s_X5_copyFrom_L74 (i : Nat) (o : Nat) : Nat → Nat → Sg → Sg
  | 0, _, σ74 => σ74
  | n74 + 1, k74, σ74 => if 12 ≤ (nI k74) then σ74
    else s_X5_copyFrom_L74 i o n74 (k74 + 1) (us σ74 20 i k74 (σ74 20 o k74))
def s_X5_copyFrom (i : Nat) (o : Nat) (σ : Sg) : Sg :=
  (s_X5_copyFrom_L74 i o 13 0 (us (us (us (us (us (us (us (us (us σ 5 i 0 (σ 5 o 0)) 5 i 1 (σ 5 o 1)) 5 i 2 (σ 5 o 2)) 5 i 3 (σ 5 o 3)) 5 i 4 (σ 5 o 4)) 5 i 5 (σ 5 o 5)) 5 i 6 (σ 5 o 6)) 5 i 7 (σ 5 o 7)) 5 i 8 (σ 5 o 8)))
set_option maxHeartbeats 4000000 in
set_option maxRecDepth 100000 in
theorem c_X5_copyFrom (l : Launch) (hl9 : l.stackTraces = false) (D : va_G) (ca : Nat → ClassId) (base : Nat) (ad : Adr) (σ : Sg) (i : Nat) (o : Nat) (hi : i < 13) (ho : o < 13) : Mt l yX5_copyFrom cX5_copyFrom 3 none { frames := 0, cells := 0, slots := 0, locals := 0 } D ca base ad ρm Lm [.ref (ad 5 i), .ref (ad 5 o)] σ none (s_X5_copyFrom i o σ) := by
  refine w_ofW (by decide) (Nat.le_of_ble_eq_true rfl) rfl ?_
  intro p e s m args below meth c hC hW hS ls hl hin
  have hx := hC.1
  have hb := hC.2.1
  refine lv_aload_n hx hb dX5_copyFrom_0 rfl (lv_at hl 0 rfl) ?_
  refine lv_aload_n hx hb dX5_copyFrom_1 rfl (lv_at hl 1 rfl) ?_
  refine gf_X5_29 hC hW (mm_5 ho) dX5_copyFrom_2 ?_
  refine pf_X5_29 hC hW (mm_5 hi) hS dX5_copyFrom_5 (fun H locs hW hS => ?_)
  refine lv_aload_n hx hb dX5_copyFrom_8 rfl (lv_at hl 0 rfl) ?_
  refine lv_aload_n hx hb dX5_copyFrom_9 rfl (lv_at hl 1 rfl) ?_
  refine gf_X5_32 hC hW (mm_5 ho) dX5_copyFrom_10 ?_
  refine lv_eqi (y := σ 5 o 1) (by rw [us_j (by decide)]) ?_
  refine pf_X5_32 hC hW (mm_5 hi) hS dX5_copyFrom_13 (fun H locs hW hS => ?_)
  refine lv_aload_n hx hb dX5_copyFrom_16 rfl (lv_at hl 0 rfl) ?_
  refine lv_aload_n hx hb dX5_copyFrom_17 rfl (lv_at hl 1 rfl) ?_
  refine gf_X5_35 hC hW (mm_5 ho) dX5_copyFrom_18 ?_
  refine lv_eqi (y := σ 5 o 2) (by rw [us_j (by decide), us_j (by decide)]) ?_
  refine pf_X5_35 hC hW (mm_5 hi) hS dX5_copyFrom_21 (fun H locs hW hS => ?_)
  refine lv_aload_n hx hb dX5_copyFrom_24 rfl (lv_at hl 0 rfl) ?_
  refine lv_aload_n hx hb dX5_copyFrom_25 rfl (lv_at hl 1 rfl) ?_
  refine gf_X5_38 hC hW (mm_5 ho) dX5_copyFrom_26 ?_
  refine lv_eqi (y := σ 5 o 3) (by rw [us_j (by decide), us_j (by decide), us_j (by decide)]) ?_
  refine pf_X5_38 hC hW (mm_5 hi) hS dX5_copyFrom_29 (fun H locs hW hS => ?_)
  refine lv_aload_n hx hb dX5_copyFrom_32 rfl (lv_at hl 0 rfl) ?_
  refine lv_aload_n hx hb dX5_copyFrom_33 rfl (lv_at hl 1 rfl) ?_
  refine gf_X5_41 hC hW (mm_5 ho) dX5_copyFrom_34 ?_
  refine lv_eqi (y := σ 5 o 4) (by rw [us_j (by decide), us_j (by decide), us_j (by decide), us_j (by decide)]) ?_
  refine pf_X5_41 hC hW (mm_5 hi) hS dX5_copyFrom_37 (fun H locs hW hS => ?_)
  refine lv_aload_n hx hb dX5_copyFrom_40 rfl (lv_at hl 0 rfl) ?_
  refine lv_aload_n hx hb dX5_copyFrom_41 rfl (lv_at hl 1 rfl) ?_
  refine gf_X5_44 hC hW (mm_5 ho) dX5_copyFrom_42 ?_
  refine lv_eqi (y := σ 5 o 5) (by rw [us_j (by decide), us_j (by decide), us_j (by decide), us_j (by decide), us_j (by decide)]) ?_
  refine pf_X5_44 hC hW (mm_5 hi) hS dX5_copyFrom_45 (fun H locs hW hS => ?_)
  refine lv_aload_n hx hb dX5_copyFrom_48 rfl (lv_at hl 0 rfl) ?_
  refine lv_aload_n hx hb dX5_copyFrom_49 rfl (lv_at hl 1 rfl) ?_
  refine gf_X5_9 hC hW (mm_5 ho) dX5_copyFrom_50 ?_
  refine lv_eqi (y := σ 5 o 6) (by rw [us_j (by decide), us_j (by decide), us_j (by decide), us_j (by decide), us_j (by decide), us_j (by decide)]) ?_
  refine pf_X5_9 hC hW (mm_5 hi) hS dX5_copyFrom_53 (fun H locs hW hS => ?_)
  refine lv_aload_n hx hb dX5_copyFrom_56 rfl (lv_at hl 0 rfl) ?_
  refine lv_aload_n hx hb dX5_copyFrom_57 rfl (lv_at hl 1 rfl) ?_
  refine gf_X5_19 hC hW (mm_5 ho) dX5_copyFrom_58 ?_
  refine lv_eqi (y := σ 5 o 7) (by rw [us_j (by decide), us_j (by decide), us_j (by decide), us_j (by decide), us_j (by decide), us_j (by decide), us_j (by decide)]) ?_
  refine pf_X5_19 hC hW (mm_5 hi) hS dX5_copyFrom_61 (fun H locs hW hS => ?_)
  refine lv_aload_n hx hb dX5_copyFrom_64 rfl (lv_at hl 0 rfl) ?_
  refine lv_aload_n hx hb dX5_copyFrom_65 rfl (lv_at hl 1 rfl) ?_
  refine gf_X5_22 hC hW (mm_5 ho) dX5_copyFrom_66 ?_
  refine lv_eqi (y := σ 5 o 8) (by rw [us_j (by decide), us_j (by decide), us_j (by decide), us_j (by decide), us_j (by decide), us_j (by decide), us_j (by decide), us_j (by decide)]) ?_
  refine pf_X5_22 hC hW (mm_5 hi) hS dX5_copyFrom_69 (fun H locs hW hS => ?_)
  refine lv_iconst (v := 0) hx hb dX5_copyFrom_72 (by decide) ?_
  refine lv_istore_n (lv' := [(2, .int 0), (0, .ref (ad 5 i)), (1, .ref (ad 5 o))]) hx hb dX5_copyFrom_73 rfl hl (by decide) rfl (fun ls hl => ?_)
  have h_74 : ∀ (n74 k74 : Nat) (σ74 : Sg) (H : Heap) (locs : List Loc) (ls : Array Slot), 13 ≤ k74 + n74 → k74 ≤ 12 → Wd D ca (Ab base) ad ρm Lm σ74 H → va_S (Ab base) s.heap H locs → lv_has ls 3 [(2, .int (nI k74)), (0, .ref (ad 5 i)), (1, .ref (ad 5 o))] → s_X5_copyFrom i o σ = ((s_X5_copyFrom_L74 i o n74 k74 σ74)) → W p l e ({ frames := 0, cells := 0, slots := 0, locals := 0 } : Room) s m args below meth c H locs 0 0 (MQ below (Rt D ca base ad ρm Lm (s_X5_copyFrom i o σ) none) args s 0 0 (Ab base)) (F0 m 74 ls []) := by
    intro n74
    induction n74 with
    | zero =>
      intro k74 σ74 H locs ls hk1_74 hk2_74 hW hS hl hO
      exact absurd hk1_74 (by omega)
    | succ n74 ih_74 =>
      intro k74 σ74 H locs ls hk1_74 hk2_74 hW hS hl hO
      refine lv_iload_n hx hb dX5_copyFrom_74 rfl (lv_at hl 0 rfl) ?_
      refine lv_bipush (v := 12) hx hb dX5_copyFrom_75 (by decide) ?_
      refine lv_icmp_ge (tgt := 98) hx hb dX5_copyFrom_77 (by decide) (fun c_1 => ?_) (fun c_1 => ?_)
      · replace hl := lv_sub hl [1, 2] (l' := [(0, .ref (ad 5 i)), (1, .ref (ad 5 o))]) rfl
        have hO : s_X5_copyFrom i o σ = σ74 := by rw [hO, s_X5_copyFrom_L74, if_pos c_1]
        exact w_vretV hC hW hS hO (Nat.le_of_ble_eq_true rfl) (Nat.le_of_ble_eq_true rfl) dX5_copyFrom_98
      · have hi_c_1 : k74 < 12 := idx_lt c_1 (by decide) (by decide) (by omega)
        refine lv_aload_n hx hb dX5_copyFrom_80 rfl (lv_at hl 1 rfl) ?_
        refine gf_X5_15 hC hW (mm_5 hi) rfl dX5_copyFrom_81 ?_
        refine lv_iload_n hx hb dX5_copyFrom_84 rfl (lv_at hl 0 rfl) ?_
        refine lv_aload_n hx hb dX5_copyFrom_85 rfl (lv_at hl 2 rfl) ?_
        refine gf_X5_15 hC hW (mm_5 ho) rfl dX5_copyFrom_86 ?_
        refine lv_iload_n hx hb dX5_copyFrom_89 rfl (lv_at hl 0 rfl) ?_
        refine w_iald hC hW (mm_20 ho) (n := 12) rfl (vp_in_nI (by omega) (by omega)) dX5_copyFrom_90 ?_
        refine lv_eqi (y := σ74 20 o k74) (by rw [nI_clamp (by omega)]) ?_
        refine w_iast hC hW hS (mm_20 hi) (n := 12) (fun _ => rfl) (vp_in_nI (by omega) (by omega)) dX5_copyFrom_91 (fun H locs hW hS => ?_)
        rw [nI_clamp (by omega)] at hW
        refine lv_iinc (v := nI (k74 + 1)) (lv' := [(2, .int (nI (k74 + 1))), (0, .ref (ad 5 i)), (1, .ref (ad 5 o))]) hx hb dX5_copyFrom_92 hl (k := 0) rfl (nI_1 _) (by decide) rfl (fun ls hl => ?_)
        refine lv_goto (tgt := 74) hx hb dX5_copyFrom_95 (by decide) ?_
        refine ih_74 (k74 + 1) (us σ74 20 i k74 (σ74 20 o k74)) _ _ _ (by omega) (by omega)  hW hS (lv_sub hl [0, 1, 2] rfl) ?_
        rw [hO, s_X5_copyFrom_L74, if_neg c_1]
  refine h_74 13 0 (us (us (us (us (us (us (us (us (us σ 5 i 0 (σ 5 o 0)) 5 i 1 (σ 5 o 1)) 5 i 2 (σ 5 o 2)) 5 i 3 (σ 5 o 3)) 5 i 4 (σ 5 o 4)) 5 i 5 (σ 5 o 5)) 5 i 6 (σ 5 o 6)) 5 i 7 (σ 5 o 7)) 5 i 8 (σ 5 o 8)) _ _ _ (by omega) (by omega)  hW hS (lv_sub hl [0, 1, 2] rfl) ?_
  rw [s_X5_copyFrom]
theorem fr_s_X5_copyFrom_L74 {kk : Nat}  (i : Nat) (o : Nat) (h5 : kk ≠ 5) (h20 : kk ≠ 20) : ∀ (y0 : Nat) (y1 : Nat) (σ : Sg), (s_X5_copyFrom_L74 i o y0 y1 σ) kk = σ kk := by
  intro y0
  induction y0 with
  | zero => intros; rfl
  | succ n ih =>
    intros
    rw [s_X5_copyFrom_L74]
    repeat' split
    all_goals (first | (simp only [ih, us_kk, ne_eq, not_false_eq_true, h5, h20]; done) | with_reducible rfl | (simp only [ih, us_kk, ne_eq, not_false_eq_true, h5, h20]; with_reducible rfl))
theorem fr_X5_copyFrom {kk : Nat}  {i : Nat} {o : Nat} {σ : Sg} (h5 : kk ≠ 5) (h20 : kk ≠ 20) : (s_X5_copyFrom i o σ) kk = σ kk := by
  rw [s_X5_copyFrom]
  repeat' split
  all_goals (first | (simp only [us_kk, ne_eq, not_false_eq_true, h5, h20, fr_s_X5_copyFrom_L74]; done) | with_reducible rfl | (simp only [us_kk, ne_eq, not_false_eq_true, h5, h20, fr_s_X5_copyFrom_L74]; with_reducible rfl))

def f_X5_hasSomeRun_K24 (i : Nat) (x24_1 : Int32) (σ : Sg) : Int32 :=
  if (x24_1 &&& (4 : Int32)) = 0 then 0
  else 1
def f_X5_hasSomeRun_L24 (i : Nat) : Nat → Nat → Int32 → Sg → Int32
  | 0, _, v1_24, _ => v1_24
  | n24 + 1, k24, v1_24, σ => if 12 ≤ (nI k24) then v1_24
    else if (σ 20 i k24) = (-1) then f_X5_hasSomeRun_L24 i n24 (k24 + 1) (v1_24 ||| (0 : Int32)) σ
    else f_X5_hasSomeRun_L24 i n24 (k24 + 1) (v1_24 ||| (σ 20 i k24)) σ
def f_X5_hasSomeRun (i : Nat) (σ : Sg) : Int32 :=
  f_X5_hasSomeRun_K24 i (f_X5_hasSomeRun_L24 i 13 0 ((((σ 5 i 2) >>> ((6 : Int32) &&& 31)) ||| ((σ 5 i 2) >>> ((3 : Int32) &&& 31))) ||| ((σ 5 i 2) >>> ((0 : Int32) &&& 31))) σ) σ
set_option maxHeartbeats 4000000 in
set_option maxRecDepth 100000 in
theorem c_X5_hasSomeRun (l : Launch) (hl9 : l.stackTraces = false) (D : va_G) (ca : Nat → ClassId) (base : Nat) (ad : Adr) (σ : Sg) (i : Nat) (hi : i < 13) : Mt l yX5_hasSomeRun cX5_hasSomeRun 3 (some .boolean) { frames := 0, cells := 0, slots := 0, locals := 0 } D ca base ad ρm Lm [.ref (ad 5 i)] σ (some (.int (f_X5_hasSomeRun i σ))) σ := by
  refine w_ofW (by decide) (Nat.le_of_ble_eq_true rfl) rfl ?_
  intro p e s m args below meth c hC hW hS ls hl hin
  have hx := hC.1
  have hb := hC.2.1
  refine lv_aload_n hx hb dX5_hasSomeRun_0 rfl (lv_at hl 0 rfl) ?_
  refine gf_X5_35 hC hW (mm_5 hi) dX5_hasSomeRun_1 ?_
  refine lv_bipush (v := 6) hx hb dX5_hasSomeRun_4 (by decide) ?_
  refine lv_ishr hx hb dX5_hasSomeRun_6 ?_
  refine lv_aload_n hx hb dX5_hasSomeRun_7 rfl (lv_at hl 0 rfl) ?_
  refine gf_X5_35 hC hW (mm_5 hi) dX5_hasSomeRun_8 ?_
  refine lv_iconst (v := 3) hx hb dX5_hasSomeRun_11 (by decide) ?_
  refine lv_ishr hx hb dX5_hasSomeRun_12 ?_
  refine lv_ior hx hb dX5_hasSomeRun_13 ?_
  refine lv_aload_n hx hb dX5_hasSomeRun_14 rfl (lv_at hl 0 rfl) ?_
  refine gf_X5_35 hC hW (mm_5 hi) dX5_hasSomeRun_15 ?_
  refine lv_iconst (v := 0) hx hb dX5_hasSomeRun_18 (by decide) ?_
  refine lv_ishr hx hb dX5_hasSomeRun_19 ?_
  refine lv_ior hx hb dX5_hasSomeRun_20 ?_
  refine lv_istore_n (lv' := [(1, .int ((((σ 5 i 2) >>> ((6 : Int32) &&& 31)) ||| ((σ 5 i 2) >>> ((3 : Int32) &&& 31))) ||| ((σ 5 i 2) >>> ((0 : Int32) &&& 31)))), (0, .ref (ad 5 i))]) hx hb dX5_hasSomeRun_21 rfl hl (by decide) rfl (fun ls hl => ?_)
  refine lv_iconst (v := 0) hx hb dX5_hasSomeRun_22 (by decide) ?_
  refine lv_istore_n (lv' := [(2, .int 0), (1, .int ((((σ 5 i 2) >>> ((6 : Int32) &&& 31)) ||| ((σ 5 i 2) >>> ((3 : Int32) &&& 31))) ||| ((σ 5 i 2) >>> ((0 : Int32) &&& 31)))), (0, .ref (ad 5 i))]) hx hb dX5_hasSomeRun_23 rfl hl (by decide) rfl (fun ls hl => ?_)
  have h_24 : ∀ (n24 k24 : Nat) (v1_24 : Int32) (H : Heap) (locs : List Loc) (ls : Array Slot), 13 ≤ k24 + n24 → k24 ≤ 12 → Wd D ca (Ab base) ad ρm Lm σ H → va_S (Ab base) s.heap H locs → lv_has ls 3 [(2, .int (nI k24)), (1, .int v1_24), (0, .ref (ad 5 i))] → f_X5_hasSomeRun i σ = (f_X5_hasSomeRun_K24 i (f_X5_hasSomeRun_L24 i n24 k24 v1_24 σ) σ) → W p l e ({ frames := 0, cells := 0, slots := 0, locals := 0 } : Room) s m args below meth c H locs 0 0 (MQ below (Rt D ca base ad ρm Lm σ (some (.int (f_X5_hasSomeRun i σ)))) args s 0 0 (Ab base)) (F0 m 24 ls []) := by
    intro n24
    induction n24 with
    | zero =>
      intro k24 v1_24 H locs ls hk1_24 hk2_24 hW hS hl hO
      exact absurd hk1_24 (by omega)
    | succ n24 ih_24 =>
      intro k24 v1_24 H locs ls hk1_24 hk2_24 hW hS hl hO
      refine lv_iload_n hx hb dX5_hasSomeRun_24 rfl (lv_at hl 0 rfl) ?_
      refine lv_bipush (v := 12) hx hb dX5_hasSomeRun_25 (by decide) ?_
      refine lv_icmp_ge (tgt := 59) hx hb dX5_hasSomeRun_27 (by decide) (fun c_1 => ?_) (fun c_1 => ?_)
      · replace hl := lv_sub hl [1, 2] (l' := [(1, .int v1_24), (0, .ref (ad 5 i))]) rfl
        refine lv_iload_n hx hb dX5_hasSomeRun_59 rfl (lv_at hl 0 rfl) ?_
        refine lv_iconst (v := 4) hx hb dX5_hasSomeRun_60 (by decide) ?_
        refine lv_iand hx hb dX5_hasSomeRun_61 ?_
        refine lv_if_eq (tgt := 69) hx hb dX5_hasSomeRun_62 (by decide) (fun c_2 => ?_) (fun c_2 => ?_)
        · refine lv_iconst (v := 0) hx hb dX5_hasSomeRun_69 (by decide) ?_
          have hO : f_X5_hasSomeRun i σ = 0 := by rw [hO, f_X5_hasSomeRun_L24, if_pos c_1, f_X5_hasSomeRun_K24, if_pos c_2]
          exact w_zretP hC hW hS (by decide) hO (Nat.le_of_ble_eq_true rfl) (Nat.le_of_ble_eq_true rfl) dX5_hasSomeRun_70
        · refine lv_iconst (v := 1) hx hb dX5_hasSomeRun_65 (by decide) ?_
          refine lv_goto (tgt := 70) hx hb dX5_hasSomeRun_66 (by decide) ?_
          have hO : f_X5_hasSomeRun i σ = 1 := by rw [hO, f_X5_hasSomeRun_L24, if_pos c_1, f_X5_hasSomeRun_K24, if_neg c_2]
          exact w_zretP hC hW hS (by decide) hO (Nat.le_of_ble_eq_true rfl) (Nat.le_of_ble_eq_true rfl) dX5_hasSomeRun_70
      · have hi_c_1 : k24 < 12 := idx_lt c_1 (by decide) (by decide) (by omega)
        refine lv_iload_n hx hb dX5_hasSomeRun_30 rfl (lv_at hl 1 rfl) ?_
        refine lv_aload_n hx hb dX5_hasSomeRun_31 rfl (lv_at hl 2 rfl) ?_
        refine gf_X5_15 hC hW (mm_5 hi) rfl dX5_hasSomeRun_32 ?_
        refine lv_iload_n hx hb dX5_hasSomeRun_35 rfl (lv_at hl 0 rfl) ?_
        refine w_iald hC hW (mm_20 hi) (n := 12) rfl (vp_in_nI (by omega) (by omega)) dX5_hasSomeRun_36 ?_
        refine lv_eqi (y := σ 20 i k24) (by rw [nI_clamp (by omega)]) ?_
        refine lv_iconst (v := (-1)) hx hb dX5_hasSomeRun_37 (by decide) ?_
        refine lv_icmp_ne (tgt := 45) hx hb dX5_hasSomeRun_38 (by decide) (fun c_3 => ?_) (fun c_3 => ?_)
        · refine lv_aload_n hx hb dX5_hasSomeRun_45 rfl (lv_at hl 2 rfl) ?_
          refine gf_X5_15 hC hW (mm_5 hi) rfl dX5_hasSomeRun_46 ?_
          refine lv_iload_n hx hb dX5_hasSomeRun_49 rfl (lv_at hl 0 rfl) ?_
          refine w_iald hC hW (mm_20 hi) (n := 12) rfl (vp_in_nI (by omega) (by omega)) dX5_hasSomeRun_50 ?_
          refine lv_eqi (y := σ 20 i k24) (by rw [nI_clamp (by omega)]) ?_
          refine lv_ior hx hb dX5_hasSomeRun_51 ?_
          refine lv_istore_n (lv' := [(1, .int (v1_24 ||| (σ 20 i k24))), (2, .int (nI k24)), (0, .ref (ad 5 i))]) hx hb dX5_hasSomeRun_52 rfl hl (by decide) rfl (fun ls hl => ?_)
          refine lv_iinc (v := nI (k24 + 1)) (lv' := [(2, .int (nI (k24 + 1))), (1, .int (v1_24 ||| (σ 20 i k24))), (0, .ref (ad 5 i))]) hx hb dX5_hasSomeRun_53 hl (k := 1) rfl (nI_1 _) (by decide) rfl (fun ls hl => ?_)
          refine lv_goto (tgt := 24) hx hb dX5_hasSomeRun_56 (by decide) ?_
          refine ih_24 (k24 + 1) (v1_24 ||| (σ 20 i k24)) _ _ _ (by omega) (by omega)  hW hS (lv_sub hl [0, 1, 2] rfl) ?_
          rw [hO, f_X5_hasSomeRun_L24, if_neg c_1, if_neg c_3]
        · refine lv_iconst (v := 0) hx hb dX5_hasSomeRun_41 (by decide) ?_
          refine lv_goto (tgt := 51) hx hb dX5_hasSomeRun_42 (by decide) ?_
          refine lv_ior hx hb dX5_hasSomeRun_51 ?_
          refine lv_istore_n (lv' := [(1, .int (v1_24 ||| (0 : Int32))), (2, .int (nI k24)), (0, .ref (ad 5 i))]) hx hb dX5_hasSomeRun_52 rfl hl (by decide) rfl (fun ls hl => ?_)
          refine lv_iinc (v := nI (k24 + 1)) (lv' := [(2, .int (nI (k24 + 1))), (1, .int (v1_24 ||| (0 : Int32))), (0, .ref (ad 5 i))]) hx hb dX5_hasSomeRun_53 hl (k := 1) rfl (nI_1 _) (by decide) rfl (fun ls hl => ?_)
          refine lv_goto (tgt := 24) hx hb dX5_hasSomeRun_56 (by decide) ?_
          refine ih_24 (k24 + 1) (v1_24 ||| (0 : Int32)) _ _ _ (by omega) (by omega)  hW hS (lv_sub hl [0, 1, 2] rfl) ?_
          rw [hO, f_X5_hasSomeRun_L24, if_neg c_1, if_pos c_3]
  refine h_24 13 0 ((((σ 5 i 2) >>> ((6 : Int32) &&& 31)) ||| ((σ 5 i 2) >>> ((3 : Int32) &&& 31))) ||| ((σ 5 i 2) >>> ((0 : Int32) &&& 31))) _ _ _ (by omega) (by omega)  hW hS (lv_sub hl [0, 1, 2] rfl) ?_
  rw [f_X5_hasSomeRun]

def f_X5_countWays_K73 (i : Nat) (u : Int32) (g : Int32) (r : Int32) (x73_6 : Int32) (x73_7 : Int32) (σ : Sg) : Int32 :=
  if x73_7 = 0 then f_X5_oneIfIn ((σ 5 i 2) >>> ((0 : Int32) &&& 31)) r
  else x73_6
def f_X5_countWays_L73 (i : Nat) (u : Int32) (g : Int32) (r : Int32) : Nat → Nat → Int32 → Int32 → Sg → Int32 × Int32
  | 0, _, v6_73, v7_73, _ => (v6_73, v7_73)
  | n73 + 1, k73, v6_73, v7_73, σ => if 6 ≤ (nI k73) then (v6_73, v7_73)
    else if (σ 20 i (6 + k73)) = (-1) then f_X5_countWays_L73 i u g r n73 (k73 + 1) v6_73 v7_73 σ
    else if ((g >>> ((nI k73) &&& 31)) &&& (1 : Int32)) = 0 then f_X5_countWays_L73 i u g r n73 (k73 + 1) v6_73 v7_73 σ
    else f_X5_countWays_L73 i u g r n73 (k73 + 1) (v6_73 + (f_X5_oneIfIn ((σ 20 i (6 + k73)) &&& (σ 5 i 6)) r)) 1 σ
def f_X5_countWays_K73b (i : Nat) (u : Int32) (g : Int32) (r : Int32) (x73_6 : Int32) (x73_7 : Int32) (σ : Sg) : Int32 :=
  if (σ 5 i 7) ≤ 0 then (if x73_7 = 0 then f_X5_oneIfIn ((σ 5 i 2) >>> ((0 : Int32) &&& 31)) r
    else x73_6 + (f_X5_oneIfIn (((σ 5 i 2) >>> ((3 : Int32) &&& 31)) &&& (7 : Int32)) r))
  else if x73_7 = 0 then f_X5_oneIfIn ((σ 5 i 2) >>> ((0 : Int32) &&& 31)) r
  else x73_6 + (f_X5_oneIfIn (((σ 5 i 2) >>> ((3 : Int32) &&& 31)) &&& (σ 5 i 6)) r)
def f_X5_countWays (i : Nat) (u : Int32) (g : Int32) (r : Int32) (σ : Sg) : Int32 :=
  if u = (σ 5 i 0) then f_X5_oneIfIn ((σ 5 i 2) >>> ((6 : Int32) &&& 31)) r
  else if (f_X5_rightsOf i u σ) = (-1) then (if ((g >>> ((σ 5 i 1) &&& 31)) &&& (1 : Int32)) = 0 then f_X5_countWays_K73 i u g r (f_X5_countWays_L73 i u g r 7 0 0 0 σ).1 (f_X5_countWays_L73 i u g r 7 0 0 0 σ).2 σ
    else f_X5_countWays_K73b i u g r (f_X5_countWays_L73 i u g r 7 0 0 1 σ).1 (f_X5_countWays_L73 i u g r 7 0 0 1 σ).2 σ)
  else f_X5_oneIfIn ((f_X5_rightsOf i u σ) &&& (σ 5 i 6)) r
set_option maxHeartbeats 4000000 in
set_option maxRecDepth 100000 in
theorem c_X5_countWays (l : Launch) (hl9 : l.stackTraces = false) (D : va_G) (ca : Nat → ClassId) (base : Nat) (ad : Adr) (σ : Sg) (i : Nat) (u : Int32) (g : Int32) (r : Int32) (hi : i < 13) : Mt l yX5_countWays cX5_countWays 10 (some .int) { frames := 1, cells := 0, slots := 0, locals := 21 } D ca base ad ρm Lm [.ref (ad 5 i), .int u, .int g, .int r] σ (some (.int (f_X5_countWays i u g r σ))) σ := by
  refine w_ofW (by decide) (Nat.le_of_ble_eq_true rfl) rfl ?_
  intro p e s m args below meth c hC hW hS ls hl hin
  have hx := hC.1
  have hb := hC.2.1
  refine lv_iload_n hx hb dX5_countWays_0 rfl (lv_at hl 1 rfl) ?_
  refine lv_aload_n hx hb dX5_countWays_1 rfl (lv_at hl 0 rfl) ?_
  refine gf_X5_29 hC hW (mm_5 hi) dX5_countWays_2 ?_
  refine lv_icmp_ne (tgt := 20) hx hb dX5_countWays_5 (by decide) (fun c_1 => ?_) (fun c_1 => ?_)
  · refine lv_aload_n hx hb dX5_countWays_20 rfl (lv_at hl 0 rfl) ?_
    refine lv_iload_n hx hb dX5_countWays_21 rfl (lv_at hl 1 rfl) ?_
    refine w_callV (As := [.int u]) (rest := []) (st2 := .int (f_X5_rightsOf i u σ) :: []) hC hW hS hl cv_X5_51 (mm_5 hi) (by decide) rfl (c_X5_rightsOf l hl9 D ca base ad σ i u hi) rfl rfl rfl ⟨Nat.le_of_ble_eq_true rfl, Nat.le_of_ble_eq_true rfl⟩ (Nat.le_of_ble_eq_true rfl) dX5_countWays_22 ⟨Nat.le_of_ble_eq_true rfl, Nat.le_of_ble_eq_true rfl⟩ (fun H locs hW hS => ?_)
    refine lv_istore (lv' := [(4, .int (f_X5_rightsOf i u σ)), (0, .ref (ad 5 i)), (1, .int u), (2, .int g), (3, .int r)]) hx hb dX5_countWays_25 hl (by decide) rfl (fun ls hl => ?_)
    refine lv_iload hx hb dX5_countWays_27 (lv_at hl 0 rfl) ?_
    refine lv_iconst (v := (-1)) hx hb dX5_countWays_29 (by decide) ?_
    refine lv_icmp_eq (tgt := 45) hx hb dX5_countWays_30 (by decide) (fun c_2 => ?_) (fun c_2 => ?_)
    · refine lv_iload_n hx hb dX5_countWays_45 rfl (lv_at hl 3 rfl) ?_
      refine lv_aload_n hx hb dX5_countWays_46 rfl (lv_at hl 1 rfl) ?_
      refine gf_X5_32 hC hW (mm_5 hi) dX5_countWays_47 ?_
      refine lv_ishr hx hb dX5_countWays_50 ?_
      refine lv_iconst (v := 1) hx hb dX5_countWays_51 (by decide) ?_
      refine lv_iand hx hb dX5_countWays_52 ?_
      refine lv_if_eq (tgt := 60) hx hb dX5_countWays_53 (by decide) (fun c_3 => ?_) (fun c_3 => ?_)
      · refine lv_iconst (v := 0) hx hb dX5_countWays_60 (by decide) ?_
        refine lv_istore (lv' := [(5, .int 0), (4, .int (f_X5_rightsOf i u σ)), (0, .ref (ad 5 i)), (1, .int u), (2, .int g), (3, .int r)]) hx hb dX5_countWays_61 hl (by decide) rfl (fun ls hl => ?_)
        refine lv_iconst (v := 0) hx hb dX5_countWays_63 (by decide) ?_
        refine lv_istore (lv' := [(6, .int 0), (5, .int 0), (4, .int (f_X5_rightsOf i u σ)), (0, .ref (ad 5 i)), (1, .int u), (2, .int g), (3, .int r)]) hx hb dX5_countWays_64 hl (by decide) rfl (fun ls hl => ?_)
        refine lv_iload hx hb dX5_countWays_66 (lv_at hl 1 rfl) ?_
        refine lv_istore (lv' := [(7, .int 0), (6, .int 0), (5, .int 0), (4, .int (f_X5_rightsOf i u σ)), (0, .ref (ad 5 i)), (1, .int u), (2, .int g), (3, .int r)]) hx hb dX5_countWays_68 hl (by decide) rfl (fun ls hl => ?_)
        refine lv_iconst (v := 0) hx hb dX5_countWays_70 (by decide) ?_
        refine lv_istore (lv' := [(8, .int 0), (7, .int 0), (6, .int 0), (5, .int 0), (4, .int (f_X5_rightsOf i u σ)), (0, .ref (ad 5 i)), (1, .int u), (2, .int g), (3, .int r)]) hx hb dX5_countWays_71 hl (by decide) rfl (fun ls hl => ?_)
        have h_73 : ∀ (n73 k73 : Nat) (v6_73 v7_73 : Int32) (H : Heap) (locs : List Loc) (ls : Array Slot), 7 ≤ k73 + n73 → k73 ≤ 6 → Wd D ca (Ab base) ad ρm Lm σ H → va_S (Ab base) s.heap H locs → lv_has ls 10 [(8, .int (nI k73)), (7, .int v7_73), (6, .int v6_73), (5, .int 0), (0, .ref (ad 5 i)), (2, .int g), (3, .int r)] → f_X5_countWays i u g r σ = (f_X5_countWays_K73 i u g r (f_X5_countWays_L73 i u g r n73 k73 v6_73 v7_73 σ).1 (f_X5_countWays_L73 i u g r n73 k73 v6_73 v7_73 σ).2 σ) → W p l e ({ frames := 1, cells := 0, slots := 0, locals := 21 } : Room) s m args below meth c H locs 0 0 (MQ below (Rt D ca base ad ρm Lm σ (some (.int (f_X5_countWays i u g r σ)))) args s 0 0 (Ab base)) (F0 m 73 ls []) := by
          intro n73
          induction n73 with
          | zero =>
            intro k73 v6_73 v7_73 H locs ls hk1_73 hk2_73 hW hS hl hO
            exact absurd hk1_73 (by omega)
          | succ n73 ih_73 =>
            intro k73 v6_73 v7_73 H locs ls hk1_73 hk2_73 hW hS hl hO
            refine lv_iload hx hb dX5_countWays_73 (lv_at hl 0 rfl) ?_
            refine lv_bipush (v := 6) hx hb dX5_countWays_75 (by decide) ?_
            refine lv_icmp_ge (tgt := 132) hx hb dX5_countWays_77 (by decide) (fun c_4 => ?_) (fun c_4 => ?_)
            · replace hl := lv_sub hl [1, 2, 3, 4, 5, 6] (l' := [(7, .int v7_73), (6, .int v6_73), (5, .int 0), (0, .ref (ad 5 i)), (2, .int g), (3, .int r)]) rfl
              refine lv_iload hx hb dX5_countWays_132 (lv_at hl 2 rfl) ?_
              refine lv_if_eq (tgt := 169) hx hb dX5_countWays_134 (by decide) (fun _ => ?_) (fun c => absurd (by decide) c)
              refine lv_iload hx hb dX5_countWays_169 (lv_at hl 0 rfl) ?_
              refine lv_if_eq (tgt := 179) hx hb dX5_countWays_171 (by decide) (fun c_5 => ?_) (fun c_5 => ?_)
              · refine lv_aload_n hx hb dX5_countWays_179 rfl (lv_at hl 3 rfl) ?_
                refine gf_X5_35 hC hW (mm_5 hi) dX5_countWays_180 ?_
                refine lv_iconst (v := 0) hx hb dX5_countWays_183 (by decide) ?_
                refine lv_ishr hx hb dX5_countWays_184 ?_
                refine lv_iload_n hx hb dX5_countWays_185 rfl (lv_at hl 5 rfl) ?_
                refine w_callS (As := [.int ((σ 5 i 2) >>> ((0 : Int32) &&& 31)), .int r]) (rest := []) (st2 := .int (f_X5_oneIfIn ((σ 5 i 2) >>> ((0 : Int32) &&& 31)) r) :: []) hC hW hS hl cs_X5_47 (c_X5_oneIfIn l hl9 D ca base ad σ ((σ 5 i 2) >>> ((0 : Int32) &&& 31)) r ) rfl rfl rfl ⟨Nat.le_of_ble_eq_true rfl, Nat.le_of_ble_eq_true rfl⟩ (Nat.le_of_ble_eq_true rfl) dX5_countWays_186 ⟨Nat.le_of_ble_eq_true rfl, Nat.le_of_ble_eq_true rfl⟩ (fun H locs hW hS => ?_)
                have hO : f_X5_countWays i u g r σ = f_X5_oneIfIn ((σ 5 i 2) >>> ((0 : Int32) &&& 31)) r := by rw [hO, f_X5_countWays_L73, if_pos c_4, f_X5_countWays_K73, if_pos c_5]
                exact w_iretP hC hW hS hO (Nat.le_of_ble_eq_true rfl) (Nat.le_of_ble_eq_true rfl) dX5_countWays_189
              · refine lv_iload hx hb dX5_countWays_174 (lv_at hl 1 rfl) ?_
                refine lv_goto (tgt := 189) hx hb dX5_countWays_176 (by decide) ?_
                have hO : f_X5_countWays i u g r σ = v6_73 := by rw [hO, f_X5_countWays_L73, if_pos c_4, f_X5_countWays_K73, if_neg c_5]
                exact w_iretP hC hW hS hO (Nat.le_of_ble_eq_true rfl) (Nat.le_of_ble_eq_true rfl) dX5_countWays_189
            · have hi_c_4 : k73 < 6 := idx_lt c_4 (by decide) (by decide) (by omega)
              refine lv_aload_n hx hb dX5_countWays_80 rfl (lv_at hl 4 rfl) ?_
              refine gf_X5_15 hC hW (mm_5 hi) rfl dX5_countWays_81 ?_
              refine lv_bipush (v := 6) hx hb dX5_countWays_84 (by decide) ?_
              refine lv_iload hx hb dX5_countWays_86 (lv_at hl 0 rfl) ?_
              refine lv_iadd hx hb dX5_countWays_88 ?_
              refine w_iald hC hW (mm_20 hi) (n := 12) rfl (vp_in_add (a := 6) (by decide) (by omega) (by omega)) dX5_countWays_89 ?_
              refine lv_eqi (y := σ 20 i (6 + k73)) (by rw [cl_add (a := 6) (by decide) (by omega)]) ?_
              refine lv_istore (lv' := [(9, .int (σ 20 i (6 + k73))), (8, .int (nI k73)), (7, .int v7_73), (6, .int v6_73), (5, .int 0), (0, .ref (ad 5 i)), (2, .int g), (3, .int r)]) hx hb dX5_countWays_90 hl (by decide) rfl (fun ls hl => ?_)
              refine lv_iload hx hb dX5_countWays_92 (lv_at hl 0 rfl) ?_
              refine lv_iconst (v := (-1)) hx hb dX5_countWays_94 (by decide) ?_
              refine lv_icmp_eq (tgt := 126) hx hb dX5_countWays_95 (by decide) (fun c_6 => ?_) (fun c_6 => ?_)
              · refine lv_iinc (v := nI (k73 + 1)) (lv' := [(8, .int (nI (k73 + 1))), (9, .int (σ 20 i (6 + k73))), (7, .int v7_73), (6, .int v6_73), (5, .int 0), (0, .ref (ad 5 i)), (2, .int g), (3, .int r)]) hx hb dX5_countWays_126 hl (k := 1) rfl (nI_1 _) (by decide) rfl (fun ls hl => ?_)
                refine lv_goto (tgt := 73) hx hb dX5_countWays_129 (by decide) ?_
                refine ih_73 (k73 + 1) v6_73 v7_73 _ _ _ (by omega) (by omega)  hW hS (lv_sub hl [0, 2, 3, 4, 5, 6, 7] rfl) ?_
                rw [hO, f_X5_countWays_L73, if_neg c_4, if_pos c_6]
              · refine lv_iload_n hx hb dX5_countWays_98 rfl (lv_at hl 6 rfl) ?_
                refine lv_iload hx hb dX5_countWays_99 (lv_at hl 1 rfl) ?_
                refine lv_ishr hx hb dX5_countWays_101 ?_
                refine lv_iconst (v := 1) hx hb dX5_countWays_102 (by decide) ?_
                refine lv_iand hx hb dX5_countWays_103 ?_
                refine lv_if_eq (tgt := 126) hx hb dX5_countWays_104 (by decide) (fun c_7 => ?_) (fun c_7 => ?_)
                · refine lv_iinc (v := nI (k73 + 1)) (lv' := [(8, .int (nI (k73 + 1))), (9, .int (σ 20 i (6 + k73))), (7, .int v7_73), (6, .int v6_73), (5, .int 0), (0, .ref (ad 5 i)), (2, .int g), (3, .int r)]) hx hb dX5_countWays_126 hl (k := 1) rfl (nI_1 _) (by decide) rfl (fun ls hl => ?_)
                  refine lv_goto (tgt := 73) hx hb dX5_countWays_129 (by decide) ?_
                  refine ih_73 (k73 + 1) v6_73 v7_73 _ _ _ (by omega) (by omega)  hW hS (lv_sub hl [0, 2, 3, 4, 5, 6, 7] rfl) ?_
                  rw [hO, f_X5_countWays_L73, if_neg c_4, if_neg c_6, if_pos c_7]
                · refine lv_iconst (v := 1) hx hb dX5_countWays_107 (by decide) ?_
                  refine lv_istore (lv' := [(7, .int 1), (9, .int (σ 20 i (6 + k73))), (8, .int (nI k73)), (6, .int v6_73), (5, .int 0), (0, .ref (ad 5 i)), (2, .int g), (3, .int r)]) hx hb dX5_countWays_108 hl (by decide) rfl (fun ls hl => ?_)
                  refine lv_iload hx hb dX5_countWays_110 (lv_at hl 3 rfl) ?_
                  refine lv_iload hx hb dX5_countWays_112 (lv_at hl 1 rfl) ?_
                  refine lv_aload_n hx hb dX5_countWays_114 rfl (lv_at hl 5 rfl) ?_
                  refine gf_X5_9 hC hW (mm_5 hi) dX5_countWays_115 ?_
                  refine lv_iand hx hb dX5_countWays_118 ?_
                  refine lv_iload_n hx hb dX5_countWays_119 rfl (lv_at hl 7 rfl) ?_
                  refine w_callS (As := [.int ((σ 20 i (6 + k73)) &&& (σ 5 i 6)), .int r]) (rest := .int v6_73 :: []) (st2 := .int (f_X5_oneIfIn ((σ 20 i (6 + k73)) &&& (σ 5 i 6)) r) :: .int v6_73 :: []) hC hW hS hl cs_X5_47 (c_X5_oneIfIn l hl9 D ca base ad σ ((σ 20 i (6 + k73)) &&& (σ 5 i 6)) r ) rfl rfl rfl ⟨Nat.le_of_ble_eq_true rfl, Nat.le_of_ble_eq_true rfl⟩ (Nat.le_of_ble_eq_true rfl) dX5_countWays_120 ⟨Nat.le_of_ble_eq_true rfl, Nat.le_of_ble_eq_true rfl⟩ (fun H locs hW hS => ?_)
                  refine lv_iadd hx hb dX5_countWays_123 ?_
                  refine lv_istore (lv' := [(6, .int (v6_73 + (f_X5_oneIfIn ((σ 20 i (6 + k73)) &&& (σ 5 i 6)) r))), (7, .int 1), (9, .int (σ 20 i (6 + k73))), (8, .int (nI k73)), (5, .int 0), (0, .ref (ad 5 i)), (2, .int g), (3, .int r)]) hx hb dX5_countWays_124 hl (by decide) rfl (fun ls hl => ?_)
                  refine lv_iinc (v := nI (k73 + 1)) (lv' := [(8, .int (nI (k73 + 1))), (6, .int (v6_73 + (f_X5_oneIfIn ((σ 20 i (6 + k73)) &&& (σ 5 i 6)) r))), (7, .int 1), (9, .int (σ 20 i (6 + k73))), (5, .int 0), (0, .ref (ad 5 i)), (2, .int g), (3, .int r)]) hx hb dX5_countWays_126 hl (k := 3) rfl (nI_1 _) (by decide) rfl (fun ls hl => ?_)
                  refine lv_goto (tgt := 73) hx hb dX5_countWays_129 (by decide) ?_
                  refine ih_73 (k73 + 1) (v6_73 + (f_X5_oneIfIn ((σ 20 i (6 + k73)) &&& (σ 5 i 6)) r)) 1 _ _ _ (by omega) (by omega)  hW hS (lv_sub hl [0, 2, 1, 4, 5, 6, 7] rfl) ?_
                  rw [hO, f_X5_countWays_L73, if_neg c_4, if_neg c_6, if_neg c_7]
        refine h_73 7 0 0 0 _ _ _ (by omega) (by omega)  hW hS (lv_sub hl [0, 1, 2, 3, 5, 7, 8] rfl) ?_
        rw [f_X5_countWays, if_neg c_1, if_pos c_2, if_pos c_3]
      · refine lv_iconst (v := 1) hx hb dX5_countWays_56 (by decide) ?_
        refine lv_goto (tgt := 61) hx hb dX5_countWays_57 (by decide) ?_
        refine lv_istore (lv' := [(5, .int 1), (4, .int (f_X5_rightsOf i u σ)), (0, .ref (ad 5 i)), (1, .int u), (2, .int g), (3, .int r)]) hx hb dX5_countWays_61 hl (by decide) rfl (fun ls hl => ?_)
        refine lv_iconst (v := 0) hx hb dX5_countWays_63 (by decide) ?_
        refine lv_istore (lv' := [(6, .int 0), (5, .int 1), (4, .int (f_X5_rightsOf i u σ)), (0, .ref (ad 5 i)), (1, .int u), (2, .int g), (3, .int r)]) hx hb dX5_countWays_64 hl (by decide) rfl (fun ls hl => ?_)
        refine lv_iload hx hb dX5_countWays_66 (lv_at hl 1 rfl) ?_
        refine lv_istore (lv' := [(7, .int 1), (6, .int 0), (5, .int 1), (4, .int (f_X5_rightsOf i u σ)), (0, .ref (ad 5 i)), (1, .int u), (2, .int g), (3, .int r)]) hx hb dX5_countWays_68 hl (by decide) rfl (fun ls hl => ?_)
        refine lv_iconst (v := 0) hx hb dX5_countWays_70 (by decide) ?_
        refine lv_istore (lv' := [(8, .int 0), (7, .int 1), (6, .int 0), (5, .int 1), (4, .int (f_X5_rightsOf i u σ)), (0, .ref (ad 5 i)), (1, .int u), (2, .int g), (3, .int r)]) hx hb dX5_countWays_71 hl (by decide) rfl (fun ls hl => ?_)
        have h_73 : ∀ (n73 k73 : Nat) (v6_73 v7_73 : Int32) (H : Heap) (locs : List Loc) (ls : Array Slot), 7 ≤ k73 + n73 → k73 ≤ 6 → Wd D ca (Ab base) ad ρm Lm σ H → va_S (Ab base) s.heap H locs → lv_has ls 10 [(8, .int (nI k73)), (7, .int v7_73), (6, .int v6_73), (5, .int 1), (0, .ref (ad 5 i)), (2, .int g), (3, .int r)] → f_X5_countWays i u g r σ = (f_X5_countWays_K73b i u g r (f_X5_countWays_L73 i u g r n73 k73 v6_73 v7_73 σ).1 (f_X5_countWays_L73 i u g r n73 k73 v6_73 v7_73 σ).2 σ) → W p l e ({ frames := 1, cells := 0, slots := 0, locals := 21 } : Room) s m args below meth c H locs 0 0 (MQ below (Rt D ca base ad ρm Lm σ (some (.int (f_X5_countWays i u g r σ)))) args s 0 0 (Ab base)) (F0 m 73 ls []) := by
          intro n73
          induction n73 with
          | zero =>
            intro k73 v6_73 v7_73 H locs ls hk1_73 hk2_73 hW hS hl hO
            exact absurd hk1_73 (by omega)
          | succ n73 ih_73 =>
            intro k73 v6_73 v7_73 H locs ls hk1_73 hk2_73 hW hS hl hO
            refine lv_iload hx hb dX5_countWays_73 (lv_at hl 0 rfl) ?_
            refine lv_bipush (v := 6) hx hb dX5_countWays_75 (by decide) ?_
            refine lv_icmp_ge (tgt := 132) hx hb dX5_countWays_77 (by decide) (fun c_8 => ?_) (fun c_8 => ?_)
            · replace hl := lv_sub hl [1, 2, 3, 4, 5, 6] (l' := [(7, .int v7_73), (6, .int v6_73), (5, .int 1), (0, .ref (ad 5 i)), (2, .int g), (3, .int r)]) rfl
              refine lv_iload hx hb dX5_countWays_132 (lv_at hl 2 rfl) ?_
              refine lv_if_eq (tgt := 169) hx hb dX5_countWays_134 (by decide) (fun c => absurd c (by decide)) (fun _ => ?_)
              refine lv_iload hx hb dX5_countWays_137 (lv_at hl 1 rfl) ?_
              refine lv_aload_n hx hb dX5_countWays_139 rfl (lv_at hl 3 rfl) ?_
              refine gf_X5_35 hC hW (mm_5 hi) dX5_countWays_140 ?_
              refine lv_iconst (v := 3) hx hb dX5_countWays_143 (by decide) ?_
              refine lv_ishr hx hb dX5_countWays_144 ?_
              refine lv_aload_n hx hb dX5_countWays_145 rfl (lv_at hl 3 rfl) ?_
              refine gf_X5_19 hC hW (mm_5 hi) dX5_countWays_146 ?_
              refine lv_if_le (tgt := 159) hx hb dX5_countWays_149 (by decide) (fun c_9 => ?_) (fun c_9 => ?_)
              · refine lv_bipush (v := 7) hx hb dX5_countWays_159 (by decide) ?_
                refine lv_iand hx hb dX5_countWays_161 ?_
                refine lv_iload_n hx hb dX5_countWays_162 rfl (lv_at hl 5 rfl) ?_
                refine w_callS (As := [.int (((σ 5 i 2) >>> ((3 : Int32) &&& 31)) &&& (7 : Int32)), .int r]) (rest := .int v6_73 :: []) (st2 := .int (f_X5_oneIfIn (((σ 5 i 2) >>> ((3 : Int32) &&& 31)) &&& (7 : Int32)) r) :: .int v6_73 :: []) hC hW hS hl cs_X5_47 (c_X5_oneIfIn l hl9 D ca base ad σ (((σ 5 i 2) >>> ((3 : Int32) &&& 31)) &&& (7 : Int32)) r ) rfl rfl rfl ⟨Nat.le_of_ble_eq_true rfl, Nat.le_of_ble_eq_true rfl⟩ (Nat.le_of_ble_eq_true rfl) dX5_countWays_163 ⟨Nat.le_of_ble_eq_true rfl, Nat.le_of_ble_eq_true rfl⟩ (fun H locs hW hS => ?_)
                refine lv_iadd hx hb dX5_countWays_166 ?_
                refine lv_istore (lv' := [(6, .int (v6_73 + (f_X5_oneIfIn (((σ 5 i 2) >>> ((3 : Int32) &&& 31)) &&& (7 : Int32)) r))), (7, .int v7_73), (5, .int 1), (0, .ref (ad 5 i)), (2, .int g), (3, .int r)]) hx hb dX5_countWays_167 hl (by decide) rfl (fun ls hl => ?_)
                refine lv_iload hx hb dX5_countWays_169 (lv_at hl 1 rfl) ?_
                refine lv_if_eq (tgt := 179) hx hb dX5_countWays_171 (by decide) (fun c_10 => ?_) (fun c_10 => ?_)
                · refine lv_aload_n hx hb dX5_countWays_179 rfl (lv_at hl 3 rfl) ?_
                  refine gf_X5_35 hC hW (mm_5 hi) dX5_countWays_180 ?_
                  refine lv_iconst (v := 0) hx hb dX5_countWays_183 (by decide) ?_
                  refine lv_ishr hx hb dX5_countWays_184 ?_
                  refine lv_iload_n hx hb dX5_countWays_185 rfl (lv_at hl 5 rfl) ?_
                  refine w_callS (As := [.int ((σ 5 i 2) >>> ((0 : Int32) &&& 31)), .int r]) (rest := []) (st2 := .int (f_X5_oneIfIn ((σ 5 i 2) >>> ((0 : Int32) &&& 31)) r) :: []) hC hW hS hl cs_X5_47 (c_X5_oneIfIn l hl9 D ca base ad σ ((σ 5 i 2) >>> ((0 : Int32) &&& 31)) r ) rfl rfl rfl ⟨Nat.le_of_ble_eq_true rfl, Nat.le_of_ble_eq_true rfl⟩ (Nat.le_of_ble_eq_true rfl) dX5_countWays_186 ⟨Nat.le_of_ble_eq_true rfl, Nat.le_of_ble_eq_true rfl⟩ (fun H locs hW hS => ?_)
                  have hO : f_X5_countWays i u g r σ = f_X5_oneIfIn ((σ 5 i 2) >>> ((0 : Int32) &&& 31)) r := by rw [hO, f_X5_countWays_L73, if_pos c_8, f_X5_countWays_K73b, if_pos c_9, if_pos c_10]
                  exact w_iretP hC hW hS hO (Nat.le_of_ble_eq_true rfl) (Nat.le_of_ble_eq_true rfl) dX5_countWays_189
                · refine lv_iload hx hb dX5_countWays_174 (lv_at hl 0 rfl) ?_
                  refine lv_goto (tgt := 189) hx hb dX5_countWays_176 (by decide) ?_
                  have hO : f_X5_countWays i u g r σ = v6_73 + (f_X5_oneIfIn (((σ 5 i 2) >>> ((3 : Int32) &&& 31)) &&& (7 : Int32)) r) := by rw [hO, f_X5_countWays_L73, if_pos c_8, f_X5_countWays_K73b, if_pos c_9, if_neg c_10]
                  exact w_iretP hC hW hS hO (Nat.le_of_ble_eq_true rfl) (Nat.le_of_ble_eq_true rfl) dX5_countWays_189
              · refine lv_aload_n hx hb dX5_countWays_152 rfl (lv_at hl 3 rfl) ?_
                refine gf_X5_9 hC hW (mm_5 hi) dX5_countWays_153 ?_
                refine lv_goto (tgt := 161) hx hb dX5_countWays_156 (by decide) ?_
                refine lv_iand hx hb dX5_countWays_161 ?_
                refine lv_iload_n hx hb dX5_countWays_162 rfl (lv_at hl 5 rfl) ?_
                refine w_callS (As := [.int (((σ 5 i 2) >>> ((3 : Int32) &&& 31)) &&& (σ 5 i 6)), .int r]) (rest := .int v6_73 :: []) (st2 := .int (f_X5_oneIfIn (((σ 5 i 2) >>> ((3 : Int32) &&& 31)) &&& (σ 5 i 6)) r) :: .int v6_73 :: []) hC hW hS hl cs_X5_47 (c_X5_oneIfIn l hl9 D ca base ad σ (((σ 5 i 2) >>> ((3 : Int32) &&& 31)) &&& (σ 5 i 6)) r ) rfl rfl rfl ⟨Nat.le_of_ble_eq_true rfl, Nat.le_of_ble_eq_true rfl⟩ (Nat.le_of_ble_eq_true rfl) dX5_countWays_163 ⟨Nat.le_of_ble_eq_true rfl, Nat.le_of_ble_eq_true rfl⟩ (fun H locs hW hS => ?_)
                refine lv_iadd hx hb dX5_countWays_166 ?_
                refine lv_istore (lv' := [(6, .int (v6_73 + (f_X5_oneIfIn (((σ 5 i 2) >>> ((3 : Int32) &&& 31)) &&& (σ 5 i 6)) r))), (7, .int v7_73), (5, .int 1), (0, .ref (ad 5 i)), (2, .int g), (3, .int r)]) hx hb dX5_countWays_167 hl (by decide) rfl (fun ls hl => ?_)
                refine lv_iload hx hb dX5_countWays_169 (lv_at hl 1 rfl) ?_
                refine lv_if_eq (tgt := 179) hx hb dX5_countWays_171 (by decide) (fun c_11 => ?_) (fun c_11 => ?_)
                · refine lv_aload_n hx hb dX5_countWays_179 rfl (lv_at hl 3 rfl) ?_
                  refine gf_X5_35 hC hW (mm_5 hi) dX5_countWays_180 ?_
                  refine lv_iconst (v := 0) hx hb dX5_countWays_183 (by decide) ?_
                  refine lv_ishr hx hb dX5_countWays_184 ?_
                  refine lv_iload_n hx hb dX5_countWays_185 rfl (lv_at hl 5 rfl) ?_
                  refine w_callS (As := [.int ((σ 5 i 2) >>> ((0 : Int32) &&& 31)), .int r]) (rest := []) (st2 := .int (f_X5_oneIfIn ((σ 5 i 2) >>> ((0 : Int32) &&& 31)) r) :: []) hC hW hS hl cs_X5_47 (c_X5_oneIfIn l hl9 D ca base ad σ ((σ 5 i 2) >>> ((0 : Int32) &&& 31)) r ) rfl rfl rfl ⟨Nat.le_of_ble_eq_true rfl, Nat.le_of_ble_eq_true rfl⟩ (Nat.le_of_ble_eq_true rfl) dX5_countWays_186 ⟨Nat.le_of_ble_eq_true rfl, Nat.le_of_ble_eq_true rfl⟩ (fun H locs hW hS => ?_)
                  have hO : f_X5_countWays i u g r σ = f_X5_oneIfIn ((σ 5 i 2) >>> ((0 : Int32) &&& 31)) r := by rw [hO, f_X5_countWays_L73, if_pos c_8, f_X5_countWays_K73b, if_neg c_9, if_pos c_11]
                  exact w_iretP hC hW hS hO (Nat.le_of_ble_eq_true rfl) (Nat.le_of_ble_eq_true rfl) dX5_countWays_189
                · refine lv_iload hx hb dX5_countWays_174 (lv_at hl 0 rfl) ?_
                  refine lv_goto (tgt := 189) hx hb dX5_countWays_176 (by decide) ?_
                  have hO : f_X5_countWays i u g r σ = v6_73 + (f_X5_oneIfIn (((σ 5 i 2) >>> ((3 : Int32) &&& 31)) &&& (σ 5 i 6)) r) := by rw [hO, f_X5_countWays_L73, if_pos c_8, f_X5_countWays_K73b, if_neg c_9, if_neg c_11]
                  exact w_iretP hC hW hS hO (Nat.le_of_ble_eq_true rfl) (Nat.le_of_ble_eq_true rfl) dX5_countWays_189
            · have hi_c_8 : k73 < 6 := idx_lt c_8 (by decide) (by decide) (by omega)
              refine lv_aload_n hx hb dX5_countWays_80 rfl (lv_at hl 4 rfl) ?_
              refine gf_X5_15 hC hW (mm_5 hi) rfl dX5_countWays_81 ?_
              refine lv_bipush (v := 6) hx hb dX5_countWays_84 (by decide) ?_
              refine lv_iload hx hb dX5_countWays_86 (lv_at hl 0 rfl) ?_
              refine lv_iadd hx hb dX5_countWays_88 ?_
              refine w_iald hC hW (mm_20 hi) (n := 12) rfl (vp_in_add (a := 6) (by decide) (by omega) (by omega)) dX5_countWays_89 ?_
              refine lv_eqi (y := σ 20 i (6 + k73)) (by rw [cl_add (a := 6) (by decide) (by omega)]) ?_
              refine lv_istore (lv' := [(9, .int (σ 20 i (6 + k73))), (8, .int (nI k73)), (7, .int v7_73), (6, .int v6_73), (5, .int 1), (0, .ref (ad 5 i)), (2, .int g), (3, .int r)]) hx hb dX5_countWays_90 hl (by decide) rfl (fun ls hl => ?_)
              refine lv_iload hx hb dX5_countWays_92 (lv_at hl 0 rfl) ?_
              refine lv_iconst (v := (-1)) hx hb dX5_countWays_94 (by decide) ?_
              refine lv_icmp_eq (tgt := 126) hx hb dX5_countWays_95 (by decide) (fun c_12 => ?_) (fun c_12 => ?_)
              · refine lv_iinc (v := nI (k73 + 1)) (lv' := [(8, .int (nI (k73 + 1))), (9, .int (σ 20 i (6 + k73))), (7, .int v7_73), (6, .int v6_73), (5, .int 1), (0, .ref (ad 5 i)), (2, .int g), (3, .int r)]) hx hb dX5_countWays_126 hl (k := 1) rfl (nI_1 _) (by decide) rfl (fun ls hl => ?_)
                refine lv_goto (tgt := 73) hx hb dX5_countWays_129 (by decide) ?_
                refine ih_73 (k73 + 1) v6_73 v7_73 _ _ _ (by omega) (by omega)  hW hS (lv_sub hl [0, 2, 3, 4, 5, 6, 7] rfl) ?_
                rw [hO, f_X5_countWays_L73, if_neg c_8, if_pos c_12]
              · refine lv_iload_n hx hb dX5_countWays_98 rfl (lv_at hl 6 rfl) ?_
                refine lv_iload hx hb dX5_countWays_99 (lv_at hl 1 rfl) ?_
                refine lv_ishr hx hb dX5_countWays_101 ?_
                refine lv_iconst (v := 1) hx hb dX5_countWays_102 (by decide) ?_
                refine lv_iand hx hb dX5_countWays_103 ?_
                refine lv_if_eq (tgt := 126) hx hb dX5_countWays_104 (by decide) (fun c_13 => ?_) (fun c_13 => ?_)
                · refine lv_iinc (v := nI (k73 + 1)) (lv' := [(8, .int (nI (k73 + 1))), (9, .int (σ 20 i (6 + k73))), (7, .int v7_73), (6, .int v6_73), (5, .int 1), (0, .ref (ad 5 i)), (2, .int g), (3, .int r)]) hx hb dX5_countWays_126 hl (k := 1) rfl (nI_1 _) (by decide) rfl (fun ls hl => ?_)
                  refine lv_goto (tgt := 73) hx hb dX5_countWays_129 (by decide) ?_
                  refine ih_73 (k73 + 1) v6_73 v7_73 _ _ _ (by omega) (by omega)  hW hS (lv_sub hl [0, 2, 3, 4, 5, 6, 7] rfl) ?_
                  rw [hO, f_X5_countWays_L73, if_neg c_8, if_neg c_12, if_pos c_13]
                · refine lv_iconst (v := 1) hx hb dX5_countWays_107 (by decide) ?_
                  refine lv_istore (lv' := [(7, .int 1), (9, .int (σ 20 i (6 + k73))), (8, .int (nI k73)), (6, .int v6_73), (5, .int 1), (0, .ref (ad 5 i)), (2, .int g), (3, .int r)]) hx hb dX5_countWays_108 hl (by decide) rfl (fun ls hl => ?_)
                  refine lv_iload hx hb dX5_countWays_110 (lv_at hl 3 rfl) ?_
                  refine lv_iload hx hb dX5_countWays_112 (lv_at hl 1 rfl) ?_
                  refine lv_aload_n hx hb dX5_countWays_114 rfl (lv_at hl 5 rfl) ?_
                  refine gf_X5_9 hC hW (mm_5 hi) dX5_countWays_115 ?_
                  refine lv_iand hx hb dX5_countWays_118 ?_
                  refine lv_iload_n hx hb dX5_countWays_119 rfl (lv_at hl 7 rfl) ?_
                  refine w_callS (As := [.int ((σ 20 i (6 + k73)) &&& (σ 5 i 6)), .int r]) (rest := .int v6_73 :: []) (st2 := .int (f_X5_oneIfIn ((σ 20 i (6 + k73)) &&& (σ 5 i 6)) r) :: .int v6_73 :: []) hC hW hS hl cs_X5_47 (c_X5_oneIfIn l hl9 D ca base ad σ ((σ 20 i (6 + k73)) &&& (σ 5 i 6)) r ) rfl rfl rfl ⟨Nat.le_of_ble_eq_true rfl, Nat.le_of_ble_eq_true rfl⟩ (Nat.le_of_ble_eq_true rfl) dX5_countWays_120 ⟨Nat.le_of_ble_eq_true rfl, Nat.le_of_ble_eq_true rfl⟩ (fun H locs hW hS => ?_)
                  refine lv_iadd hx hb dX5_countWays_123 ?_
                  refine lv_istore (lv' := [(6, .int (v6_73 + (f_X5_oneIfIn ((σ 20 i (6 + k73)) &&& (σ 5 i 6)) r))), (7, .int 1), (9, .int (σ 20 i (6 + k73))), (8, .int (nI k73)), (5, .int 1), (0, .ref (ad 5 i)), (2, .int g), (3, .int r)]) hx hb dX5_countWays_124 hl (by decide) rfl (fun ls hl => ?_)
                  refine lv_iinc (v := nI (k73 + 1)) (lv' := [(8, .int (nI (k73 + 1))), (6, .int (v6_73 + (f_X5_oneIfIn ((σ 20 i (6 + k73)) &&& (σ 5 i 6)) r))), (7, .int 1), (9, .int (σ 20 i (6 + k73))), (5, .int 1), (0, .ref (ad 5 i)), (2, .int g), (3, .int r)]) hx hb dX5_countWays_126 hl (k := 3) rfl (nI_1 _) (by decide) rfl (fun ls hl => ?_)
                  refine lv_goto (tgt := 73) hx hb dX5_countWays_129 (by decide) ?_
                  refine ih_73 (k73 + 1) (v6_73 + (f_X5_oneIfIn ((σ 20 i (6 + k73)) &&& (σ 5 i 6)) r)) 1 _ _ _ (by omega) (by omega)  hW hS (lv_sub hl [0, 2, 1, 4, 5, 6, 7] rfl) ?_
                  rw [hO, f_X5_countWays_L73, if_neg c_8, if_neg c_12, if_neg c_13]
        refine h_73 7 0 0 1 _ _ _ (by omega) (by omega)  hW hS (lv_sub hl [0, 1, 2, 3, 5, 7, 8] rfl) ?_
        rw [f_X5_countWays, if_neg c_1, if_pos c_2, if_neg c_3]
    · refine lv_iload hx hb dX5_countWays_33 (lv_at hl 0 rfl) ?_
      refine lv_aload_n hx hb dX5_countWays_35 rfl (lv_at hl 1 rfl) ?_
      refine gf_X5_9 hC hW (mm_5 hi) dX5_countWays_36 ?_
      refine lv_iand hx hb dX5_countWays_39 ?_
      refine lv_iload_n hx hb dX5_countWays_40 rfl (lv_at hl 4 rfl) ?_
      refine w_callS (As := [.int ((f_X5_rightsOf i u σ) &&& (σ 5 i 6)), .int r]) (rest := []) (st2 := .int (f_X5_oneIfIn ((f_X5_rightsOf i u σ) &&& (σ 5 i 6)) r) :: []) hC hW hS hl cs_X5_47 (c_X5_oneIfIn l hl9 D ca base ad σ ((f_X5_rightsOf i u σ) &&& (σ 5 i 6)) r ) rfl rfl rfl ⟨Nat.le_of_ble_eq_true rfl, Nat.le_of_ble_eq_true rfl⟩ (Nat.le_of_ble_eq_true rfl) dX5_countWays_41 ⟨Nat.le_of_ble_eq_true rfl, Nat.le_of_ble_eq_true rfl⟩ (fun H locs hW hS => ?_)
      have hO : f_X5_countWays i u g r σ = f_X5_oneIfIn ((f_X5_rightsOf i u σ) &&& (σ 5 i 6)) r := by rw [f_X5_countWays, if_neg c_1, if_neg c_2]
      exact w_iretP hC hW hS hO (Nat.le_of_ble_eq_true rfl) (Nat.le_of_ble_eq_true rfl) dX5_countWays_44
  · refine lv_aload_n hx hb dX5_countWays_8 rfl (lv_at hl 0 rfl) ?_
    refine gf_X5_35 hC hW (mm_5 hi) dX5_countWays_9 ?_
    refine lv_bipush (v := 6) hx hb dX5_countWays_12 (by decide) ?_
    refine lv_ishr hx hb dX5_countWays_14 ?_
    refine lv_iload_n hx hb dX5_countWays_15 rfl (lv_at hl 3 rfl) ?_
    refine w_callS (As := [.int ((σ 5 i 2) >>> ((6 : Int32) &&& 31)), .int r]) (rest := []) (st2 := .int (f_X5_oneIfIn ((σ 5 i 2) >>> ((6 : Int32) &&& 31)) r) :: []) hC hW hS hl cs_X5_47 (c_X5_oneIfIn l hl9 D ca base ad σ ((σ 5 i 2) >>> ((6 : Int32) &&& 31)) r ) rfl rfl rfl ⟨Nat.le_of_ble_eq_true rfl, Nat.le_of_ble_eq_true rfl⟩ (Nat.le_of_ble_eq_true rfl) dX5_countWays_16 ⟨Nat.le_of_ble_eq_true rfl, Nat.le_of_ble_eq_true rfl⟩ (fun H locs hW hS => ?_)
    have hO : f_X5_countWays i u g r σ = f_X5_oneIfIn ((σ 5 i 2) >>> ((6 : Int32) &&& 31)) r := by rw [f_X5_countWays, if_pos c_1]
    exact w_iretP hC hW hS hO (Nat.le_of_ble_eq_true rfl) (Nat.le_of_ble_eq_true rfl) dX5_countWays_19

def f_X5_allowsAnew_K16 (i : Nat) (u : Int32) (g : Int32) (r : Int32) (x16_4 : Int32) (x16_5 : Int32) (x16_6 : Int32) (x16_7 : Int32) (σ : Sg) : Int32 :=
  if ((g >>> ((σ 5 i 1) &&& 31)) &&& (1 : Int32)) = 0 then (if x16_7 = 0 then (if x16_6 = (-1) then (if u = (σ 5 i 0) then (if (((σ 5 i 2) >>> ((6 : Int32) &&& 31)) &&& r) = 0 then 0
          else 1)
        else if (((σ 5 i 2) >>> ((0 : Int32) &&& 31)) &&& r) = 0 then 0
        else 1)
      else if u = (σ 5 i 0) then (if (((σ 5 i 2) >>> ((6 : Int32) &&& 31)) &&& r) = 0 then 0
        else 1)
      else if ((x16_6 &&& (σ 5 i 6)) &&& r) = 0 then 0
      else 1)
    else if x16_6 = (-1) then (if u = (σ 5 i 0) then (if (((σ 5 i 2) >>> ((6 : Int32) &&& 31)) &&& r) = 0 then 0
        else 1)
      else if (x16_4 &&& r) = 0 then 0
      else 1)
    else if u = (σ 5 i 0) then (if (((σ 5 i 2) >>> ((6 : Int32) &&& 31)) &&& r) = 0 then 0
      else 1)
    else if ((x16_6 &&& (σ 5 i 6)) &&& r) = 0 then 0
    else 1)
  else if x16_6 = (-1) then (if u = (σ 5 i 0) then (if (((σ 5 i 2) >>> ((6 : Int32) &&& 31)) &&& r) = 0 then 0
      else 1)
    else if ((x16_4 ||| (((σ 5 i 2) >>> ((3 : Int32) &&& 31)) &&& x16_5)) &&& r) = 0 then 0
    else 1)
  else if u = (σ 5 i 0) then (if (((σ 5 i 2) >>> ((6 : Int32) &&& 31)) &&& r) = 0 then 0
    else 1)
  else if ((x16_6 &&& (σ 5 i 6)) &&& r) = 0 then 0
  else 1
def f_X5_allowsAnew_L16 (i : Nat) (u : Int32) (g : Int32) (r : Int32) : Nat → Nat → Int32 → Int32 → Int32 → Int32 → Sg → Int32 × Int32 × Int32 × Int32
  | 0, _, v4_16, v5_16, v6_16, v7_16, _ => (v4_16, v5_16, v6_16, v7_16)
  | n16 + 1, k16, v4_16, v5_16, v6_16, v7_16, σ => if 12 ≤ (nI k16) then (v4_16, v5_16, v6_16, v7_16)
    else if (σ 20 i k16) = (-1) then f_X5_allowsAnew_L16 i u g r n16 (k16 + 1) v4_16 v5_16 v6_16 v7_16 σ
    else if (nI k16) = u then (if (nI k16) < 6 then f_X5_allowsAnew_L16 i u g r n16 (k16 + 1) v4_16 (σ 5 i 6) (σ 20 i k16) v7_16 σ
      else if ((g >>> (((nI k16) - (6 : Int32)) &&& 31)) &&& (1 : Int32)) = 0 then f_X5_allowsAnew_L16 i u g r n16 (k16 + 1) v4_16 (σ 5 i 6) (σ 20 i k16) v7_16 σ
      else f_X5_allowsAnew_L16 i u g r n16 (k16 + 1) (v4_16 ||| ((σ 20 i k16) &&& (σ 5 i 6))) (σ 5 i 6) (σ 20 i k16) 1 σ)
    else if (nI k16) < 6 then f_X5_allowsAnew_L16 i u g r n16 (k16 + 1) v4_16 (σ 5 i 6) v6_16 v7_16 σ
    else if ((g >>> (((nI k16) - (6 : Int32)) &&& 31)) &&& (1 : Int32)) = 0 then f_X5_allowsAnew_L16 i u g r n16 (k16 + 1) v4_16 (σ 5 i 6) v6_16 v7_16 σ
    else f_X5_allowsAnew_L16 i u g r n16 (k16 + 1) (v4_16 ||| ((σ 20 i k16) &&& (σ 5 i 6))) (σ 5 i 6) v6_16 1 σ
def f_X5_allowsAnew (i : Nat) (u : Int32) (g : Int32) (r : Int32) (σ : Sg) : Int32 :=
  f_X5_allowsAnew_K16 i u g r (f_X5_allowsAnew_L16 i u g r 13 0 0 7 (-1) 0 σ).1 (f_X5_allowsAnew_L16 i u g r 13 0 0 7 (-1) 0 σ).2.1 (f_X5_allowsAnew_L16 i u g r 13 0 0 7 (-1) 0 σ).2.2.1 (f_X5_allowsAnew_L16 i u g r 13 0 0 7 (-1) 0 σ).2.2.2 σ
set_option maxHeartbeats 4000000 in
set_option maxRecDepth 100000 in
theorem c_X5_allowsAnew (l : Launch) (hl9 : l.stackTraces = false) (D : va_G) (ca : Nat → ClassId) (base : Nat) (ad : Adr) (σ : Sg) (i : Nat) (u : Int32) (g : Int32) (r : Int32) (hi : i < 13) : Mt l yX5_allowsAnew cX5_allowsAnew 9 (some .boolean) { frames := 0, cells := 0, slots := 0, locals := 0 } D ca base ad ρm Lm [.ref (ad 5 i), .int u, .int g, .int r] σ (some (.int (f_X5_allowsAnew i u g r σ))) σ := by
  refine w_ofW (by decide) (Nat.le_of_ble_eq_true rfl) rfl ?_
  intro p e s m args below meth c hC hW hS ls hl hin
  have hx := hC.1
  have hb := hC.2.1
  refine lv_iconst (v := 0) hx hb dX5_allowsAnew_0 (by decide) ?_
  refine lv_istore (lv' := [(4, .int 0), (0, .ref (ad 5 i)), (1, .int u), (2, .int g), (3, .int r)]) hx hb dX5_allowsAnew_1 hl (by decide) rfl (fun ls hl => ?_)
  refine lv_bipush (v := 7) hx hb dX5_allowsAnew_3 (by decide) ?_
  refine lv_istore (lv' := [(5, .int 7), (4, .int 0), (0, .ref (ad 5 i)), (1, .int u), (2, .int g), (3, .int r)]) hx hb dX5_allowsAnew_5 hl (by decide) rfl (fun ls hl => ?_)
  refine lv_iconst (v := (-1)) hx hb dX5_allowsAnew_7 (by decide) ?_
  refine lv_istore (lv' := [(6, .int (-1)), (5, .int 7), (4, .int 0), (0, .ref (ad 5 i)), (1, .int u), (2, .int g), (3, .int r)]) hx hb dX5_allowsAnew_8 hl (by decide) rfl (fun ls hl => ?_)
  refine lv_iconst (v := 0) hx hb dX5_allowsAnew_10 (by decide) ?_
  refine lv_istore (lv' := [(7, .int 0), (6, .int (-1)), (5, .int 7), (4, .int 0), (0, .ref (ad 5 i)), (1, .int u), (2, .int g), (3, .int r)]) hx hb dX5_allowsAnew_11 hl (by decide) rfl (fun ls hl => ?_)
  refine lv_iconst (v := 0) hx hb dX5_allowsAnew_13 (by decide) ?_
  refine lv_istore (lv' := [(8, .int 0), (7, .int 0), (6, .int (-1)), (5, .int 7), (4, .int 0), (0, .ref (ad 5 i)), (1, .int u), (2, .int g), (3, .int r)]) hx hb dX5_allowsAnew_14 hl (by decide) rfl (fun ls hl => ?_)
  have h_16 : ∀ (n16 k16 : Nat) (v4_16 v5_16 v6_16 v7_16 : Int32) (H : Heap) (locs : List Loc) (ls : Array Slot), 13 ≤ k16 + n16 → k16 ≤ 12 → Wd D ca (Ab base) ad ρm Lm σ H → va_S (Ab base) s.heap H locs → lv_has ls 9 [(8, .int (nI k16)), (7, .int v7_16), (6, .int v6_16), (5, .int v5_16), (4, .int v4_16), (0, .ref (ad 5 i)), (1, .int u), (2, .int g), (3, .int r)] → f_X5_allowsAnew i u g r σ = (f_X5_allowsAnew_K16 i u g r (f_X5_allowsAnew_L16 i u g r n16 k16 v4_16 v5_16 v6_16 v7_16 σ).1 (f_X5_allowsAnew_L16 i u g r n16 k16 v4_16 v5_16 v6_16 v7_16 σ).2.1 (f_X5_allowsAnew_L16 i u g r n16 k16 v4_16 v5_16 v6_16 v7_16 σ).2.2.1 (f_X5_allowsAnew_L16 i u g r n16 k16 v4_16 v5_16 v6_16 v7_16 σ).2.2.2 σ) → W p l e ({ frames := 0, cells := 0, slots := 0, locals := 0 } : Room) s m args below meth c H locs 0 0 (MQ below (Rt D ca base ad ρm Lm σ (some (.int (f_X5_allowsAnew i u g r σ)))) args s 0 0 (Ab base)) (F0 m 16 ls []) := by
    intro n16
    induction n16 with
    | zero =>
      intro k16 v4_16 v5_16 v6_16 v7_16 H locs ls hk1_16 hk2_16 hW hS hl hO
      exact absurd hk1_16 (by omega)
    | succ n16 ih_16 =>
      intro k16 v4_16 v5_16 v6_16 v7_16 H locs ls hk1_16 hk2_16 hW hS hl hO
      refine lv_iload hx hb dX5_allowsAnew_16 (lv_at hl 0 rfl) ?_
      refine lv_bipush (v := 12) hx hb dX5_allowsAnew_18 (by decide) ?_
      refine lv_icmp_ge (tgt := 100) hx hb dX5_allowsAnew_20 (by decide) (fun c_1 => ?_) (fun c_1 => ?_)
      · replace hl := lv_sub hl [1, 2, 3, 4, 5, 6, 7, 8] (l' := [(7, .int v7_16), (6, .int v6_16), (5, .int v5_16), (4, .int v4_16), (0, .ref (ad 5 i)), (1, .int u), (2, .int g), (3, .int r)]) rfl
        refine lv_iload_n hx hb dX5_allowsAnew_100 rfl (lv_at hl 6 rfl) ?_
        refine lv_aload_n hx hb dX5_allowsAnew_101 rfl (lv_at hl 4 rfl) ?_
        refine gf_X5_32 hC hW (mm_5 hi) dX5_allowsAnew_102 ?_
        refine lv_ishr hx hb dX5_allowsAnew_105 ?_
        refine lv_iconst (v := 1) hx hb dX5_allowsAnew_106 (by decide) ?_
        refine lv_iand hx hb dX5_allowsAnew_107 ?_
        refine lv_if_eq (tgt := 128) hx hb dX5_allowsAnew_108 (by decide) (fun c_2 => ?_) (fun c_2 => ?_)
        · refine lv_iload hx hb dX5_allowsAnew_128 (lv_at hl 0 rfl) ?_
          refine lv_if_eq (tgt := 138) hx hb dX5_allowsAnew_130 (by decide) (fun c_3 => ?_) (fun c_3 => ?_)
          · refine lv_aload_n hx hb dX5_allowsAnew_138 rfl (lv_at hl 4 rfl) ?_
            refine gf_X5_35 hC hW (mm_5 hi) dX5_allowsAnew_139 ?_
            refine lv_iconst (v := 0) hx hb dX5_allowsAnew_142 (by decide) ?_
            refine lv_ishr hx hb dX5_allowsAnew_143 ?_
            refine lv_istore (lv' := [(8, .int ((σ 5 i 2) >>> ((0 : Int32) &&& 31))), (7, .int v7_16), (6, .int v6_16), (5, .int v5_16), (4, .int v4_16), (0, .ref (ad 5 i)), (1, .int u), (2, .int g), (3, .int r)]) hx hb dX5_allowsAnew_144 hl (by decide) rfl (fun ls hl => ?_)
            refine lv_iload hx hb dX5_allowsAnew_146 (lv_at hl 2 rfl) ?_
            refine lv_iconst (v := (-1)) hx hb dX5_allowsAnew_148 (by decide) ?_
            refine lv_icmp_eq (tgt := 161) hx hb dX5_allowsAnew_149 (by decide) (fun c_4 => ?_) (fun c_4 => ?_)
            · refine lv_iload_n hx hb dX5_allowsAnew_161 rfl (lv_at hl 6 rfl) ?_
              refine lv_aload_n hx hb dX5_allowsAnew_162 rfl (lv_at hl 5 rfl) ?_
              refine gf_X5_29 hC hW (mm_5 hi) dX5_allowsAnew_163 ?_
              refine lv_icmp_ne (tgt := 178) hx hb dX5_allowsAnew_166 (by decide) (fun c_5 => ?_) (fun c_5 => ?_)
              · refine lv_iload hx hb dX5_allowsAnew_178 (lv_at hl 0 rfl) ?_
                refine lv_iload_n hx hb dX5_allowsAnew_180 rfl (lv_at hl 8 rfl) ?_
                refine lv_iand hx hb dX5_allowsAnew_181 ?_
                refine lv_if_eq (tgt := 189) hx hb dX5_allowsAnew_182 (by decide) (fun c_6 => ?_) (fun c_6 => ?_)
                · refine lv_iconst (v := 0) hx hb dX5_allowsAnew_189 (by decide) ?_
                  have hO : f_X5_allowsAnew i u g r σ = 0 := by rw [hO, f_X5_allowsAnew_L16, if_pos c_1, f_X5_allowsAnew_K16, if_pos c_2, if_pos c_3, if_pos c_4, if_neg c_5, if_pos c_6]
                  exact w_zretP hC hW hS (by decide) hO (Nat.le_of_ble_eq_true rfl) (Nat.le_of_ble_eq_true rfl) dX5_allowsAnew_190
                · refine lv_iconst (v := 1) hx hb dX5_allowsAnew_185 (by decide) ?_
                  refine lv_goto (tgt := 190) hx hb dX5_allowsAnew_186 (by decide) ?_
                  have hO : f_X5_allowsAnew i u g r σ = 1 := by rw [hO, f_X5_allowsAnew_L16, if_pos c_1, f_X5_allowsAnew_K16, if_pos c_2, if_pos c_3, if_pos c_4, if_neg c_5, if_neg c_6]
                  exact w_zretP hC hW hS (by decide) hO (Nat.le_of_ble_eq_true rfl) (Nat.le_of_ble_eq_true rfl) dX5_allowsAnew_190
              · refine lv_aload_n hx hb dX5_allowsAnew_169 rfl (lv_at hl 5 rfl) ?_
                refine gf_X5_35 hC hW (mm_5 hi) dX5_allowsAnew_170 ?_
                refine lv_bipush (v := 6) hx hb dX5_allowsAnew_173 (by decide) ?_
                refine lv_ishr hx hb dX5_allowsAnew_175 ?_
                refine lv_istore (lv' := [(8, .int ((σ 5 i 2) >>> ((6 : Int32) &&& 31))), (7, .int v7_16), (6, .int v6_16), (5, .int v5_16), (4, .int v4_16), (0, .ref (ad 5 i)), (1, .int u), (2, .int g), (3, .int r)]) hx hb dX5_allowsAnew_176 hl (by decide) rfl (fun ls hl => ?_)
                refine lv_iload hx hb dX5_allowsAnew_178 (lv_at hl 0 rfl) ?_
                refine lv_iload_n hx hb dX5_allowsAnew_180 rfl (lv_at hl 8 rfl) ?_
                refine lv_iand hx hb dX5_allowsAnew_181 ?_
                refine lv_if_eq (tgt := 189) hx hb dX5_allowsAnew_182 (by decide) (fun c_7 => ?_) (fun c_7 => ?_)
                · refine lv_iconst (v := 0) hx hb dX5_allowsAnew_189 (by decide) ?_
                  have hO : f_X5_allowsAnew i u g r σ = 0 := by rw [hO, f_X5_allowsAnew_L16, if_pos c_1, f_X5_allowsAnew_K16, if_pos c_2, if_pos c_3, if_pos c_4, if_pos c_5, if_pos c_7]
                  exact w_zretP hC hW hS (by decide) hO (Nat.le_of_ble_eq_true rfl) (Nat.le_of_ble_eq_true rfl) dX5_allowsAnew_190
                · refine lv_iconst (v := 1) hx hb dX5_allowsAnew_185 (by decide) ?_
                  refine lv_goto (tgt := 190) hx hb dX5_allowsAnew_186 (by decide) ?_
                  have hO : f_X5_allowsAnew i u g r σ = 1 := by rw [hO, f_X5_allowsAnew_L16, if_pos c_1, f_X5_allowsAnew_K16, if_pos c_2, if_pos c_3, if_pos c_4, if_pos c_5, if_neg c_7]
                  exact w_zretP hC hW hS (by decide) hO (Nat.le_of_ble_eq_true rfl) (Nat.le_of_ble_eq_true rfl) dX5_allowsAnew_190
            · refine lv_iload hx hb dX5_allowsAnew_152 (lv_at hl 2 rfl) ?_
              refine lv_aload_n hx hb dX5_allowsAnew_154 rfl (lv_at hl 5 rfl) ?_
              refine gf_X5_9 hC hW (mm_5 hi) dX5_allowsAnew_155 ?_
              refine lv_iand hx hb dX5_allowsAnew_158 ?_
              refine lv_istore (lv' := [(8, .int (v6_16 &&& (σ 5 i 6))), (7, .int v7_16), (6, .int v6_16), (5, .int v5_16), (4, .int v4_16), (0, .ref (ad 5 i)), (1, .int u), (2, .int g), (3, .int r)]) hx hb dX5_allowsAnew_159 hl (by decide) rfl (fun ls hl => ?_)
              refine lv_iload_n hx hb dX5_allowsAnew_161 rfl (lv_at hl 6 rfl) ?_
              refine lv_aload_n hx hb dX5_allowsAnew_162 rfl (lv_at hl 5 rfl) ?_
              refine gf_X5_29 hC hW (mm_5 hi) dX5_allowsAnew_163 ?_
              refine lv_icmp_ne (tgt := 178) hx hb dX5_allowsAnew_166 (by decide) (fun c_8 => ?_) (fun c_8 => ?_)
              · refine lv_iload hx hb dX5_allowsAnew_178 (lv_at hl 0 rfl) ?_
                refine lv_iload_n hx hb dX5_allowsAnew_180 rfl (lv_at hl 8 rfl) ?_
                refine lv_iand hx hb dX5_allowsAnew_181 ?_
                refine lv_if_eq (tgt := 189) hx hb dX5_allowsAnew_182 (by decide) (fun c_9 => ?_) (fun c_9 => ?_)
                · refine lv_iconst (v := 0) hx hb dX5_allowsAnew_189 (by decide) ?_
                  have hO : f_X5_allowsAnew i u g r σ = 0 := by rw [hO, f_X5_allowsAnew_L16, if_pos c_1, f_X5_allowsAnew_K16, if_pos c_2, if_pos c_3, if_neg c_4, if_neg c_8, if_pos c_9]
                  exact w_zretP hC hW hS (by decide) hO (Nat.le_of_ble_eq_true rfl) (Nat.le_of_ble_eq_true rfl) dX5_allowsAnew_190
                · refine lv_iconst (v := 1) hx hb dX5_allowsAnew_185 (by decide) ?_
                  refine lv_goto (tgt := 190) hx hb dX5_allowsAnew_186 (by decide) ?_
                  have hO : f_X5_allowsAnew i u g r σ = 1 := by rw [hO, f_X5_allowsAnew_L16, if_pos c_1, f_X5_allowsAnew_K16, if_pos c_2, if_pos c_3, if_neg c_4, if_neg c_8, if_neg c_9]
                  exact w_zretP hC hW hS (by decide) hO (Nat.le_of_ble_eq_true rfl) (Nat.le_of_ble_eq_true rfl) dX5_allowsAnew_190
              · refine lv_aload_n hx hb dX5_allowsAnew_169 rfl (lv_at hl 5 rfl) ?_
                refine gf_X5_35 hC hW (mm_5 hi) dX5_allowsAnew_170 ?_
                refine lv_bipush (v := 6) hx hb dX5_allowsAnew_173 (by decide) ?_
                refine lv_ishr hx hb dX5_allowsAnew_175 ?_
                refine lv_istore (lv' := [(8, .int ((σ 5 i 2) >>> ((6 : Int32) &&& 31))), (7, .int v7_16), (6, .int v6_16), (5, .int v5_16), (4, .int v4_16), (0, .ref (ad 5 i)), (1, .int u), (2, .int g), (3, .int r)]) hx hb dX5_allowsAnew_176 hl (by decide) rfl (fun ls hl => ?_)
                refine lv_iload hx hb dX5_allowsAnew_178 (lv_at hl 0 rfl) ?_
                refine lv_iload_n hx hb dX5_allowsAnew_180 rfl (lv_at hl 8 rfl) ?_
                refine lv_iand hx hb dX5_allowsAnew_181 ?_
                refine lv_if_eq (tgt := 189) hx hb dX5_allowsAnew_182 (by decide) (fun c_10 => ?_) (fun c_10 => ?_)
                · refine lv_iconst (v := 0) hx hb dX5_allowsAnew_189 (by decide) ?_
                  have hO : f_X5_allowsAnew i u g r σ = 0 := by rw [hO, f_X5_allowsAnew_L16, if_pos c_1, f_X5_allowsAnew_K16, if_pos c_2, if_pos c_3, if_neg c_4, if_pos c_8, if_pos c_10]
                  exact w_zretP hC hW hS (by decide) hO (Nat.le_of_ble_eq_true rfl) (Nat.le_of_ble_eq_true rfl) dX5_allowsAnew_190
                · refine lv_iconst (v := 1) hx hb dX5_allowsAnew_185 (by decide) ?_
                  refine lv_goto (tgt := 190) hx hb dX5_allowsAnew_186 (by decide) ?_
                  have hO : f_X5_allowsAnew i u g r σ = 1 := by rw [hO, f_X5_allowsAnew_L16, if_pos c_1, f_X5_allowsAnew_K16, if_pos c_2, if_pos c_3, if_neg c_4, if_pos c_8, if_neg c_10]
                  exact w_zretP hC hW hS (by decide) hO (Nat.le_of_ble_eq_true rfl) (Nat.le_of_ble_eq_true rfl) dX5_allowsAnew_190
          · refine lv_iload hx hb dX5_allowsAnew_133 (lv_at hl 3 rfl) ?_
            refine lv_goto (tgt := 144) hx hb dX5_allowsAnew_135 (by decide) ?_
            refine lv_istore (lv' := [(8, .int v4_16), (7, .int v7_16), (6, .int v6_16), (5, .int v5_16), (4, .int v4_16), (0, .ref (ad 5 i)), (1, .int u), (2, .int g), (3, .int r)]) hx hb dX5_allowsAnew_144 hl (by decide) rfl (fun ls hl => ?_)
            refine lv_iload hx hb dX5_allowsAnew_146 (lv_at hl 2 rfl) ?_
            refine lv_iconst (v := (-1)) hx hb dX5_allowsAnew_148 (by decide) ?_
            refine lv_icmp_eq (tgt := 161) hx hb dX5_allowsAnew_149 (by decide) (fun c_11 => ?_) (fun c_11 => ?_)
            · refine lv_iload_n hx hb dX5_allowsAnew_161 rfl (lv_at hl 6 rfl) ?_
              refine lv_aload_n hx hb dX5_allowsAnew_162 rfl (lv_at hl 5 rfl) ?_
              refine gf_X5_29 hC hW (mm_5 hi) dX5_allowsAnew_163 ?_
              refine lv_icmp_ne (tgt := 178) hx hb dX5_allowsAnew_166 (by decide) (fun c_12 => ?_) (fun c_12 => ?_)
              · refine lv_iload hx hb dX5_allowsAnew_178 (lv_at hl 0 rfl) ?_
                refine lv_iload_n hx hb dX5_allowsAnew_180 rfl (lv_at hl 8 rfl) ?_
                refine lv_iand hx hb dX5_allowsAnew_181 ?_
                refine lv_if_eq (tgt := 189) hx hb dX5_allowsAnew_182 (by decide) (fun c_13 => ?_) (fun c_13 => ?_)
                · refine lv_iconst (v := 0) hx hb dX5_allowsAnew_189 (by decide) ?_
                  have hO : f_X5_allowsAnew i u g r σ = 0 := by rw [hO, f_X5_allowsAnew_L16, if_pos c_1, f_X5_allowsAnew_K16, if_pos c_2, if_neg c_3, if_pos c_11, if_neg c_12, if_pos c_13]
                  exact w_zretP hC hW hS (by decide) hO (Nat.le_of_ble_eq_true rfl) (Nat.le_of_ble_eq_true rfl) dX5_allowsAnew_190
                · refine lv_iconst (v := 1) hx hb dX5_allowsAnew_185 (by decide) ?_
                  refine lv_goto (tgt := 190) hx hb dX5_allowsAnew_186 (by decide) ?_
                  have hO : f_X5_allowsAnew i u g r σ = 1 := by rw [hO, f_X5_allowsAnew_L16, if_pos c_1, f_X5_allowsAnew_K16, if_pos c_2, if_neg c_3, if_pos c_11, if_neg c_12, if_neg c_13]
                  exact w_zretP hC hW hS (by decide) hO (Nat.le_of_ble_eq_true rfl) (Nat.le_of_ble_eq_true rfl) dX5_allowsAnew_190
              · refine lv_aload_n hx hb dX5_allowsAnew_169 rfl (lv_at hl 5 rfl) ?_
                refine gf_X5_35 hC hW (mm_5 hi) dX5_allowsAnew_170 ?_
                refine lv_bipush (v := 6) hx hb dX5_allowsAnew_173 (by decide) ?_
                refine lv_ishr hx hb dX5_allowsAnew_175 ?_
                refine lv_istore (lv' := [(8, .int ((σ 5 i 2) >>> ((6 : Int32) &&& 31))), (7, .int v7_16), (6, .int v6_16), (5, .int v5_16), (4, .int v4_16), (0, .ref (ad 5 i)), (1, .int u), (2, .int g), (3, .int r)]) hx hb dX5_allowsAnew_176 hl (by decide) rfl (fun ls hl => ?_)
                refine lv_iload hx hb dX5_allowsAnew_178 (lv_at hl 0 rfl) ?_
                refine lv_iload_n hx hb dX5_allowsAnew_180 rfl (lv_at hl 8 rfl) ?_
                refine lv_iand hx hb dX5_allowsAnew_181 ?_
                refine lv_if_eq (tgt := 189) hx hb dX5_allowsAnew_182 (by decide) (fun c_14 => ?_) (fun c_14 => ?_)
                · refine lv_iconst (v := 0) hx hb dX5_allowsAnew_189 (by decide) ?_
                  have hO : f_X5_allowsAnew i u g r σ = 0 := by rw [hO, f_X5_allowsAnew_L16, if_pos c_1, f_X5_allowsAnew_K16, if_pos c_2, if_neg c_3, if_pos c_11, if_pos c_12, if_pos c_14]
                  exact w_zretP hC hW hS (by decide) hO (Nat.le_of_ble_eq_true rfl) (Nat.le_of_ble_eq_true rfl) dX5_allowsAnew_190
                · refine lv_iconst (v := 1) hx hb dX5_allowsAnew_185 (by decide) ?_
                  refine lv_goto (tgt := 190) hx hb dX5_allowsAnew_186 (by decide) ?_
                  have hO : f_X5_allowsAnew i u g r σ = 1 := by rw [hO, f_X5_allowsAnew_L16, if_pos c_1, f_X5_allowsAnew_K16, if_pos c_2, if_neg c_3, if_pos c_11, if_pos c_12, if_neg c_14]
                  exact w_zretP hC hW hS (by decide) hO (Nat.le_of_ble_eq_true rfl) (Nat.le_of_ble_eq_true rfl) dX5_allowsAnew_190
            · refine lv_iload hx hb dX5_allowsAnew_152 (lv_at hl 2 rfl) ?_
              refine lv_aload_n hx hb dX5_allowsAnew_154 rfl (lv_at hl 5 rfl) ?_
              refine gf_X5_9 hC hW (mm_5 hi) dX5_allowsAnew_155 ?_
              refine lv_iand hx hb dX5_allowsAnew_158 ?_
              refine lv_istore (lv' := [(8, .int (v6_16 &&& (σ 5 i 6))), (7, .int v7_16), (6, .int v6_16), (5, .int v5_16), (4, .int v4_16), (0, .ref (ad 5 i)), (1, .int u), (2, .int g), (3, .int r)]) hx hb dX5_allowsAnew_159 hl (by decide) rfl (fun ls hl => ?_)
              refine lv_iload_n hx hb dX5_allowsAnew_161 rfl (lv_at hl 6 rfl) ?_
              refine lv_aload_n hx hb dX5_allowsAnew_162 rfl (lv_at hl 5 rfl) ?_
              refine gf_X5_29 hC hW (mm_5 hi) dX5_allowsAnew_163 ?_
              refine lv_icmp_ne (tgt := 178) hx hb dX5_allowsAnew_166 (by decide) (fun c_15 => ?_) (fun c_15 => ?_)
              · refine lv_iload hx hb dX5_allowsAnew_178 (lv_at hl 0 rfl) ?_
                refine lv_iload_n hx hb dX5_allowsAnew_180 rfl (lv_at hl 8 rfl) ?_
                refine lv_iand hx hb dX5_allowsAnew_181 ?_
                refine lv_if_eq (tgt := 189) hx hb dX5_allowsAnew_182 (by decide) (fun c_16 => ?_) (fun c_16 => ?_)
                · refine lv_iconst (v := 0) hx hb dX5_allowsAnew_189 (by decide) ?_
                  have hO : f_X5_allowsAnew i u g r σ = 0 := by rw [hO, f_X5_allowsAnew_L16, if_pos c_1, f_X5_allowsAnew_K16, if_pos c_2, if_neg c_3, if_neg c_11, if_neg c_15, if_pos c_16]
                  exact w_zretP hC hW hS (by decide) hO (Nat.le_of_ble_eq_true rfl) (Nat.le_of_ble_eq_true rfl) dX5_allowsAnew_190
                · refine lv_iconst (v := 1) hx hb dX5_allowsAnew_185 (by decide) ?_
                  refine lv_goto (tgt := 190) hx hb dX5_allowsAnew_186 (by decide) ?_
                  have hO : f_X5_allowsAnew i u g r σ = 1 := by rw [hO, f_X5_allowsAnew_L16, if_pos c_1, f_X5_allowsAnew_K16, if_pos c_2, if_neg c_3, if_neg c_11, if_neg c_15, if_neg c_16]
                  exact w_zretP hC hW hS (by decide) hO (Nat.le_of_ble_eq_true rfl) (Nat.le_of_ble_eq_true rfl) dX5_allowsAnew_190
              · refine lv_aload_n hx hb dX5_allowsAnew_169 rfl (lv_at hl 5 rfl) ?_
                refine gf_X5_35 hC hW (mm_5 hi) dX5_allowsAnew_170 ?_
                refine lv_bipush (v := 6) hx hb dX5_allowsAnew_173 (by decide) ?_
                refine lv_ishr hx hb dX5_allowsAnew_175 ?_
                refine lv_istore (lv' := [(8, .int ((σ 5 i 2) >>> ((6 : Int32) &&& 31))), (7, .int v7_16), (6, .int v6_16), (5, .int v5_16), (4, .int v4_16), (0, .ref (ad 5 i)), (1, .int u), (2, .int g), (3, .int r)]) hx hb dX5_allowsAnew_176 hl (by decide) rfl (fun ls hl => ?_)
                refine lv_iload hx hb dX5_allowsAnew_178 (lv_at hl 0 rfl) ?_
                refine lv_iload_n hx hb dX5_allowsAnew_180 rfl (lv_at hl 8 rfl) ?_
                refine lv_iand hx hb dX5_allowsAnew_181 ?_
                refine lv_if_eq (tgt := 189) hx hb dX5_allowsAnew_182 (by decide) (fun c_17 => ?_) (fun c_17 => ?_)
                · refine lv_iconst (v := 0) hx hb dX5_allowsAnew_189 (by decide) ?_
                  have hO : f_X5_allowsAnew i u g r σ = 0 := by rw [hO, f_X5_allowsAnew_L16, if_pos c_1, f_X5_allowsAnew_K16, if_pos c_2, if_neg c_3, if_neg c_11, if_pos c_15, if_pos c_17]
                  exact w_zretP hC hW hS (by decide) hO (Nat.le_of_ble_eq_true rfl) (Nat.le_of_ble_eq_true rfl) dX5_allowsAnew_190
                · refine lv_iconst (v := 1) hx hb dX5_allowsAnew_185 (by decide) ?_
                  refine lv_goto (tgt := 190) hx hb dX5_allowsAnew_186 (by decide) ?_
                  have hO : f_X5_allowsAnew i u g r σ = 1 := by rw [hO, f_X5_allowsAnew_L16, if_pos c_1, f_X5_allowsAnew_K16, if_pos c_2, if_neg c_3, if_neg c_11, if_pos c_15, if_neg c_17]
                  exact w_zretP hC hW hS (by decide) hO (Nat.le_of_ble_eq_true rfl) (Nat.le_of_ble_eq_true rfl) dX5_allowsAnew_190
        · refine lv_iconst (v := 1) hx hb dX5_allowsAnew_111 (by decide) ?_
          refine lv_istore (lv' := [(7, .int 1), (6, .int v6_16), (5, .int v5_16), (4, .int v4_16), (0, .ref (ad 5 i)), (1, .int u), (2, .int g), (3, .int r)]) hx hb dX5_allowsAnew_112 hl (by decide) rfl (fun ls hl => ?_)
          refine lv_iload hx hb dX5_allowsAnew_114 (lv_at hl 3 rfl) ?_
          refine lv_aload_n hx hb dX5_allowsAnew_116 rfl (lv_at hl 4 rfl) ?_
          refine gf_X5_35 hC hW (mm_5 hi) dX5_allowsAnew_117 ?_
          refine lv_iconst (v := 3) hx hb dX5_allowsAnew_120 (by decide) ?_
          refine lv_ishr hx hb dX5_allowsAnew_121 ?_
          refine lv_iload hx hb dX5_allowsAnew_122 (lv_at hl 2 rfl) ?_
          refine lv_iand hx hb dX5_allowsAnew_124 ?_
          refine lv_ior hx hb dX5_allowsAnew_125 ?_
          refine lv_istore (lv' := [(4, .int (v4_16 ||| (((σ 5 i 2) >>> ((3 : Int32) &&& 31)) &&& v5_16))), (7, .int 1), (6, .int v6_16), (5, .int v5_16), (0, .ref (ad 5 i)), (1, .int u), (2, .int g), (3, .int r)]) hx hb dX5_allowsAnew_126 hl (by decide) rfl (fun ls hl => ?_)
          refine lv_iload hx hb dX5_allowsAnew_128 (lv_at hl 1 rfl) ?_
          refine lv_if_eq (tgt := 138) hx hb dX5_allowsAnew_130 (by decide) (fun c => absurd c (by decide)) (fun _ => ?_)
          refine lv_iload hx hb dX5_allowsAnew_133 (lv_at hl 0 rfl) ?_
          refine lv_goto (tgt := 144) hx hb dX5_allowsAnew_135 (by decide) ?_
          refine lv_istore (lv' := [(8, .int (v4_16 ||| (((σ 5 i 2) >>> ((3 : Int32) &&& 31)) &&& v5_16))), (4, .int (v4_16 ||| (((σ 5 i 2) >>> ((3 : Int32) &&& 31)) &&& v5_16))), (7, .int 1), (6, .int v6_16), (5, .int v5_16), (0, .ref (ad 5 i)), (1, .int u), (2, .int g), (3, .int r)]) hx hb dX5_allowsAnew_144 hl (by decide) rfl (fun ls hl => ?_)
          refine lv_iload hx hb dX5_allowsAnew_146 (lv_at hl 3 rfl) ?_
          refine lv_iconst (v := (-1)) hx hb dX5_allowsAnew_148 (by decide) ?_
          refine lv_icmp_eq (tgt := 161) hx hb dX5_allowsAnew_149 (by decide) (fun c_18 => ?_) (fun c_18 => ?_)
          · refine lv_iload_n hx hb dX5_allowsAnew_161 rfl (lv_at hl 6 rfl) ?_
            refine lv_aload_n hx hb dX5_allowsAnew_162 rfl (lv_at hl 5 rfl) ?_
            refine gf_X5_29 hC hW (mm_5 hi) dX5_allowsAnew_163 ?_
            refine lv_icmp_ne (tgt := 178) hx hb dX5_allowsAnew_166 (by decide) (fun c_19 => ?_) (fun c_19 => ?_)
            · refine lv_iload hx hb dX5_allowsAnew_178 (lv_at hl 0 rfl) ?_
              refine lv_iload_n hx hb dX5_allowsAnew_180 rfl (lv_at hl 8 rfl) ?_
              refine lv_iand hx hb dX5_allowsAnew_181 ?_
              refine lv_if_eq (tgt := 189) hx hb dX5_allowsAnew_182 (by decide) (fun c_20 => ?_) (fun c_20 => ?_)
              · refine lv_iconst (v := 0) hx hb dX5_allowsAnew_189 (by decide) ?_
                have hO : f_X5_allowsAnew i u g r σ = 0 := by rw [hO, f_X5_allowsAnew_L16, if_pos c_1, f_X5_allowsAnew_K16, if_neg c_2, if_pos c_18, if_neg c_19, if_pos c_20]
                exact w_zretP hC hW hS (by decide) hO (Nat.le_of_ble_eq_true rfl) (Nat.le_of_ble_eq_true rfl) dX5_allowsAnew_190
              · refine lv_iconst (v := 1) hx hb dX5_allowsAnew_185 (by decide) ?_
                refine lv_goto (tgt := 190) hx hb dX5_allowsAnew_186 (by decide) ?_
                have hO : f_X5_allowsAnew i u g r σ = 1 := by rw [hO, f_X5_allowsAnew_L16, if_pos c_1, f_X5_allowsAnew_K16, if_neg c_2, if_pos c_18, if_neg c_19, if_neg c_20]
                exact w_zretP hC hW hS (by decide) hO (Nat.le_of_ble_eq_true rfl) (Nat.le_of_ble_eq_true rfl) dX5_allowsAnew_190
            · refine lv_aload_n hx hb dX5_allowsAnew_169 rfl (lv_at hl 5 rfl) ?_
              refine gf_X5_35 hC hW (mm_5 hi) dX5_allowsAnew_170 ?_
              refine lv_bipush (v := 6) hx hb dX5_allowsAnew_173 (by decide) ?_
              refine lv_ishr hx hb dX5_allowsAnew_175 ?_
              refine lv_istore (lv' := [(8, .int ((σ 5 i 2) >>> ((6 : Int32) &&& 31))), (4, .int (v4_16 ||| (((σ 5 i 2) >>> ((3 : Int32) &&& 31)) &&& v5_16))), (7, .int 1), (6, .int v6_16), (5, .int v5_16), (0, .ref (ad 5 i)), (1, .int u), (2, .int g), (3, .int r)]) hx hb dX5_allowsAnew_176 hl (by decide) rfl (fun ls hl => ?_)
              refine lv_iload hx hb dX5_allowsAnew_178 (lv_at hl 0 rfl) ?_
              refine lv_iload_n hx hb dX5_allowsAnew_180 rfl (lv_at hl 8 rfl) ?_
              refine lv_iand hx hb dX5_allowsAnew_181 ?_
              refine lv_if_eq (tgt := 189) hx hb dX5_allowsAnew_182 (by decide) (fun c_21 => ?_) (fun c_21 => ?_)
              · refine lv_iconst (v := 0) hx hb dX5_allowsAnew_189 (by decide) ?_
                have hO : f_X5_allowsAnew i u g r σ = 0 := by rw [hO, f_X5_allowsAnew_L16, if_pos c_1, f_X5_allowsAnew_K16, if_neg c_2, if_pos c_18, if_pos c_19, if_pos c_21]
                exact w_zretP hC hW hS (by decide) hO (Nat.le_of_ble_eq_true rfl) (Nat.le_of_ble_eq_true rfl) dX5_allowsAnew_190
              · refine lv_iconst (v := 1) hx hb dX5_allowsAnew_185 (by decide) ?_
                refine lv_goto (tgt := 190) hx hb dX5_allowsAnew_186 (by decide) ?_
                have hO : f_X5_allowsAnew i u g r σ = 1 := by rw [hO, f_X5_allowsAnew_L16, if_pos c_1, f_X5_allowsAnew_K16, if_neg c_2, if_pos c_18, if_pos c_19, if_neg c_21]
                exact w_zretP hC hW hS (by decide) hO (Nat.le_of_ble_eq_true rfl) (Nat.le_of_ble_eq_true rfl) dX5_allowsAnew_190
          · refine lv_iload hx hb dX5_allowsAnew_152 (lv_at hl 3 rfl) ?_
            refine lv_aload_n hx hb dX5_allowsAnew_154 rfl (lv_at hl 5 rfl) ?_
            refine gf_X5_9 hC hW (mm_5 hi) dX5_allowsAnew_155 ?_
            refine lv_iand hx hb dX5_allowsAnew_158 ?_
            refine lv_istore (lv' := [(8, .int (v6_16 &&& (σ 5 i 6))), (4, .int (v4_16 ||| (((σ 5 i 2) >>> ((3 : Int32) &&& 31)) &&& v5_16))), (7, .int 1), (6, .int v6_16), (5, .int v5_16), (0, .ref (ad 5 i)), (1, .int u), (2, .int g), (3, .int r)]) hx hb dX5_allowsAnew_159 hl (by decide) rfl (fun ls hl => ?_)
            refine lv_iload_n hx hb dX5_allowsAnew_161 rfl (lv_at hl 6 rfl) ?_
            refine lv_aload_n hx hb dX5_allowsAnew_162 rfl (lv_at hl 5 rfl) ?_
            refine gf_X5_29 hC hW (mm_5 hi) dX5_allowsAnew_163 ?_
            refine lv_icmp_ne (tgt := 178) hx hb dX5_allowsAnew_166 (by decide) (fun c_22 => ?_) (fun c_22 => ?_)
            · refine lv_iload hx hb dX5_allowsAnew_178 (lv_at hl 0 rfl) ?_
              refine lv_iload_n hx hb dX5_allowsAnew_180 rfl (lv_at hl 8 rfl) ?_
              refine lv_iand hx hb dX5_allowsAnew_181 ?_
              refine lv_if_eq (tgt := 189) hx hb dX5_allowsAnew_182 (by decide) (fun c_23 => ?_) (fun c_23 => ?_)
              · refine lv_iconst (v := 0) hx hb dX5_allowsAnew_189 (by decide) ?_
                have hO : f_X5_allowsAnew i u g r σ = 0 := by rw [hO, f_X5_allowsAnew_L16, if_pos c_1, f_X5_allowsAnew_K16, if_neg c_2, if_neg c_18, if_neg c_22, if_pos c_23]
                exact w_zretP hC hW hS (by decide) hO (Nat.le_of_ble_eq_true rfl) (Nat.le_of_ble_eq_true rfl) dX5_allowsAnew_190
              · refine lv_iconst (v := 1) hx hb dX5_allowsAnew_185 (by decide) ?_
                refine lv_goto (tgt := 190) hx hb dX5_allowsAnew_186 (by decide) ?_
                have hO : f_X5_allowsAnew i u g r σ = 1 := by rw [hO, f_X5_allowsAnew_L16, if_pos c_1, f_X5_allowsAnew_K16, if_neg c_2, if_neg c_18, if_neg c_22, if_neg c_23]
                exact w_zretP hC hW hS (by decide) hO (Nat.le_of_ble_eq_true rfl) (Nat.le_of_ble_eq_true rfl) dX5_allowsAnew_190
            · refine lv_aload_n hx hb dX5_allowsAnew_169 rfl (lv_at hl 5 rfl) ?_
              refine gf_X5_35 hC hW (mm_5 hi) dX5_allowsAnew_170 ?_
              refine lv_bipush (v := 6) hx hb dX5_allowsAnew_173 (by decide) ?_
              refine lv_ishr hx hb dX5_allowsAnew_175 ?_
              refine lv_istore (lv' := [(8, .int ((σ 5 i 2) >>> ((6 : Int32) &&& 31))), (4, .int (v4_16 ||| (((σ 5 i 2) >>> ((3 : Int32) &&& 31)) &&& v5_16))), (7, .int 1), (6, .int v6_16), (5, .int v5_16), (0, .ref (ad 5 i)), (1, .int u), (2, .int g), (3, .int r)]) hx hb dX5_allowsAnew_176 hl (by decide) rfl (fun ls hl => ?_)
              refine lv_iload hx hb dX5_allowsAnew_178 (lv_at hl 0 rfl) ?_
              refine lv_iload_n hx hb dX5_allowsAnew_180 rfl (lv_at hl 8 rfl) ?_
              refine lv_iand hx hb dX5_allowsAnew_181 ?_
              refine lv_if_eq (tgt := 189) hx hb dX5_allowsAnew_182 (by decide) (fun c_24 => ?_) (fun c_24 => ?_)
              · refine lv_iconst (v := 0) hx hb dX5_allowsAnew_189 (by decide) ?_
                have hO : f_X5_allowsAnew i u g r σ = 0 := by rw [hO, f_X5_allowsAnew_L16, if_pos c_1, f_X5_allowsAnew_K16, if_neg c_2, if_neg c_18, if_pos c_22, if_pos c_24]
                exact w_zretP hC hW hS (by decide) hO (Nat.le_of_ble_eq_true rfl) (Nat.le_of_ble_eq_true rfl) dX5_allowsAnew_190
              · refine lv_iconst (v := 1) hx hb dX5_allowsAnew_185 (by decide) ?_
                refine lv_goto (tgt := 190) hx hb dX5_allowsAnew_186 (by decide) ?_
                have hO : f_X5_allowsAnew i u g r σ = 1 := by rw [hO, f_X5_allowsAnew_L16, if_pos c_1, f_X5_allowsAnew_K16, if_neg c_2, if_neg c_18, if_pos c_22, if_neg c_24]
                exact w_zretP hC hW hS (by decide) hO (Nat.le_of_ble_eq_true rfl) (Nat.le_of_ble_eq_true rfl) dX5_allowsAnew_190
      · have hi_c_1 : k16 < 12 := idx_lt c_1 (by decide) (by decide) (by omega)
        refine lv_aload_n hx hb dX5_allowsAnew_23 rfl (lv_at hl 5 rfl) ?_
        refine gf_X5_15 hC hW (mm_5 hi) rfl dX5_allowsAnew_24 ?_
        refine lv_iload hx hb dX5_allowsAnew_27 (lv_at hl 0 rfl) ?_
        refine w_iald hC hW (mm_20 hi) (n := 12) rfl (vp_in_nI (by omega) (by omega)) dX5_allowsAnew_29 ?_
        refine lv_eqi (y := σ 20 i k16) (by rw [nI_clamp (by omega)]) ?_
        refine lv_iconst (v := (-1)) hx hb dX5_allowsAnew_30 (by decide) ?_
        refine lv_icmp_eq (tgt := 94) hx hb dX5_allowsAnew_31 (by decide) (fun c_25 => ?_) (fun c_25 => ?_)
        · refine lv_iinc (v := nI (k16 + 1)) (lv' := [(8, .int (nI (k16 + 1))), (7, .int v7_16), (6, .int v6_16), (5, .int v5_16), (4, .int v4_16), (0, .ref (ad 5 i)), (1, .int u), (2, .int g), (3, .int r)]) hx hb dX5_allowsAnew_94 hl (k := 0) rfl (nI_1 _) (by decide) rfl (fun ls hl => ?_)
          refine lv_goto (tgt := 16) hx hb dX5_allowsAnew_97 (by decide) ?_
          refine ih_16 (k16 + 1) v4_16 v5_16 v6_16 v7_16 _ _ _ (by omega) (by omega)  hW hS (lv_sub hl [0, 1, 2, 3, 4, 5, 6, 7, 8] rfl) ?_
          rw [hO, f_X5_allowsAnew_L16, if_neg c_1, if_pos c_25]
        · refine lv_aload_n hx hb dX5_allowsAnew_34 rfl (lv_at hl 5 rfl) ?_
          refine gf_X5_9 hC hW (mm_5 hi) dX5_allowsAnew_35 ?_
          refine lv_istore (lv' := [(5, .int (σ 5 i 6)), (8, .int (nI k16)), (7, .int v7_16), (6, .int v6_16), (4, .int v4_16), (0, .ref (ad 5 i)), (1, .int u), (2, .int g), (3, .int r)]) hx hb dX5_allowsAnew_38 hl (by decide) rfl (fun ls hl => ?_)
          refine lv_iload hx hb dX5_allowsAnew_40 (lv_at hl 1 rfl) ?_
          refine lv_iload_n hx hb dX5_allowsAnew_42 rfl (lv_at hl 6 rfl) ?_
          refine lv_icmp_ne (tgt := 55) hx hb dX5_allowsAnew_43 (by decide) (fun c_26 => ?_) (fun c_26 => ?_)
          · refine lv_iload hx hb dX5_allowsAnew_55 (lv_at hl 1 rfl) ?_
            refine lv_bipush (v := 6) hx hb dX5_allowsAnew_57 (by decide) ?_
            refine lv_icmp_lt (tgt := 94) hx hb dX5_allowsAnew_59 (by decide) (fun c_27 => ?_) (fun c_27 => ?_)
            · have hi_c_27 : k16 < 6 := idx_lt3 c_27 (by decide) (by decide) (by omega)
              refine lv_iinc (v := nI (k16 + 1)) (lv' := [(8, .int (nI (k16 + 1))), (5, .int (σ 5 i 6)), (7, .int v7_16), (6, .int v6_16), (4, .int v4_16), (0, .ref (ad 5 i)), (1, .int u), (2, .int g), (3, .int r)]) hx hb dX5_allowsAnew_94 hl (k := 1) rfl (nI_1 _) (by decide) rfl (fun ls hl => ?_)
              refine lv_goto (tgt := 16) hx hb dX5_allowsAnew_97 (by decide) ?_
              refine ih_16 (k16 + 1) v4_16 (σ 5 i 6) v6_16 v7_16 _ _ _ (by omega) (by omega)  hW hS (lv_sub hl [0, 2, 3, 1, 4, 5, 6, 7, 8] rfl) ?_
              rw [hO, f_X5_allowsAnew_L16, if_neg c_1, if_neg c_25, if_neg c_26, if_pos c_27]
            · refine lv_iload_n hx hb dX5_allowsAnew_62 rfl (lv_at hl 7 rfl) ?_
              refine lv_iload hx hb dX5_allowsAnew_63 (lv_at hl 1 rfl) ?_
              refine lv_bipush (v := 6) hx hb dX5_allowsAnew_65 (by decide) ?_
              refine lv_isub hx hb dX5_allowsAnew_67 ?_
              refine lv_ishr hx hb dX5_allowsAnew_68 ?_
              refine lv_iconst (v := 1) hx hb dX5_allowsAnew_69 (by decide) ?_
              refine lv_iand hx hb dX5_allowsAnew_70 ?_
              refine lv_if_eq (tgt := 94) hx hb dX5_allowsAnew_71 (by decide) (fun c_28 => ?_) (fun c_28 => ?_)
              · refine lv_iinc (v := nI (k16 + 1)) (lv' := [(8, .int (nI (k16 + 1))), (5, .int (σ 5 i 6)), (7, .int v7_16), (6, .int v6_16), (4, .int v4_16), (0, .ref (ad 5 i)), (1, .int u), (2, .int g), (3, .int r)]) hx hb dX5_allowsAnew_94 hl (k := 1) rfl (nI_1 _) (by decide) rfl (fun ls hl => ?_)
                refine lv_goto (tgt := 16) hx hb dX5_allowsAnew_97 (by decide) ?_
                refine ih_16 (k16 + 1) v4_16 (σ 5 i 6) v6_16 v7_16 _ _ _ (by omega) (by omega)  hW hS (lv_sub hl [0, 2, 3, 1, 4, 5, 6, 7, 8] rfl) ?_
                rw [hO, f_X5_allowsAnew_L16, if_neg c_1, if_neg c_25, if_neg c_26, if_neg c_27, if_pos c_28]
              · refine lv_iconst (v := 1) hx hb dX5_allowsAnew_74 (by decide) ?_
                refine lv_istore (lv' := [(7, .int 1), (5, .int (σ 5 i 6)), (8, .int (nI k16)), (6, .int v6_16), (4, .int v4_16), (0, .ref (ad 5 i)), (1, .int u), (2, .int g), (3, .int r)]) hx hb dX5_allowsAnew_75 hl (by decide) rfl (fun ls hl => ?_)
                refine lv_iload hx hb dX5_allowsAnew_77 (lv_at hl 4 rfl) ?_
                refine lv_aload_n hx hb dX5_allowsAnew_79 rfl (lv_at hl 5 rfl) ?_
                refine gf_X5_15 hC hW (mm_5 hi) rfl dX5_allowsAnew_80 ?_
                refine lv_iload hx hb dX5_allowsAnew_83 (lv_at hl 2 rfl) ?_
                refine w_iald hC hW (mm_20 hi) (n := 12) rfl (vp_in_nI (by omega) (by omega)) dX5_allowsAnew_85 ?_
                refine lv_eqi (y := σ 20 i k16) (by rw [nI_clamp (by omega)]) ?_
                refine lv_aload_n hx hb dX5_allowsAnew_86 rfl (lv_at hl 5 rfl) ?_
                refine gf_X5_9 hC hW (mm_5 hi) dX5_allowsAnew_87 ?_
                refine lv_iand hx hb dX5_allowsAnew_90 ?_
                refine lv_ior hx hb dX5_allowsAnew_91 ?_
                refine lv_istore (lv' := [(4, .int (v4_16 ||| ((σ 20 i k16) &&& (σ 5 i 6)))), (7, .int 1), (5, .int (σ 5 i 6)), (8, .int (nI k16)), (6, .int v6_16), (0, .ref (ad 5 i)), (1, .int u), (2, .int g), (3, .int r)]) hx hb dX5_allowsAnew_92 hl (by decide) rfl (fun ls hl => ?_)
                refine lv_iinc (v := nI (k16 + 1)) (lv' := [(8, .int (nI (k16 + 1))), (4, .int (v4_16 ||| ((σ 20 i k16) &&& (σ 5 i 6)))), (7, .int 1), (5, .int (σ 5 i 6)), (6, .int v6_16), (0, .ref (ad 5 i)), (1, .int u), (2, .int g), (3, .int r)]) hx hb dX5_allowsAnew_94 hl (k := 3) rfl (nI_1 _) (by decide) rfl (fun ls hl => ?_)
                refine lv_goto (tgt := 16) hx hb dX5_allowsAnew_97 (by decide) ?_
                refine ih_16 (k16 + 1) (v4_16 ||| ((σ 20 i k16) &&& (σ 5 i 6))) (σ 5 i 6) v6_16 1 _ _ _ (by omega) (by omega)  hW hS (lv_sub hl [0, 2, 4, 3, 1, 5, 6, 7, 8] rfl) ?_
                rw [hO, f_X5_allowsAnew_L16, if_neg c_1, if_neg c_25, if_neg c_26, if_neg c_27, if_neg c_28]
          · refine lv_aload_n hx hb dX5_allowsAnew_46 rfl (lv_at hl 5 rfl) ?_
            refine gf_X5_15 hC hW (mm_5 hi) rfl dX5_allowsAnew_47 ?_
            refine lv_iload hx hb dX5_allowsAnew_50 (lv_at hl 1 rfl) ?_
            refine w_iald hC hW (mm_20 hi) (n := 12) rfl (vp_in_nI (by omega) (by omega)) dX5_allowsAnew_52 ?_
            refine lv_eqi (y := σ 20 i k16) (by rw [nI_clamp (by omega)]) ?_
            refine lv_istore (lv' := [(6, .int (σ 20 i k16)), (5, .int (σ 5 i 6)), (8, .int (nI k16)), (7, .int v7_16), (4, .int v4_16), (0, .ref (ad 5 i)), (1, .int u), (2, .int g), (3, .int r)]) hx hb dX5_allowsAnew_53 hl (by decide) rfl (fun ls hl => ?_)
            refine lv_iload hx hb dX5_allowsAnew_55 (lv_at hl 2 rfl) ?_
            refine lv_bipush (v := 6) hx hb dX5_allowsAnew_57 (by decide) ?_
            refine lv_icmp_lt (tgt := 94) hx hb dX5_allowsAnew_59 (by decide) (fun c_29 => ?_) (fun c_29 => ?_)
            · have hi_c_29 : k16 < 6 := idx_lt3 c_29 (by decide) (by decide) (by omega)
              refine lv_iinc (v := nI (k16 + 1)) (lv' := [(8, .int (nI (k16 + 1))), (6, .int (σ 20 i k16)), (5, .int (σ 5 i 6)), (7, .int v7_16), (4, .int v4_16), (0, .ref (ad 5 i)), (1, .int u), (2, .int g), (3, .int r)]) hx hb dX5_allowsAnew_94 hl (k := 2) rfl (nI_1 _) (by decide) rfl (fun ls hl => ?_)
              refine lv_goto (tgt := 16) hx hb dX5_allowsAnew_97 (by decide) ?_
              refine ih_16 (k16 + 1) v4_16 (σ 5 i 6) (σ 20 i k16) v7_16 _ _ _ (by omega) (by omega)  hW hS (lv_sub hl [0, 3, 1, 2, 4, 5, 6, 7, 8] rfl) ?_
              rw [hO, f_X5_allowsAnew_L16, if_neg c_1, if_neg c_25, if_pos c_26, if_pos c_29]
            · refine lv_iload_n hx hb dX5_allowsAnew_62 rfl (lv_at hl 7 rfl) ?_
              refine lv_iload hx hb dX5_allowsAnew_63 (lv_at hl 2 rfl) ?_
              refine lv_bipush (v := 6) hx hb dX5_allowsAnew_65 (by decide) ?_
              refine lv_isub hx hb dX5_allowsAnew_67 ?_
              refine lv_ishr hx hb dX5_allowsAnew_68 ?_
              refine lv_iconst (v := 1) hx hb dX5_allowsAnew_69 (by decide) ?_
              refine lv_iand hx hb dX5_allowsAnew_70 ?_
              refine lv_if_eq (tgt := 94) hx hb dX5_allowsAnew_71 (by decide) (fun c_30 => ?_) (fun c_30 => ?_)
              · refine lv_iinc (v := nI (k16 + 1)) (lv' := [(8, .int (nI (k16 + 1))), (6, .int (σ 20 i k16)), (5, .int (σ 5 i 6)), (7, .int v7_16), (4, .int v4_16), (0, .ref (ad 5 i)), (1, .int u), (2, .int g), (3, .int r)]) hx hb dX5_allowsAnew_94 hl (k := 2) rfl (nI_1 _) (by decide) rfl (fun ls hl => ?_)
                refine lv_goto (tgt := 16) hx hb dX5_allowsAnew_97 (by decide) ?_
                refine ih_16 (k16 + 1) v4_16 (σ 5 i 6) (σ 20 i k16) v7_16 _ _ _ (by omega) (by omega)  hW hS (lv_sub hl [0, 3, 1, 2, 4, 5, 6, 7, 8] rfl) ?_
                rw [hO, f_X5_allowsAnew_L16, if_neg c_1, if_neg c_25, if_pos c_26, if_neg c_29, if_pos c_30]
              · refine lv_iconst (v := 1) hx hb dX5_allowsAnew_74 (by decide) ?_
                refine lv_istore (lv' := [(7, .int 1), (6, .int (σ 20 i k16)), (5, .int (σ 5 i 6)), (8, .int (nI k16)), (4, .int v4_16), (0, .ref (ad 5 i)), (1, .int u), (2, .int g), (3, .int r)]) hx hb dX5_allowsAnew_75 hl (by decide) rfl (fun ls hl => ?_)
                refine lv_iload hx hb dX5_allowsAnew_77 (lv_at hl 4 rfl) ?_
                refine lv_aload_n hx hb dX5_allowsAnew_79 rfl (lv_at hl 5 rfl) ?_
                refine gf_X5_15 hC hW (mm_5 hi) rfl dX5_allowsAnew_80 ?_
                refine lv_iload hx hb dX5_allowsAnew_83 (lv_at hl 3 rfl) ?_
                refine w_iald hC hW (mm_20 hi) (n := 12) rfl (vp_in_nI (by omega) (by omega)) dX5_allowsAnew_85 ?_
                refine lv_eqi (y := σ 20 i k16) (by rw [nI_clamp (by omega)]) ?_
                refine lv_aload_n hx hb dX5_allowsAnew_86 rfl (lv_at hl 5 rfl) ?_
                refine gf_X5_9 hC hW (mm_5 hi) dX5_allowsAnew_87 ?_
                refine lv_iand hx hb dX5_allowsAnew_90 ?_
                refine lv_ior hx hb dX5_allowsAnew_91 ?_
                refine lv_istore (lv' := [(4, .int (v4_16 ||| ((σ 20 i k16) &&& (σ 5 i 6)))), (7, .int 1), (6, .int (σ 20 i k16)), (5, .int (σ 5 i 6)), (8, .int (nI k16)), (0, .ref (ad 5 i)), (1, .int u), (2, .int g), (3, .int r)]) hx hb dX5_allowsAnew_92 hl (by decide) rfl (fun ls hl => ?_)
                refine lv_iinc (v := nI (k16 + 1)) (lv' := [(8, .int (nI (k16 + 1))), (4, .int (v4_16 ||| ((σ 20 i k16) &&& (σ 5 i 6)))), (7, .int 1), (6, .int (σ 20 i k16)), (5, .int (σ 5 i 6)), (0, .ref (ad 5 i)), (1, .int u), (2, .int g), (3, .int r)]) hx hb dX5_allowsAnew_94 hl (k := 4) rfl (nI_1 _) (by decide) rfl (fun ls hl => ?_)
                refine lv_goto (tgt := 16) hx hb dX5_allowsAnew_97 (by decide) ?_
                refine ih_16 (k16 + 1) (v4_16 ||| ((σ 20 i k16) &&& (σ 5 i 6))) (σ 5 i 6) (σ 20 i k16) 1 _ _ _ (by omega) (by omega)  hW hS (lv_sub hl [0, 2, 3, 4, 1, 5, 6, 7, 8] rfl) ?_
                rw [hO, f_X5_allowsAnew_L16, if_neg c_1, if_neg c_25, if_pos c_26, if_neg c_29, if_neg c_30]
  refine h_16 13 0 0 7 (-1) 0 _ _ _ (by omega) (by omega)  hW hS (lv_sub hl [0, 1, 2, 3, 4, 5, 6, 7, 8] rfl) ?_
  rw [f_X5_allowsAnew]

def f_X5_holdsRight (i : Nat) (x : Int32) (r : Int32) (σ : Sg) : Int32 :=
  if 3 ≤ x then (if (f_X5_rightsOf i (x - (3 : Int32)) σ) = (-1) then 0
    else if ((f_X5_rightsOf i (x - (3 : Int32)) σ) &&& r) = 0 then 0
    else 1)
  else if (((σ 5 i 2) >>> (((3 : Int32) * x) &&& 31)) &&& r) = 0 then 0
  else 1
set_option maxHeartbeats 4000000 in
set_option maxRecDepth 100000 in
theorem c_X5_holdsRight (l : Launch) (hl9 : l.stackTraces = false) (D : va_G) (ca : Nat → ClassId) (base : Nat) (ad : Adr) (σ : Sg) (i : Nat) (x : Int32) (r : Int32) (hi : i < 13) : Mt l yX5_holdsRight cX5_holdsRight 4 (some .boolean) { frames := 1, cells := 0, slots := 0, locals := 21 } D ca base ad ρm Lm [.ref (ad 5 i), .int x, .int r] σ (some (.int (f_X5_holdsRight i x r σ))) σ := by
  refine w_ofW (by decide) (Nat.le_of_ble_eq_true rfl) rfl ?_
  intro p e s m args below meth c hC hW hS ls hl hin
  have hx := hC.1
  have hb := hC.2.1
  refine lv_iload_n hx hb dX5_holdsRight_0 rfl (lv_at hl 1 rfl) ?_
  refine lv_iconst (v := 3) hx hb dX5_holdsRight_1 (by decide) ?_
  refine lv_icmp_ge (tgt := 24) hx hb dX5_holdsRight_2 (by decide) (fun c_1 => ?_) (fun c_1 => ?_)
  · refine lv_aload_n hx hb dX5_holdsRight_24 rfl (lv_at hl 0 rfl) ?_
    refine lv_iload_n hx hb dX5_holdsRight_25 rfl (lv_at hl 1 rfl) ?_
    refine lv_iconst (v := 3) hx hb dX5_holdsRight_26 (by decide) ?_
    refine lv_isub hx hb dX5_holdsRight_27 ?_
    refine w_callV (As := [.int (x - (3 : Int32))]) (rest := []) (st2 := .int (f_X5_rightsOf i (x - (3 : Int32)) σ) :: []) hC hW hS hl cv_X5_51 (mm_5 hi) (by decide) rfl (c_X5_rightsOf l hl9 D ca base ad σ i (x - (3 : Int32)) hi) rfl rfl rfl ⟨Nat.le_of_ble_eq_true rfl, Nat.le_of_ble_eq_true rfl⟩ (Nat.le_of_ble_eq_true rfl) dX5_holdsRight_28 ⟨Nat.le_of_ble_eq_true rfl, Nat.le_of_ble_eq_true rfl⟩ (fun H locs hW hS => ?_)
    refine lv_istore_n (lv' := [(3, .int (f_X5_rightsOf i (x - (3 : Int32)) σ)), (0, .ref (ad 5 i)), (1, .int x), (2, .int r)]) hx hb dX5_holdsRight_31 rfl hl (by decide) rfl (fun ls hl => ?_)
    refine lv_iload_n hx hb dX5_holdsRight_32 rfl (lv_at hl 0 rfl) ?_
    refine lv_iconst (v := (-1)) hx hb dX5_holdsRight_33 (by decide) ?_
    refine lv_icmp_eq (tgt := 47) hx hb dX5_holdsRight_34 (by decide) (fun c_2 => ?_) (fun c_2 => ?_)
    · refine lv_iconst (v := 0) hx hb dX5_holdsRight_47 (by decide) ?_
      have hO : f_X5_holdsRight i x r σ = 0 := by rw [f_X5_holdsRight, if_pos c_1, if_pos c_2]
      exact w_zretP hC hW hS (by decide) hO (Nat.le_of_ble_eq_true rfl) (Nat.le_of_ble_eq_true rfl) dX5_holdsRight_48
    · refine lv_iload_n hx hb dX5_holdsRight_37 rfl (lv_at hl 0 rfl) ?_
      refine lv_iload_n hx hb dX5_holdsRight_38 rfl (lv_at hl 3 rfl) ?_
      refine lv_iand hx hb dX5_holdsRight_39 ?_
      refine lv_if_eq (tgt := 47) hx hb dX5_holdsRight_40 (by decide) (fun c_3 => ?_) (fun c_3 => ?_)
      · refine lv_iconst (v := 0) hx hb dX5_holdsRight_47 (by decide) ?_
        have hO : f_X5_holdsRight i x r σ = 0 := by rw [f_X5_holdsRight, if_pos c_1, if_neg c_2, if_pos c_3]
        exact w_zretP hC hW hS (by decide) hO (Nat.le_of_ble_eq_true rfl) (Nat.le_of_ble_eq_true rfl) dX5_holdsRight_48
      · refine lv_iconst (v := 1) hx hb dX5_holdsRight_43 (by decide) ?_
        refine lv_goto (tgt := 48) hx hb dX5_holdsRight_44 (by decide) ?_
        have hO : f_X5_holdsRight i x r σ = 1 := by rw [f_X5_holdsRight, if_pos c_1, if_neg c_2, if_neg c_3]
        exact w_zretP hC hW hS (by decide) hO (Nat.le_of_ble_eq_true rfl) (Nat.le_of_ble_eq_true rfl) dX5_holdsRight_48
  · refine lv_aload_n hx hb dX5_holdsRight_5 rfl (lv_at hl 0 rfl) ?_
    refine gf_X5_35 hC hW (mm_5 hi) dX5_holdsRight_6 ?_
    refine lv_iconst (v := 3) hx hb dX5_holdsRight_9 (by decide) ?_
    refine lv_iload_n hx hb dX5_holdsRight_10 rfl (lv_at hl 1 rfl) ?_
    refine lv_imul hx hb dX5_holdsRight_11 ?_
    refine lv_ishr hx hb dX5_holdsRight_12 ?_
    refine lv_iload_n hx hb dX5_holdsRight_13 rfl (lv_at hl 2 rfl) ?_
    refine lv_iand hx hb dX5_holdsRight_14 ?_
    refine lv_if_eq (tgt := 22) hx hb dX5_holdsRight_15 (by decide) (fun c_4 => ?_) (fun c_4 => ?_)
    · refine lv_iconst (v := 0) hx hb dX5_holdsRight_22 (by decide) ?_
      have hO : f_X5_holdsRight i x r σ = 0 := by rw [f_X5_holdsRight, if_neg c_1, if_pos c_4]
      exact w_zretP hC hW hS (by decide) hO (Nat.le_of_ble_eq_true rfl) (Nat.le_of_ble_eq_true rfl) dX5_holdsRight_23
    · refine lv_iconst (v := 1) hx hb dX5_holdsRight_18 (by decide) ?_
      refine lv_goto (tgt := 23) hx hb dX5_holdsRight_19 (by decide) ?_
      have hO : f_X5_holdsRight i x r σ = 1 := by rw [f_X5_holdsRight, if_neg c_1, if_neg c_4]
      exact w_zretP hC hW hS (by decide) hO (Nat.le_of_ble_eq_true rfl) (Nat.le_of_ble_eq_true rfl) dX5_holdsRight_23
theorem bb_X5_holdsRight {i : Nat} {x : Int32} {r : Int32} {σ : Sg} : f_X5_holdsRight i x r σ &&& 1 = f_X5_holdsRight i x r σ := by
  rw [f_X5_holdsRight]
  repeat' split
  all_goals first | decide

def s_X5_takeRight (i : Nat) (x : Int32) (r : Int32) (σ : Sg) : Sg :=
  if x < 0 then (if x < 3 then σ
    else if 12 ≤ (x - (3 : Int32)) then σ
    else us σ 20 i ((x - (3 : Int32)).toNatClampNeg) ((σ 20 i ((x - (3 : Int32)).toNatClampNeg)) &&& (r ^^^ (-1 : Int32))))
  else if 3 ≤ x then (if x < 3 then σ
    else if 12 ≤ (x - (3 : Int32)) then σ
    else us σ 20 i ((x - (3 : Int32)).toNatClampNeg) ((σ 20 i ((x - (3 : Int32)).toNatClampNeg)) &&& (r ^^^ (-1 : Int32))))
  else us σ 5 i 2 ((σ 5 i 2) &&& ((r <<< (((3 : Int32) * x) &&& 31)) ^^^ (-1 : Int32)))
set_option maxHeartbeats 4000000 in
set_option maxRecDepth 100000 in
theorem c_X5_takeRight (l : Launch) (hl9 : l.stackTraces = false) (D : va_G) (ca : Nat → ClassId) (base : Nat) (ad : Adr) (σ : Sg) (i : Nat) (x : Int32) (r : Int32) (hi : i < 13) : Mt l yX5_takeRight cX5_takeRight 3 none { frames := 0, cells := 0, slots := 0, locals := 0 } D ca base ad ρm Lm [.ref (ad 5 i), .int x, .int r] σ none (s_X5_takeRight i x r σ) := by
  refine w_ofW (by decide) (Nat.le_of_ble_eq_true rfl) rfl ?_
  intro p e s m args below meth c hC hW hS ls hl hin
  have hx := hC.1
  have hb := hC.2.1
  refine lv_iload_n hx hb dX5_takeRight_0 rfl (lv_at hl 1 rfl) ?_
  refine lv_if_lt (tgt := 28) hx hb dX5_takeRight_1 (by decide) (fun c_1 => ?_) (fun c_1 => ?_)
  · refine lv_iload_n hx hb dX5_takeRight_28 rfl (lv_at hl 1 rfl) ?_
    refine lv_iconst (v := 3) hx hb dX5_takeRight_29 (by decide) ?_
    refine lv_icmp_lt (tgt := 55) hx hb dX5_takeRight_30 (by decide) (fun c_2 => ?_) (fun c_2 => ?_)
    · have hO : s_X5_takeRight i x r σ = σ := by rw [s_X5_takeRight, if_pos c_1, if_pos c_2]
      exact w_vretV hC hW hS hO (Nat.le_of_ble_eq_true rfl) (Nat.le_of_ble_eq_true rfl) dX5_takeRight_55
    · refine lv_iload_n hx hb dX5_takeRight_33 rfl (lv_at hl 1 rfl) ?_
      refine lv_iconst (v := 3) hx hb dX5_takeRight_34 (by decide) ?_
      refine lv_isub hx hb dX5_takeRight_35 ?_
      refine lv_bipush (v := 12) hx hb dX5_takeRight_36 (by decide) ?_
      refine lv_icmp_ge (tgt := 55) hx hb dX5_takeRight_38 (by decide) (fun c_3 => ?_) (fun c_3 => ?_)
      · have hO : s_X5_takeRight i x r σ = σ := by rw [s_X5_takeRight, if_pos c_1, if_neg c_2, if_pos c_3]
        exact w_vretV hC hW hS hO (Nat.le_of_ble_eq_true rfl) (Nat.le_of_ble_eq_true rfl) dX5_takeRight_55
      · refine lv_aload_n hx hb dX5_takeRight_41 rfl (lv_at hl 0 rfl) ?_
        refine gf_X5_15 hC hW (mm_5 hi) rfl dX5_takeRight_42 ?_
        refine lv_iload_n hx hb dX5_takeRight_45 rfl (lv_at hl 1 rfl) ?_
        refine lv_iconst (v := 3) hx hb dX5_takeRight_46 (by decide) ?_
        refine lv_isub hx hb dX5_takeRight_47 ?_
        refine lv_dup2_11 hx hb dX5_takeRight_48 rfl rfl ?_
        refine w_iald hC hW (mm_20 hi) (n := 12) rfl (vp_sub3 (by assumption) (by assumption)) dX5_takeRight_49 ?_
        refine lv_iload_n hx hb dX5_takeRight_50 rfl (lv_at hl 2 rfl) ?_
        refine lv_iconst (v := (-1)) hx hb dX5_takeRight_51 (by decide) ?_
        refine lv_ixor hx hb dX5_takeRight_52 ?_
        refine lv_iand hx hb dX5_takeRight_53 ?_
        refine w_iast hC hW hS (mm_20 hi) (n := 12) (fun _ => rfl) (vp_sub3 (by assumption) (by assumption)) dX5_takeRight_54 (fun H locs hW hS => ?_)
        have hO : s_X5_takeRight i x r σ = us σ 20 i ((x - (3 : Int32)).toNatClampNeg) ((σ 20 i ((x - (3 : Int32)).toNatClampNeg)) &&& (r ^^^ (-1 : Int32))) := by rw [s_X5_takeRight, if_pos c_1, if_neg c_2, if_neg c_3]
        exact w_vretV hC hW hS hO (Nat.le_of_ble_eq_true rfl) (Nat.le_of_ble_eq_true rfl) dX5_takeRight_55
  · refine lv_iload_n hx hb dX5_takeRight_4 rfl (lv_at hl 1 rfl) ?_
    refine lv_iconst (v := 3) hx hb dX5_takeRight_5 (by decide) ?_
    refine lv_icmp_ge (tgt := 28) hx hb dX5_takeRight_6 (by decide) (fun c_4 => ?_) (fun c_4 => ?_)
    · refine lv_iload_n hx hb dX5_takeRight_28 rfl (lv_at hl 1 rfl) ?_
      refine lv_iconst (v := 3) hx hb dX5_takeRight_29 (by decide) ?_
      refine lv_icmp_lt (tgt := 55) hx hb dX5_takeRight_30 (by decide) (fun c_5 => ?_) (fun c_5 => ?_)
      · have hO : s_X5_takeRight i x r σ = σ := by rw [s_X5_takeRight, if_neg c_1, if_pos c_4, if_pos c_5]
        exact w_vretV hC hW hS hO (Nat.le_of_ble_eq_true rfl) (Nat.le_of_ble_eq_true rfl) dX5_takeRight_55
      · refine lv_iload_n hx hb dX5_takeRight_33 rfl (lv_at hl 1 rfl) ?_
        refine lv_iconst (v := 3) hx hb dX5_takeRight_34 (by decide) ?_
        refine lv_isub hx hb dX5_takeRight_35 ?_
        refine lv_bipush (v := 12) hx hb dX5_takeRight_36 (by decide) ?_
        refine lv_icmp_ge (tgt := 55) hx hb dX5_takeRight_38 (by decide) (fun c_6 => ?_) (fun c_6 => ?_)
        · have hO : s_X5_takeRight i x r σ = σ := by rw [s_X5_takeRight, if_neg c_1, if_pos c_4, if_neg c_5, if_pos c_6]
          exact w_vretV hC hW hS hO (Nat.le_of_ble_eq_true rfl) (Nat.le_of_ble_eq_true rfl) dX5_takeRight_55
        · refine lv_aload_n hx hb dX5_takeRight_41 rfl (lv_at hl 0 rfl) ?_
          refine gf_X5_15 hC hW (mm_5 hi) rfl dX5_takeRight_42 ?_
          refine lv_iload_n hx hb dX5_takeRight_45 rfl (lv_at hl 1 rfl) ?_
          refine lv_iconst (v := 3) hx hb dX5_takeRight_46 (by decide) ?_
          refine lv_isub hx hb dX5_takeRight_47 ?_
          refine lv_dup2_11 hx hb dX5_takeRight_48 rfl rfl ?_
          refine w_iald hC hW (mm_20 hi) (n := 12) rfl (vp_sub3 (by assumption) (by assumption)) dX5_takeRight_49 ?_
          refine lv_iload_n hx hb dX5_takeRight_50 rfl (lv_at hl 2 rfl) ?_
          refine lv_iconst (v := (-1)) hx hb dX5_takeRight_51 (by decide) ?_
          refine lv_ixor hx hb dX5_takeRight_52 ?_
          refine lv_iand hx hb dX5_takeRight_53 ?_
          refine w_iast hC hW hS (mm_20 hi) (n := 12) (fun _ => rfl) (vp_sub3 (by assumption) (by assumption)) dX5_takeRight_54 (fun H locs hW hS => ?_)
          have hO : s_X5_takeRight i x r σ = us σ 20 i ((x - (3 : Int32)).toNatClampNeg) ((σ 20 i ((x - (3 : Int32)).toNatClampNeg)) &&& (r ^^^ (-1 : Int32))) := by rw [s_X5_takeRight, if_neg c_1, if_pos c_4, if_neg c_5, if_neg c_6]
          exact w_vretV hC hW hS hO (Nat.le_of_ble_eq_true rfl) (Nat.le_of_ble_eq_true rfl) dX5_takeRight_55
    · refine lv_aload_n hx hb dX5_takeRight_9 rfl (lv_at hl 0 rfl) ?_
      refine lv_dup hx hb dX5_takeRight_10 rfl ?_
      refine gf_X5_35 hC hW (mm_5 hi) dX5_takeRight_11 ?_
      refine lv_iload_n hx hb dX5_takeRight_14 rfl (lv_at hl 2 rfl) ?_
      refine lv_iconst (v := 3) hx hb dX5_takeRight_15 (by decide) ?_
      refine lv_iload_n hx hb dX5_takeRight_16 rfl (lv_at hl 1 rfl) ?_
      refine lv_imul hx hb dX5_takeRight_17 ?_
      refine lv_ishl hx hb dX5_takeRight_18 ?_
      refine lv_iconst (v := (-1)) hx hb dX5_takeRight_19 (by decide) ?_
      refine lv_ixor hx hb dX5_takeRight_20 ?_
      refine lv_iand hx hb dX5_takeRight_21 ?_
      refine pf_X5_35 hC hW (mm_5 hi) hS dX5_takeRight_22 (fun H locs hW hS => ?_)
      refine lv_goto (tgt := 55) hx hb dX5_takeRight_25 (by decide) ?_
      have hO : s_X5_takeRight i x r σ = us σ 5 i 2 ((σ 5 i 2) &&& ((r <<< (((3 : Int32) * x) &&& 31)) ^^^ (-1 : Int32))) := by rw [s_X5_takeRight, if_neg c_1, if_neg c_4]
      exact w_vretV hC hW hS hO (Nat.le_of_ble_eq_true rfl) (Nat.le_of_ble_eq_true rfl) dX5_takeRight_55
theorem fr_X5_takeRight {kk : Nat}  {i : Nat} {x : Int32} {r : Int32} {σ : Sg} (h5 : kk ≠ 5) (h20 : kk ≠ 20) : (s_X5_takeRight i x r σ) kk = σ kk := by
  rw [s_X5_takeRight]
  repeat' split
  all_goals (first | (simp only [us_kk, ne_eq, not_false_eq_true, h5, h20]; done) | with_reducible rfl | (simp only [us_kk, ne_eq, not_false_eq_true, h5, h20]; with_reducible rfl))
