def f_X8_within (v : Int32) (a : Int32) (b : Int32) : Int32 :=
  if v < a then 0
  else if b < v then 0
  else 1
set_option maxHeartbeats 4000000 in
set_option maxRecDepth 100000 in
theorem c_X8_within (l : Launch) (hl9 : l.stackTraces = false) (D : va_G) (ca : Nat → ClassId) (base : Nat) (ad : Adr) (σ : Sg) (v : Int32) (a : Int32) (b : Int32)  : Mt l yX8_within cX8_within 3 (some .boolean) { frames := 0, cells := 0, slots := 0, locals := 0 } D ca base ad ρm Lm [.int v, .int a, .int b] σ (some (.int (f_X8_within v a b))) σ := by
  refine w_ofW (by decide) (Nat.le_of_ble_eq_true rfl) rfl ?_
  intro p e s m args below meth c hC hW hS ls hl hin
  have hx := hC.1
  have hb := hC.2.1
  refine lv_iload_n hx hb dX8_within_0 rfl (lv_at hl 0 rfl) ?_
  refine lv_iload_n hx hb dX8_within_1 rfl (lv_at hl 1 rfl) ?_
  refine lv_icmp_lt (tgt := 14) hx hb dX8_within_2 (by decide) (fun c_1 => ?_) (fun c_1 => ?_)
  · refine lv_iconst (v := 0) hx hb dX8_within_14 (by decide) ?_
    have hO : f_X8_within v a b = 0 := by rw [f_X8_within, if_pos c_1]
    exact w_zretP hC hW hS (by decide) hO (Nat.le_of_ble_eq_true rfl) (Nat.le_of_ble_eq_true rfl) dX8_within_15
  · refine lv_iload_n hx hb dX8_within_5 rfl (lv_at hl 0 rfl) ?_
    refine lv_iload_n hx hb dX8_within_6 rfl (lv_at hl 2 rfl) ?_
    refine lv_icmp_gt (tgt := 14) hx hb dX8_within_7 (by decide) (fun c_2 => ?_) (fun c_2 => ?_)
    · refine lv_iconst (v := 0) hx hb dX8_within_14 (by decide) ?_
      have hO : f_X8_within v a b = 0 := by rw [f_X8_within, if_neg c_1, if_pos c_2]
      exact w_zretP hC hW hS (by decide) hO (Nat.le_of_ble_eq_true rfl) (Nat.le_of_ble_eq_true rfl) dX8_within_15
    · refine lv_iconst (v := 1) hx hb dX8_within_10 (by decide) ?_
      refine lv_goto (tgt := 15) hx hb dX8_within_11 (by decide) ?_
      have hO : f_X8_within v a b = 1 := by rw [f_X8_within, if_neg c_1, if_neg c_2]
      exact w_zretP hC hW hS (by decide) hO (Nat.le_of_ble_eq_true rfl) (Nat.le_of_ble_eq_true rfl) dX8_within_15
theorem bb_X8_within {v : Int32} {a : Int32} {b : Int32} : f_X8_within v a b &&& 1 = f_X8_within v a b := by
  rw [f_X8_within]
  repeat' split
  all_goals first | decide

def f_X8_isSix (v : Int32) : Int32 :=
  f_X8_within v 0 5
set_option maxHeartbeats 4000000 in
set_option maxRecDepth 100000 in
theorem c_X8_isSix (l : Launch) (hl9 : l.stackTraces = false) (D : va_G) (ca : Nat → ClassId) (base : Nat) (ad : Adr) (σ : Sg) (v : Int32)  : Mt l yX8_isSix cX8_isSix 1 (some .boolean) { frames := 1, cells := 0, slots := 0, locals := 22 } D ca base ad ρm Lm [.int v] σ (some (.int (f_X8_isSix v))) σ := by
  refine w_ofW (by decide) (Nat.le_of_ble_eq_true rfl) rfl ?_
  intro p e s m args below meth c hC hW hS ls hl hin
  have hx := hC.1
  have hb := hC.2.1
  refine lv_iload_n hx hb dX8_isSix_0 rfl (lv_at hl 0 rfl) ?_
  refine lv_iconst (v := 0) hx hb dX8_isSix_1 (by decide) ?_
  refine lv_iconst (v := 5) hx hb dX8_isSix_2 (by decide) ?_
  refine w_callS (As := [.int v, .int 0, .int 5]) (rest := []) (st2 := .int (f_X8_within v 0 5) :: []) hC hW hS hl cs_X8_129 (c_X8_within l hl9 D ca base ad σ v 0 5 ) rfl rfl rfl ⟨Nat.le_of_ble_eq_true rfl, Nat.le_of_ble_eq_true rfl⟩ (Nat.le_of_ble_eq_true rfl) dX8_isSix_3 ⟨Nat.le_of_ble_eq_true rfl, Nat.le_of_ble_eq_true rfl⟩ (fun H locs hW hS => ?_)
  have hO : f_X8_isSix v = f_X8_within v 0 5 := by rw [f_X8_isSix]
  exact w_zretP hC hW hS bb_X8_within hO (Nat.le_of_ble_eq_true rfl) (Nat.le_of_ble_eq_true rfl) dX8_isSix_6
theorem bb_X8_isSix {v : Int32} : f_X8_isSix v &&& 1 = f_X8_isSix v := by
  rw [f_X8_isSix]
  repeat' split
  all_goals first | decide | exact bb_X8_within

def f_X8_isRight (r : Int32) : Int32 :=
  if r = 1 then 1
  else if r = 2 then 1
  else if r = 4 then 1
  else 0
set_option maxHeartbeats 4000000 in
set_option maxRecDepth 100000 in
theorem c_X8_isRight (l : Launch) (hl9 : l.stackTraces = false) (D : va_G) (ca : Nat → ClassId) (base : Nat) (ad : Adr) (σ : Sg) (r : Int32)  : Mt l yX8_isRight cX8_isRight 1 (some .boolean) { frames := 0, cells := 0, slots := 0, locals := 0 } D ca base ad ρm Lm [.int r] σ (some (.int (f_X8_isRight r))) σ := by
  refine w_ofW (by decide) (Nat.le_of_ble_eq_true rfl) rfl ?_
  intro p e s m args below meth c hC hW hS ls hl hin
  have hx := hC.1
  have hb := hC.2.1
  refine lv_iload_n hx hb dX8_isRight_0 rfl (lv_at hl 0 rfl) ?_
  refine lv_iconst (v := 1) hx hb dX8_isRight_1 (by decide) ?_
  refine lv_icmp_eq (tgt := 15) hx hb dX8_isRight_2 (by decide) (fun c_1 => ?_) (fun c_1 => ?_)
  · refine lv_iconst (v := 1) hx hb dX8_isRight_15 (by decide) ?_
    refine lv_goto (tgt := 20) hx hb dX8_isRight_16 (by decide) ?_
    have hO : f_X8_isRight r = 1 := by rw [f_X8_isRight, if_pos c_1]
    exact w_zretP hC hW hS (by decide) hO (Nat.le_of_ble_eq_true rfl) (Nat.le_of_ble_eq_true rfl) dX8_isRight_20
  · refine lv_iload_n hx hb dX8_isRight_5 rfl (lv_at hl 0 rfl) ?_
    refine lv_iconst (v := 2) hx hb dX8_isRight_6 (by decide) ?_
    refine lv_icmp_eq (tgt := 15) hx hb dX8_isRight_7 (by decide) (fun c_2 => ?_) (fun c_2 => ?_)
    · refine lv_iconst (v := 1) hx hb dX8_isRight_15 (by decide) ?_
      refine lv_goto (tgt := 20) hx hb dX8_isRight_16 (by decide) ?_
      have hO : f_X8_isRight r = 1 := by rw [f_X8_isRight, if_neg c_1, if_pos c_2]
      exact w_zretP hC hW hS (by decide) hO (Nat.le_of_ble_eq_true rfl) (Nat.le_of_ble_eq_true rfl) dX8_isRight_20
    · refine lv_iload_n hx hb dX8_isRight_10 rfl (lv_at hl 0 rfl) ?_
      refine lv_iconst (v := 4) hx hb dX8_isRight_11 (by decide) ?_
      refine lv_icmp_ne (tgt := 19) hx hb dX8_isRight_12 (by decide) (fun c_3 => ?_) (fun c_3 => ?_)
      · refine lv_iconst (v := 0) hx hb dX8_isRight_19 (by decide) ?_
        have hO : f_X8_isRight r = 0 := by rw [f_X8_isRight, if_neg c_1, if_neg c_2, if_neg c_3]
        exact w_zretP hC hW hS (by decide) hO (Nat.le_of_ble_eq_true rfl) (Nat.le_of_ble_eq_true rfl) dX8_isRight_20
      · refine lv_iconst (v := 1) hx hb dX8_isRight_15 (by decide) ?_
        refine lv_goto (tgt := 20) hx hb dX8_isRight_16 (by decide) ?_
        have hO : f_X8_isRight r = 1 := by rw [f_X8_isRight, if_neg c_1, if_neg c_2, if_pos c_3]
        exact w_zretP hC hW hS (by decide) hO (Nat.le_of_ble_eq_true rfl) (Nat.le_of_ble_eq_true rfl) dX8_isRight_20
theorem bb_X8_isRight {r : Int32} : f_X8_isRight r &&& 1 = f_X8_isRight r := by
  rw [f_X8_isRight]
  repeat' split
  all_goals first | decide

def f_X8_hasBit (v : Int32) (b : Int32) : Int32 :=
  if ((v >>> (b &&& 31)) &&& (1 : Int32)) = 1 then 1
  else 0
set_option maxHeartbeats 4000000 in
set_option maxRecDepth 100000 in
theorem c_X8_hasBit (l : Launch) (hl9 : l.stackTraces = false) (D : va_G) (ca : Nat → ClassId) (base : Nat) (ad : Adr) (σ : Sg) (v : Int32) (b : Int32)  : Mt l yX8_hasBit cX8_hasBit 2 (some .boolean) { frames := 0, cells := 0, slots := 0, locals := 0 } D ca base ad ρm Lm [.int v, .int b] σ (some (.int (f_X8_hasBit v b))) σ := by
  refine w_ofW (by decide) (Nat.le_of_ble_eq_true rfl) rfl ?_
  intro p e s m args below meth c hC hW hS ls hl hin
  have hx := hC.1
  have hb := hC.2.1
  refine lv_iload_n hx hb dX8_hasBit_0 rfl (lv_at hl 0 rfl) ?_
  refine lv_iload_n hx hb dX8_hasBit_1 rfl (lv_at hl 1 rfl) ?_
  refine lv_ishr hx hb dX8_hasBit_2 ?_
  refine lv_iconst (v := 1) hx hb dX8_hasBit_3 (by decide) ?_
  refine lv_iand hx hb dX8_hasBit_4 ?_
  refine lv_iconst (v := 1) hx hb dX8_hasBit_5 (by decide) ?_
  refine lv_icmp_ne (tgt := 13) hx hb dX8_hasBit_6 (by decide) (fun c_1 => ?_) (fun c_1 => ?_)
  · refine lv_iconst (v := 0) hx hb dX8_hasBit_13 (by decide) ?_
    have hO : f_X8_hasBit v b = 0 := by rw [f_X8_hasBit, if_neg c_1]
    exact w_zretP hC hW hS (by decide) hO (Nat.le_of_ble_eq_true rfl) (Nat.le_of_ble_eq_true rfl) dX8_hasBit_14
  · refine lv_iconst (v := 1) hx hb dX8_hasBit_9 (by decide) ?_
    refine lv_goto (tgt := 14) hx hb dX8_hasBit_10 (by decide) ?_
    have hO : f_X8_hasBit v b = 1 := by rw [f_X8_hasBit, if_pos c_1]
    exact w_zretP hC hW hS (by decide) hO (Nat.le_of_ble_eq_true rfl) (Nat.le_of_ble_eq_true rfl) dX8_hasBit_14
theorem bb_X8_hasBit {v : Int32} {b : Int32} : f_X8_hasBit v b &&& 1 = f_X8_hasBit v b := by
  rw [f_X8_hasBit]
  repeat' split
  all_goals first | decide

def f_X8_isThing (t : Int32) (σ : Sg) : Int32 :=
  f_X8_within t 0 ((σ 8 0 3) - (1 : Int32))
set_option maxHeartbeats 4000000 in
set_option maxRecDepth 100000 in
theorem c_X8_isThing (l : Launch) (hl9 : l.stackTraces = false) (D : va_G) (ca : Nat → ClassId) (base : Nat) (ad : Adr) (σ : Sg) (t : Int32)  : Mt l yX8_isThing cX8_isThing 2 (some .boolean) { frames := 1, cells := 0, slots := 0, locals := 22 } D ca base ad ρm Lm [.ref (ad 8 0), .int t] σ (some (.int (f_X8_isThing t σ))) σ := by
  refine w_ofW (by decide) (Nat.le_of_ble_eq_true rfl) rfl ?_
  intro p e s m args below meth c hC hW hS ls hl hin
  have hx := hC.1
  have hb := hC.2.1
  refine lv_iload_n hx hb dX8_isThing_0 rfl (lv_at hl 1 rfl) ?_
  refine lv_iconst (v := 0) hx hb dX8_isThing_1 (by decide) ?_
  refine lv_aload_n hx hb dX8_isThing_2 rfl (lv_at hl 0 rfl) ?_
  refine gf_X8_133 hC hW m_8 dX8_isThing_3 ?_
  refine lv_iconst (v := 1) hx hb dX8_isThing_6 (by decide) ?_
  refine lv_isub hx hb dX8_isThing_7 ?_
  refine w_callS (As := [.int t, .int 0, .int ((σ 8 0 3) - (1 : Int32))]) (rest := []) (st2 := .int (f_X8_within t 0 ((σ 8 0 3) - (1 : Int32))) :: []) hC hW hS hl cs_X8_129 (c_X8_within l hl9 D ca base ad σ t 0 ((σ 8 0 3) - (1 : Int32)) ) rfl rfl rfl ⟨Nat.le_of_ble_eq_true rfl, Nat.le_of_ble_eq_true rfl⟩ (Nat.le_of_ble_eq_true rfl) dX8_isThing_8 ⟨Nat.le_of_ble_eq_true rfl, Nat.le_of_ble_eq_true rfl⟩ (fun H locs hW hS => ?_)
  have hO : f_X8_isThing t σ = f_X8_within t 0 ((σ 8 0 3) - (1 : Int32)) := by rw [f_X8_isThing]
  exact w_zretP hC hW hS bb_X8_within hO (Nat.le_of_ble_eq_true rfl) (Nat.le_of_ble_eq_true rfl) dX8_isThing_11
theorem bb_X8_isThing {t : Int32} {σ : Sg} : f_X8_isThing t σ &&& 1 = f_X8_isThing t σ := by
  rw [f_X8_isThing]
  repeat' split
  all_goals first | decide | exact bb_X8_within

def f_X8_isProcess (k : Int32) (σ : Sg) : Int32 :=
  f_X8_within k 0 ((σ 8 0 18) - (1 : Int32))
set_option maxHeartbeats 4000000 in
set_option maxRecDepth 100000 in
theorem c_X8_isProcess (l : Launch) (hl9 : l.stackTraces = false) (D : va_G) (ca : Nat → ClassId) (base : Nat) (ad : Adr) (σ : Sg) (k : Int32)  : Mt l yX8_isProcess cX8_isProcess 2 (some .boolean) { frames := 1, cells := 0, slots := 0, locals := 22 } D ca base ad ρm Lm [.ref (ad 8 0), .int k] σ (some (.int (f_X8_isProcess k σ))) σ := by
  refine w_ofW (by decide) (Nat.le_of_ble_eq_true rfl) rfl ?_
  intro p e s m args below meth c hC hW hS ls hl hin
  have hx := hC.1
  have hb := hC.2.1
  refine lv_iload_n hx hb dX8_isProcess_0 rfl (lv_at hl 1 rfl) ?_
  refine lv_iconst (v := 0) hx hb dX8_isProcess_1 (by decide) ?_
  refine lv_aload_n hx hb dX8_isProcess_2 rfl (lv_at hl 0 rfl) ?_
  refine gf_X8_136 hC hW m_8 dX8_isProcess_3 ?_
  refine lv_iconst (v := 1) hx hb dX8_isProcess_6 (by decide) ?_
  refine lv_isub hx hb dX8_isProcess_7 ?_
  refine w_callS (As := [.int k, .int 0, .int ((σ 8 0 18) - (1 : Int32))]) (rest := []) (st2 := .int (f_X8_within k 0 ((σ 8 0 18) - (1 : Int32))) :: []) hC hW hS hl cs_X8_129 (c_X8_within l hl9 D ca base ad σ k 0 ((σ 8 0 18) - (1 : Int32)) ) rfl rfl rfl ⟨Nat.le_of_ble_eq_true rfl, Nat.le_of_ble_eq_true rfl⟩ (Nat.le_of_ble_eq_true rfl) dX8_isProcess_8 ⟨Nat.le_of_ble_eq_true rfl, Nat.le_of_ble_eq_true rfl⟩ (fun H locs hW hS => ?_)
  have hO : f_X8_isProcess k σ = f_X8_within k 0 ((σ 8 0 18) - (1 : Int32)) := by rw [f_X8_isProcess]
  exact w_zretP hC hW hS bb_X8_within hO (Nat.le_of_ble_eq_true rfl) (Nat.le_of_ble_eq_true rfl) dX8_isProcess_11
theorem bb_X8_isProcess {k : Int32} {σ : Sg} : f_X8_isProcess k σ &&& 1 = f_X8_isProcess k σ := by
  rw [f_X8_isProcess]
  repeat' split
  all_goals first | decide | exact bb_X8_within

def f_X8_isToken (k : Int32) (σ : Sg) : Int32 :=
  f_X8_within k 0 ((σ 8 0 27) - (1 : Int32))
set_option maxHeartbeats 4000000 in
set_option maxRecDepth 100000 in
theorem c_X8_isToken (l : Launch) (hl9 : l.stackTraces = false) (D : va_G) (ca : Nat → ClassId) (base : Nat) (ad : Adr) (σ : Sg) (k : Int32)  : Mt l yX8_isToken cX8_isToken 2 (some .boolean) { frames := 1, cells := 0, slots := 0, locals := 22 } D ca base ad ρm Lm [.ref (ad 8 0), .int k] σ (some (.int (f_X8_isToken k σ))) σ := by
  refine w_ofW (by decide) (Nat.le_of_ble_eq_true rfl) rfl ?_
  intro p e s m args below meth c hC hW hS ls hl hin
  have hx := hC.1
  have hb := hC.2.1
  refine lv_iload_n hx hb dX8_isToken_0 rfl (lv_at hl 1 rfl) ?_
  refine lv_iconst (v := 0) hx hb dX8_isToken_1 (by decide) ?_
  refine lv_aload_n hx hb dX8_isToken_2 rfl (lv_at hl 0 rfl) ?_
  refine gf_X8_139 hC hW m_8 dX8_isToken_3 ?_
  refine lv_iconst (v := 1) hx hb dX8_isToken_6 (by decide) ?_
  refine lv_isub hx hb dX8_isToken_7 ?_
  refine w_callS (As := [.int k, .int 0, .int ((σ 8 0 27) - (1 : Int32))]) (rest := []) (st2 := .int (f_X8_within k 0 ((σ 8 0 27) - (1 : Int32))) :: []) hC hW hS hl cs_X8_129 (c_X8_within l hl9 D ca base ad σ k 0 ((σ 8 0 27) - (1 : Int32)) ) rfl rfl rfl ⟨Nat.le_of_ble_eq_true rfl, Nat.le_of_ble_eq_true rfl⟩ (Nat.le_of_ble_eq_true rfl) dX8_isToken_8 ⟨Nat.le_of_ble_eq_true rfl, Nat.le_of_ble_eq_true rfl⟩ (fun H locs hW hS => ?_)
  have hO : f_X8_isToken k σ = f_X8_within k 0 ((σ 8 0 27) - (1 : Int32)) := by rw [f_X8_isToken]
  exact w_zretP hC hW hS bb_X8_within hO (Nat.le_of_ble_eq_true rfl) (Nat.le_of_ble_eq_true rfl) dX8_isToken_11
theorem bb_X8_isToken {k : Int32} {σ : Sg} : f_X8_isToken k σ &&& 1 = f_X8_isToken k σ := by
  rw [f_X8_isToken]
  repeat' split
  all_goals first | decide | exact bb_X8_within

def f_X8_thrown  (σ : Sg) : Int32 :=
  σ 8 0 0
set_option maxHeartbeats 4000000 in
set_option maxRecDepth 100000 in
theorem c_X8_thrown (l : Launch) (hl9 : l.stackTraces = false) (D : va_G) (ca : Nat → ClassId) (base : Nat) (ad : Adr) (σ : Sg)   : Mt l yX8_thrown cX8_thrown 1 (some .int) { frames := 0, cells := 0, slots := 0, locals := 0 } D ca base ad ρm Lm [.ref (ad 8 0)] σ (some (.int (f_X8_thrown σ))) σ := by
  refine w_ofW (by decide) (Nat.le_of_ble_eq_true rfl) rfl ?_
  intro p e s m args below meth c hC hW hS ls hl hin
  have hx := hC.1
  have hb := hC.2.1
  refine lv_aload_n hx hb dX8_thrown_0 rfl (lv_at hl 0 rfl) ?_
  refine gf_X8_126 hC hW m_8 dX8_thrown_1 ?_
  have hO : f_X8_thrown σ = σ 8 0 0 := by rw [f_X8_thrown]
  exact w_iretP hC hW hS hO (Nat.le_of_ble_eq_true rfl) (Nat.le_of_ble_eq_true rfl) dX8_thrown_4
/-- what the model's indices rest on -/
def MI (f : Nat → Int32) (many ty ow mv us9 dm fi bo tu td tt tf : Nat → Int32) : Prop :=
  (∃ n : Nat, n ≤ 12 ∧ f 3 = nI n) ∧ (∃ n : Nat, n ≤ 8 ∧ f 18 = nI n) ∧ (∃ n : Nat, n ≤ 10 ∧ f 27 = nI n ∧ ∀ k : Nat, k < n → tf k = -1 ∨ ∃ j : Nat, j < k ∧ tf k = nI j) ∧ (∃ n : Nat, n ≤ 20 ∧ f 40 = nI n) ∧
  (∀ t : Nat, t < 12 → ∃ n : Nat, n ≤ 5 ∧ many t = nI n) ∧ (∀ t : Nat, t < 12 → ∃ n : Nat, n < 4 ∧ ty t = nI n) ∧ (∀ t : Nat, t < 12 → ∃ n : Nat, n < 6 ∧ ow t = nI n) ∧
  (∀ t : Nat, t < 16 → mv t = -1 ∨ ∃ n : Nat, n < 4 ∧ mv t = nI n) ∧
  (∀ k : Nat, k < 8 → (∃ n : Nat, n < 6 ∧ us9 k = nI n) ∧ (∃ n : Nat, n < 4 ∧ dm k = nI n) ∧ (∃ n : Nat, n < 8 ∧ fi k = nI n) ∧ (∃ n : Nat, n < 8 ∧ bo k = nI n)) ∧
  (∀ k : Nat, k < 10 → (∃ n : Nat, n < 6 ∧ tu k = nI n) ∧ (∃ n : Nat, n < 4 ∧ td k = nI n) ∧ (∃ n : Nat, n < 12 ∧ tt k = nI n))
def MInv (σ : Sg) : Prop := MI (σ 8 0) (σ 41 0) (σ 37 0) (σ 34 0) (σ 47 0) (σ 49 0) (σ 50 0) (σ 53 0) (σ 54 0) (σ 63 0) (σ 64 0) (σ 58 0) (σ 65 0)
theorem mi_of {σ σ' : Sg} (h : MInv σ) (e3 : σ' 8 0 3 = σ 8 0 3) (e18 : σ' 8 0 18 = σ 8 0 18) (e27 : σ' 8 0 27 = σ 8 0 27) (e40 : σ' 8 0 40 = σ 8 0 40) (e41 : σ' 41 = σ 41) (e37 : σ' 37 = σ 37) (e34 : σ' 34 = σ 34) (e47 : σ' 47 = σ 47) (e49 : σ' 49 = σ 49) (e50 : σ' 50 = σ 50) (e53 : σ' 53 = σ 53) (e54 : σ' 54 = σ 54) (e63 : σ' 63 = σ 63) (e64 : σ' 64 = σ 64) (e58 : σ' 58 = σ 58) (e65 : σ' 65 = σ 65) : MInv σ' := by
  unfold MInv MI at h ⊢
  rw [e3, e18, e27, e40, e41, e37, e34, e47, e49, e50, e53, e54, e63, e64, e58, e65]
  exact h
theorem wi_in {v lo hi : Int32} {a b n : Nat} (h : ¬ f_X8_within v lo hi = 0) (hlo : lo = nI a) (hhi : hi + 1 = nI b) (ha : a < 2 ^ 31) (hb : b ≤ n) (hb0 : 0 < b) (hn : n < 2 ^ 31) : vp_in v n := by
  unfold f_X8_within at h
  split at h
  · exact absurd rfl h
  · split at h
    · exact absurd rfl h
    · rename_i h1 h2
      have h3 : ¬ v < 0 := fun q => h1 (Int32.lt_of_lt_of_le q (by rw [hlo]; exact nI_pos' ha))
      obtain ⟨j, hj, rfl⟩ := nI_of h3
      have h4 : j < b := idx_lt2 h2 hhi ⟨by omega, hb0⟩ hj
      exact vp_in_nI (by omega) hn
theorem six_in {v : Int32} (h : ¬ f_X8_isSix v = 0) : vp_in v 6 := wi_in (a := 0) (b := 6) h rfl (by decide) (by decide) (by decide) (by decide) (by decide)
theorem wi_n {v y : Int32} {b n : Nat} (h : ¬ f_X8_within v 0 (y - 1) = 0) (hy : y = nI b) (hb : b ≤ n) (hn : n < 2 ^ 31) : vp_in v n ∧ ∃ j : Nat, j < b ∧ v = nI j := by
  rcases Nat.eq_zero_or_pos b with q | q
  · subst q
    unfold f_X8_within at h
    split at h
    · exact absurd rfl h
    · split at h
      · exact absurd rfl h
      · rename_i h1 h2
        rw [hy] at h2
        obtain ⟨j, hj, rfl⟩ := nI_of h1
        exact absurd (Int32.lt_of_lt_of_le (show nI 0 - 1 < 0 by decide) (nI_pos' hj)) h2
  · have h5 : vp_in v b := wi_in (a := 0) (b := b) h rfl (by rw [hy]; simp) (by decide) (Nat.le_refl _) q (by omega)
    obtain ⟨j, hj, rfl⟩ := vp_in_of h5 (by omega)
    exact ⟨vp_in_nI (by omega) hn, j, hj, rfl⟩
theorem it_in {σ : Sg} {t : Int32} (hM : MInv σ) (h : ¬ f_X8_isThing t σ = 0) : vp_in t 12 := by
  obtain ⟨n, h1, h2⟩ := hM.1
  exact (wi_n h h2 h1 (by decide)).1
theorem ip_in {σ : Sg} {t : Int32} (hM : MInv σ) (h : ¬ f_X8_isProcess t σ = 0) : vp_in t 8 := by
  obtain ⟨n, h1, h2⟩ := hM.2.1
  exact (wi_n h h2 h1 (by decide)).1
theorem ik_in {σ : Sg} {t : Int32} (hM : MInv σ) (h : ¬ f_X8_isToken t σ = 0) : vp_in t 10 := by
  obtain ⟨n, h1, h2, -⟩ := hM.2.2.1
  exact (wi_n h h2 h1 (by decide)).1
theorem mn_lt {σ σ' : Sg} {t : Int32} {k : Nat} (hM : MInv σ) (ht : vp_in t 12) (e : σ' 41 = σ 41) (hk : k ≤ 5) (c : ¬ σ' 41 0 t.toNatClampNeg ≤ nI k) : k < 5 := by
  obtain ⟨n, h1, h2⟩ := hM.2.2.2.2.1 _ (vp_lt ht)
  rw [e] at c
  exact idx_lt4 c h2 h1 (by decide) hk
theorem e5_in {t : Int32} {k : Nat} (ht : vp_in t 12) (hk : k < 5) : vp_in ((5 : Int32) * t + nI k) 60 := by
  obtain ⟨j, hj, rfl⟩ := vp_in_of ht (by decide)
  rw [show (5 : Int32) = nI 5 from rfl, pk_mul, nI_add]
  exact vp_in_nI (by omega) (by decide)
theorem e5_in2 {t x : Int32} (ht : vp_in t 12) (hx : vp_in x 5) : vp_in ((5 : Int32) * t + x) 60 := by
  obtain ⟨j, hj, rfl⟩ := vp_in_of hx (by decide)
  exact e5_in ht hj
theorem r4_in {d t : Int32} (hd : vp_in d 4) (ht : vp_in t 4) : vp_in ((4 : Int32) * d + t) 16 := by
  obtain ⟨j, hj, rfl⟩ := vp_in_of hd (by decide)
  obtain ⟨k, hk, rfl⟩ := vp_in_of ht (by decide)
  rw [show (4 : Int32) = nI 4 from rfl, pk_mul, nI_add]
  exact vp_in_nI (by omega) (by decide)
theorem ty_in {σ : Sg} {t : Int32} (hM : MInv σ) (ht : vp_in t 12) : vp_in (σ 37 0 t.toNatClampNeg) 4 := by
  obtain ⟨n, h1, h2⟩ := hM.2.2.2.2.2.1 _ (vp_lt ht)
  rw [h2]
  exact vp_in_nI h1 (by decide)
theorem dm_in {σ : Sg} {t : Int32} (hM : MInv σ) (ht : vp_in t 8) : vp_in (σ 50 0 t.toNatClampNeg) 4 := by
  obtain ⟨-, ⟨n, h1, h2⟩, -⟩ := hM.2.2.2.2.2.2.2.2.1 _ (vp_lt ht)
  rw [h2]
  exact vp_in_nI h1 (by decide)
theorem td_in {σ : Sg} {t : Int32} (hM : MInv σ) (ht : vp_in t 10) : vp_in (σ 64 0 t.toNatClampNeg) 4 := by
  obtain ⟨-, ⟨n, h1, h2⟩, -⟩ := hM.2.2.2.2.2.2.2.2.2 _ (vp_lt ht)
  rw [h2]
  exact vp_in_nI h1 (by decide)
theorem tt_in {σ : Sg} {t : Int32} (hM : MInv σ) (ht : vp_in t 10) : vp_in (σ 58 0 t.toNatClampNeg) 12 := by
  obtain ⟨-, -, ⟨n, h1, h2⟩⟩ := hM.2.2.2.2.2.2.2.2.2 _ (vp_lt ht)
  rw [h2]
  exact vp_in_nI h1 (by decide)
def f_X8_rf (v : Int32) : Int32 := if v = 0 then 0 else 1
theorem rf0 {v : Int32} (h : f_X8_rf v = 0) : v = 0 := by
  unfold f_X8_rf at h
  split at h
  · assumption
  · exact absurd h (by decide)
theorem rf1 {v : Int32} (h : ¬ f_X8_rf v = 0) : ¬ v = 0 := by
  intro q
  exact h (by rw [q]; decide)
set_option maxHeartbeats 4000000 in
theorem c_X8_refused (l : Launch) (hl9 : l.stackTraces = false) (D : va_G) (ca : Nat → ClassId) (base : Nat) (ad : Adr) (σ : Sg) (v : Int32) : Mt l yX8_refused cX8_refused 2 (some .boolean) { frames := 0, cells := 0, slots := 0, locals := 0 } D ca base ad ρm Lm [.ref (ad 8 0), .int v] σ (some (.int (f_X8_rf v))) (us σ 8 0 0 v) := by
  refine w_ofW (by decide) (Nat.le_of_ble_eq_true rfl) rfl ?_
  intro p e s m args below meth c hC hW hS ls hl hin
  have hx := hC.1
  have hb := hC.2.1
  refine lv_aload_n hx hb dX8_refused_0 rfl (lv_at hl 0 rfl) ?_
  refine lv_iload_n hx hb dX8_refused_1 rfl (lv_at hl 1 rfl) ?_
  refine pf_X8_126 hC hW m_8 hS dX8_refused_2 (fun H locs hW hS => ?_)
  refine lv_iload_n hx hb dX8_refused_5 rfl (lv_at hl 1 rfl) ?_
  refine lv_if_eq (tgt := 13) hx hb dX8_refused_6 (by decide) (fun c_1 => ?_) (fun c_1 => ?_)
  · refine lv_iconst (v := 0) hx hb dX8_refused_13 (by decide) ?_
    exact w_zretP hC hW hS (by decide) (by rw [f_X8_rf, if_pos c_1]) (Nat.le_of_ble_eq_true rfl) (Nat.le_of_ble_eq_true rfl) dX8_refused_14
  · refine lv_iconst (v := 1) hx hb dX8_refused_9 (by decide) ?_
    refine lv_goto (tgt := 14) hx hb dX8_refused_10 (by decide) ?_
    exact w_zretP hC hW hS (by decide) (by rw [f_X8_rf, if_neg c_1]) (Nat.le_of_ble_eq_true rfl) (Nat.le_of_ble_eq_true rfl) dX8_refused_14
def f_X8_mayChange (k : Int32) (t : Int32) (σ : Sg) : Int32 :=
  if (σ 49 0 k.toNatClampNeg) = (σ 34 0 t.toNatClampNeg) then 1
  else if (f_X8_hasBit (σ 53 0 k.toNatClampNeg) 1) = 0 then 0
  else 1
set_option maxHeartbeats 4000000 in
set_option maxRecDepth 100000 in
theorem c_X8_mayChange (l : Launch) (hl9 : l.stackTraces = false) (D : va_G) (ca : Nat → ClassId) (base : Nat) (ad : Adr) (σ : Sg) (k : Int32) (t : Int32) (hM : MInv σ) (ht : vp_in t 12) (hk : vp_in k 8) : Mt l yX8_mayChange cX8_mayChange 3 (some .boolean) { frames := 1, cells := 0, slots := 0, locals := 21 } D ca base ad ρm Lm [.ref (ad 8 0), .int k, .int t] σ (some (.int (f_X8_mayChange k t σ))) σ := by
  refine w_ofW (by decide) (Nat.le_of_ble_eq_true rfl) rfl ?_
  intro p e s m args below meth c hC hW hS ls hl hin
  have hx := hC.1
  have hb := hC.2.1
  refine lv_aload_n hx hb dX8_mayChange_0 rfl (lv_at hl 0 rfl) ?_
  refine gf_X8_59 hC hW m_8 rfl dX8_mayChange_1 ?_
  refine lv_iload_n hx hb dX8_mayChange_4 rfl (lv_at hl 1 rfl) ?_
  refine w_iald hC hW m_49 (n := 8) rfl (by first | assumption | exact ip_in hM (by assumption) | exact vp_in_c (y := 8) (by decide) (by decide) (by assumption) (by assumption) | (exfalso; contradiction)) dX8_mayChange_5 ?_
  refine lv_aload_n hx hb dX8_mayChange_6 rfl (lv_at hl 0 rfl) ?_
  refine gf_X8_16 hC hW m_8 rfl dX8_mayChange_7 ?_
  refine lv_iload_n hx hb dX8_mayChange_10 rfl (lv_at hl 2 rfl) ?_
  refine w_iald hC hW m_34 (n := 12) rfl (by first | assumption | exact it_in hM (by assumption) | exact vp_in_c (y := 12) (by decide) (by decide) (by assumption) (by assumption) | (exfalso; contradiction)) dX8_mayChange_11 ?_
  refine lv_icmp_eq (tgt := 28) hx hb dX8_mayChange_12 (by decide) (fun c_1 => ?_) (fun c_1 => ?_)
  · refine lv_iconst (v := 1) hx hb dX8_mayChange_28 (by decide) ?_
    refine lv_goto (tgt := 33) hx hb dX8_mayChange_29 (by decide) ?_
    have hO : f_X8_mayChange k t σ = 1 := by rw [f_X8_mayChange, if_pos c_1]
    exact w_zretP hC hW hS (by decide) hO (Nat.le_of_ble_eq_true rfl) (Nat.le_of_ble_eq_true rfl) dX8_mayChange_33
  · refine lv_aload_n hx hb dX8_mayChange_15 rfl (lv_at hl 0 rfl) ?_
    refine gf_X8_71 hC hW m_8 rfl dX8_mayChange_16 ?_
    refine lv_iload_n hx hb dX8_mayChange_19 rfl (lv_at hl 1 rfl) ?_
    refine w_iald hC hW m_53 (n := 8) rfl (by first | assumption | exact ip_in hM (by assumption) | exact vp_in_c (y := 8) (by decide) (by decide) (by assumption) (by assumption) | (exfalso; contradiction)) dX8_mayChange_20 ?_
    refine lv_iconst (v := 1) hx hb dX8_mayChange_21 (by decide) ?_
    refine w_callS (As := [.int (σ 53 0 k.toNatClampNeg), .int 1]) (rest := []) (st2 := .int (f_X8_hasBit (σ 53 0 k.toNatClampNeg) 1) :: []) hC hW hS hl cs_X8_142 (c_X8_hasBit l hl9 D ca base ad σ (σ 53 0 k.toNatClampNeg) 1 ) rfl rfl rfl ⟨Nat.le_of_ble_eq_true rfl, Nat.le_of_ble_eq_true rfl⟩ (Nat.le_of_ble_eq_true rfl) dX8_mayChange_22 ⟨Nat.le_of_ble_eq_true rfl, Nat.le_of_ble_eq_true rfl⟩ (fun H locs hW hS => ?_)
    refine lv_if_eq (tgt := 32) hx hb dX8_mayChange_25 (by decide) (fun c_2 => ?_) (fun c_2 => ?_)
    · refine lv_iconst (v := 0) hx hb dX8_mayChange_32 (by decide) ?_
      have hO : f_X8_mayChange k t σ = 0 := by rw [f_X8_mayChange, if_neg c_1, if_pos c_2]
      exact w_zretP hC hW hS (by decide) hO (Nat.le_of_ble_eq_true rfl) (Nat.le_of_ble_eq_true rfl) dX8_mayChange_33
    · refine lv_iconst (v := 1) hx hb dX8_mayChange_28 (by decide) ?_
      refine lv_goto (tgt := 33) hx hb dX8_mayChange_29 (by decide) ?_
      have hO : f_X8_mayChange k t σ = 1 := by rw [f_X8_mayChange, if_neg c_1, if_neg c_2]
      exact w_zretP hC hW hS (by decide) hO (Nat.le_of_ble_eq_true rfl) (Nat.le_of_ble_eq_true rfl) dX8_mayChange_33
theorem bb_X8_mayChange {k : Int32} {t : Int32} {σ : Sg} : f_X8_mayChange k t σ &&& 1 = f_X8_mayChange k t σ := by
  rw [f_X8_mayChange]
  repeat' split
  all_goals first | decide | exact bb_X8_hasBit

def f_X8_whyNot (k : Int32) (t : Int32) (b : Int32) (σ : Sg) : Int32 :=
  if (f_X8_isProcess k σ) = 0 then 1
  else if (f_X8_isThing t σ) = 0 then 1
  else if b = 0 then 2
  else if (f_X8_mayChange k t σ) = 0 then 3
  else 0
set_option maxHeartbeats 4000000 in
set_option maxRecDepth 100000 in
theorem c_X8_whyNot (l : Launch) (hl9 : l.stackTraces = false) (D : va_G) (ca : Nat → ClassId) (base : Nat) (ad : Adr) (σ : Sg) (k : Int32) (t : Int32) (b : Int32) (hM : MInv σ) : Mt l yX8_whyNot cX8_whyNot 5 (some .int) { frames := 2, cells := 0, slots := 0, locals := 43 } D ca base ad ρm Lm [.ref (ad 8 0), .int k, .int t, .int b] σ (some (.int (f_X8_whyNot k t b σ))) σ := by
  refine w_ofW (by decide) (Nat.le_of_ble_eq_true rfl) rfl ?_
  intro p e s m args below meth c hC hW hS ls hl hin
  have hx := hC.1
  have hb := hC.2.1
  refine lv_aload_n hx hb dX8_whyNot_0 rfl (lv_at hl 0 rfl) ?_
  refine lv_iload_n hx hb dX8_whyNot_1 rfl (lv_at hl 1 rfl) ?_
  refine w_callV (As := [.int k]) (rest := []) (st2 := .int (f_X8_isProcess k σ) :: []) hC hW hS hl cv_X8_166 m_8 (by decide) rfl (c_X8_isProcess l hl9 D ca base ad σ k ) rfl rfl rfl ⟨Nat.le_of_ble_eq_true rfl, Nat.le_of_ble_eq_true rfl⟩ (Nat.le_of_ble_eq_true rfl) dX8_whyNot_2 ⟨Nat.le_of_ble_eq_true rfl, Nat.le_of_ble_eq_true rfl⟩ (fun H locs hW hS => ?_)
  refine lv_if_eq (tgt := 20) hx hb dX8_whyNot_5 (by decide) (fun c_1 => ?_) (fun c_1 => ?_)
  · refine lv_iconst (v := 0) hx hb dX8_whyNot_20 (by decide) ?_
    refine lv_istore (lv' := [(4, .int 0), (0, .ref (ad 8 0)), (1, .int k), (2, .int t), (3, .int b)]) hx hb dX8_whyNot_21 hl (by decide) rfl (fun ls hl => ?_)
    refine lv_iload hx hb dX8_whyNot_23 (lv_at hl 0 rfl) ?_
    refine lv_if_ne (tgt := 32) hx hb dX8_whyNot_25 (by decide) (fun c => absurd (by decide) c) (fun _ => ?_)
    refine lv_iconst (v := 1) hx hb dX8_whyNot_28 (by decide) ?_
    refine lv_goto (tgt := 54) hx hb dX8_whyNot_29 (by decide) ?_
    have hO : f_X8_whyNot k t b σ = 1 := by rw [f_X8_whyNot, if_pos c_1]
    exact w_iretP hC hW hS hO (Nat.le_of_ble_eq_true rfl) (Nat.le_of_ble_eq_true rfl) dX8_whyNot_54
  · refine lv_aload_n hx hb dX8_whyNot_8 rfl (lv_at hl 0 rfl) ?_
    refine lv_iload_n hx hb dX8_whyNot_9 rfl (lv_at hl 2 rfl) ?_
    refine w_callV (As := [.int t]) (rest := []) (st2 := .int (f_X8_isThing t σ) :: []) hC hW hS hl cv_X8_159 m_8 (by decide) rfl (c_X8_isThing l hl9 D ca base ad σ t ) rfl rfl rfl ⟨Nat.le_of_ble_eq_true rfl, Nat.le_of_ble_eq_true rfl⟩ (Nat.le_of_ble_eq_true rfl) dX8_whyNot_10 ⟨Nat.le_of_ble_eq_true rfl, Nat.le_of_ble_eq_true rfl⟩ (fun H locs hW hS => ?_)
    refine lv_if_eq (tgt := 20) hx hb dX8_whyNot_13 (by decide) (fun c_2 => ?_) (fun c_2 => ?_)
    · refine lv_iconst (v := 0) hx hb dX8_whyNot_20 (by decide) ?_
      refine lv_istore (lv' := [(4, .int 0), (0, .ref (ad 8 0)), (1, .int k), (2, .int t), (3, .int b)]) hx hb dX8_whyNot_21 hl (by decide) rfl (fun ls hl => ?_)
      refine lv_iload hx hb dX8_whyNot_23 (lv_at hl 0 rfl) ?_
      refine lv_if_ne (tgt := 32) hx hb dX8_whyNot_25 (by decide) (fun c => absurd (by decide) c) (fun _ => ?_)
      refine lv_iconst (v := 1) hx hb dX8_whyNot_28 (by decide) ?_
      refine lv_goto (tgt := 54) hx hb dX8_whyNot_29 (by decide) ?_
      have hO : f_X8_whyNot k t b σ = 1 := by rw [f_X8_whyNot, if_neg c_1, if_pos c_2]
      exact w_iretP hC hW hS hO (Nat.le_of_ble_eq_true rfl) (Nat.le_of_ble_eq_true rfl) dX8_whyNot_54
    · refine lv_iconst (v := 1) hx hb dX8_whyNot_16 (by decide) ?_
      refine lv_goto (tgt := 21) hx hb dX8_whyNot_17 (by decide) ?_
      refine lv_istore (lv' := [(4, .int 1), (0, .ref (ad 8 0)), (1, .int k), (2, .int t), (3, .int b)]) hx hb dX8_whyNot_21 hl (by decide) rfl (fun ls hl => ?_)
      refine lv_iload hx hb dX8_whyNot_23 (lv_at hl 0 rfl) ?_
      refine lv_if_ne (tgt := 32) hx hb dX8_whyNot_25 (by decide) (fun _ => ?_) (fun c => absurd c (by decide))
      refine lv_iload_n hx hb dX8_whyNot_32 rfl (lv_at hl 4 rfl) ?_
      refine lv_if_ne (tgt := 40) hx hb dX8_whyNot_33 (by decide) (fun c_3 => ?_) (fun c_3 => ?_)
      · refine lv_aload_n hx hb dX8_whyNot_40 rfl (lv_at hl 1 rfl) ?_
        refine lv_iload_n hx hb dX8_whyNot_41 rfl (lv_at hl 2 rfl) ?_
        refine lv_iload_n hx hb dX8_whyNot_42 rfl (lv_at hl 3 rfl) ?_
        refine w_callV (As := [.int k, .int t]) (rest := []) (st2 := .int (f_X8_mayChange k t σ) :: []) hC hW hS hl cv_X8_169 m_8 (by decide) rfl (c_X8_mayChange l hl9 D ca base ad σ k t hM (by first | assumption | exact it_in hM (by assumption)) (by first | assumption | exact ip_in hM (by assumption))) rfl rfl rfl ⟨Nat.le_of_ble_eq_true rfl, Nat.le_of_ble_eq_true rfl⟩ (Nat.le_of_ble_eq_true rfl) dX8_whyNot_43 ⟨Nat.le_of_ble_eq_true rfl, Nat.le_of_ble_eq_true rfl⟩ (fun H locs hW hS => ?_)
        refine lv_if_ne (tgt := 53) hx hb dX8_whyNot_46 (by decide) (fun c_4 => ?_) (fun c_4 => ?_)
        · refine lv_iconst (v := 0) hx hb dX8_whyNot_53 (by decide) ?_
          have hO : f_X8_whyNot k t b σ = 0 := by rw [f_X8_whyNot, if_neg c_1, if_neg c_2, if_neg c_3, if_neg c_4]
          exact w_iretP hC hW hS hO (Nat.le_of_ble_eq_true rfl) (Nat.le_of_ble_eq_true rfl) dX8_whyNot_54
        · refine lv_iconst (v := 3) hx hb dX8_whyNot_49 (by decide) ?_
          refine lv_goto (tgt := 54) hx hb dX8_whyNot_50 (by decide) ?_
          have hO : f_X8_whyNot k t b σ = 3 := by rw [f_X8_whyNot, if_neg c_1, if_neg c_2, if_neg c_3, if_pos c_4]
          exact w_iretP hC hW hS hO (Nat.le_of_ble_eq_true rfl) (Nat.le_of_ble_eq_true rfl) dX8_whyNot_54
      · refine lv_iconst (v := 2) hx hb dX8_whyNot_36 (by decide) ?_
        refine lv_goto (tgt := 54) hx hb dX8_whyNot_37 (by decide) ?_
        have hO : f_X8_whyNot k t b σ = 2 := by rw [f_X8_whyNot, if_neg c_1, if_neg c_2, if_pos c_3]
        exact w_iretP hC hW hS hO (Nat.le_of_ble_eq_true rfl) (Nat.le_of_ble_eq_true rfl) dX8_whyNot_54

def f_X8_entryOf_L6 (t : Int32) (b : Int32) (u : Int32) : Nat → Nat → Int32 → Sg → Int32
  | 0, _, v4_6, _ => v4_6
  | n6 + 1, k6, v4_6, σ => if (σ 41 0 t.toNatClampNeg) ≤ (nI k6) then v4_6
    else if (σ 43 0 ((((5 : Int32) * t) + (nI k6)).toNatClampNeg)) = b then (if (σ 42 0 ((((5 : Int32) * t) + (nI k6)).toNatClampNeg)) = u then f_X8_entryOf_L6 t b u n6 (k6 + 1) (nI k6) σ
      else f_X8_entryOf_L6 t b u n6 (k6 + 1) v4_6 σ)
    else f_X8_entryOf_L6 t b u n6 (k6 + 1) v4_6 σ
def f_X8_entryOf (t : Int32) (b : Int32) (u : Int32) (σ : Sg) : Int32 :=
  (f_X8_entryOf_L6 t b u 6 0 (-1) σ)
set_option maxHeartbeats 4000000 in
set_option maxRecDepth 100000 in
theorem c_X8_entryOf (l : Launch) (hl9 : l.stackTraces = false) (D : va_G) (ca : Nat → ClassId) (base : Nat) (ad : Adr) (σ : Sg) (t : Int32) (b : Int32) (u : Int32) (hM : MInv σ) (ht : vp_in t 12) : Mt l yX8_entryOf cX8_entryOf 6 (some .int) { frames := 0, cells := 0, slots := 0, locals := 0 } D ca base ad ρm Lm [.ref (ad 8 0), .int t, .int b, .int u] σ (some (.int (f_X8_entryOf t b u σ))) σ := by
  refine w_ofW (by decide) (Nat.le_of_ble_eq_true rfl) rfl ?_
  intro p e s m args below meth c hC hW hS ls hl hin
  have hx := hC.1
  have hb := hC.2.1
  refine lv_iconst (v := (-1)) hx hb dX8_entryOf_0 (by decide) ?_
  refine lv_istore (lv' := [(4, .int (-1)), (0, .ref (ad 8 0)), (1, .int t), (2, .int b), (3, .int u)]) hx hb dX8_entryOf_1 hl (by decide) rfl (fun ls hl => ?_)
  refine lv_iconst (v := 0) hx hb dX8_entryOf_3 (by decide) ?_
  refine lv_istore (lv' := [(5, .int 0), (4, .int (-1)), (0, .ref (ad 8 0)), (1, .int t), (2, .int b), (3, .int u)]) hx hb dX8_entryOf_4 hl (by decide) rfl (fun ls hl => ?_)
  have h_6 : ∀ (n6 k6 : Nat) (v4_6 : Int32) (H : Heap) (locs : List Loc) (ls : Array Slot), 6 ≤ k6 + n6 → k6 ≤ 5 → Wd D ca (Ab base) ad ρm Lm σ H → va_S (Ab base) s.heap H locs → lv_has ls 6 [(5, .int (nI k6)), (4, .int v4_6), (0, .ref (ad 8 0)), (1, .int t), (2, .int b), (3, .int u)] → f_X8_entryOf t b u σ = ((f_X8_entryOf_L6 t b u n6 k6 v4_6 σ)) → W p l e ({ frames := 0, cells := 0, slots := 0, locals := 0 } : Room) s m args below meth c H locs 0 0 (MQ below (Rt D ca base ad ρm Lm σ (some (.int (f_X8_entryOf t b u σ)))) args s 0 0 (Ab base)) (F0 m 6 ls []) := by
    intro n6
    induction n6 with
    | zero =>
      intro k6 v4_6 H locs ls hk1_6 hk2_6 hW hS hl hO
      exact absurd hk1_6 (by omega)
    | succ n6 ih_6 =>
      intro k6 v4_6 H locs ls hk1_6 hk2_6 hW hS hl hO
      refine lv_iload hx hb dX8_entryOf_6 (lv_at hl 0 rfl) ?_
      refine lv_aload_n hx hb dX8_entryOf_8 rfl (lv_at hl 2 rfl) ?_
      refine gf_X8_37 hC hW m_8 rfl dX8_entryOf_9 ?_
      refine lv_iload_n hx hb dX8_entryOf_12 rfl (lv_at hl 3 rfl) ?_
      refine w_iald hC hW m_41 (n := 12) rfl (by first | assumption | exact it_in hM (by assumption) | exact vp_in_c (y := 12) (by decide) (by decide) (by assumption) (by assumption) | (exfalso; contradiction)) dX8_entryOf_13 ?_
      refine lv_icmp_ge (tgt := 62) hx hb dX8_entryOf_14 (by decide) (fun c_1 => ?_) (fun c_1 => ?_)
      · replace hl := lv_sub hl [1, 2, 3, 4, 5] (l' := [(4, .int v4_6), (0, .ref (ad 8 0)), (1, .int t), (2, .int b), (3, .int u)]) rfl
        refine lv_iload hx hb dX8_entryOf_62 (lv_at hl 0 rfl) ?_
        have hO : f_X8_entryOf t b u σ = v4_6 := by rw [hO, f_X8_entryOf_L6, if_pos c_1]
        exact w_iretP hC hW hS hO (Nat.le_of_ble_eq_true rfl) (Nat.le_of_ble_eq_true rfl) dX8_entryOf_64
      · have hi_c_1 : k6 < 5 := mn_lt hM ht rfl (by omega) c_1
        refine lv_aload_n hx hb dX8_entryOf_17 rfl (lv_at hl 2 rfl) ?_
        refine gf_X8_43 hC hW m_8 rfl dX8_entryOf_18 ?_
        refine lv_iconst (v := 5) hx hb dX8_entryOf_21 (by decide) ?_
        refine lv_iload_n hx hb dX8_entryOf_22 rfl (lv_at hl 3 rfl) ?_
        refine lv_imul hx hb dX8_entryOf_23 ?_
        refine lv_iload hx hb dX8_entryOf_24 (lv_at hl 0 rfl) ?_
        refine lv_iadd hx hb dX8_entryOf_26 ?_
        refine w_zald hC hW m_43 (n := 60) rfl (e5_in ht (by omega)) dX8_entryOf_27 ?_
        refine lv_iload_n hx hb dX8_entryOf_28 rfl (lv_at hl 4 rfl) ?_
        refine lv_icmp_ne (tgt := 52) hx hb dX8_entryOf_29 (by decide) (fun c_2 => ?_) (fun c_2 => ?_)
        · refine lv_iload hx hb dX8_entryOf_52 (lv_at hl 1 rfl) ?_
          refine lv_istore (lv' := [(4, .int v4_6), (5, .int (nI k6)), (0, .ref (ad 8 0)), (1, .int t), (2, .int b), (3, .int u)]) hx hb dX8_entryOf_54 hl (by decide) rfl (fun ls hl => ?_)
          refine lv_iinc (v := nI (k6 + 1)) (lv' := [(5, .int (nI (k6 + 1))), (4, .int v4_6), (0, .ref (ad 8 0)), (1, .int t), (2, .int b), (3, .int u)]) hx hb dX8_entryOf_56 hl (k := 1) rfl (nI_1 _) (by decide) rfl (fun ls hl => ?_)
          refine lv_goto (tgt := 6) hx hb dX8_entryOf_59 (by decide) ?_
          refine ih_6 (k6 + 1) v4_6 _ _ _ (by omega) (by omega)  hW hS (lv_sub hl [0, 1, 2, 3, 4, 5] rfl) ?_
          rw [hO, f_X8_entryOf_L6, if_neg c_1, if_neg c_2]
        · refine lv_aload_n hx hb dX8_entryOf_32 rfl (lv_at hl 2 rfl) ?_
          refine gf_X8_40 hC hW m_8 rfl dX8_entryOf_33 ?_
          refine lv_iconst (v := 5) hx hb dX8_entryOf_36 (by decide) ?_
          refine lv_iload_n hx hb dX8_entryOf_37 rfl (lv_at hl 3 rfl) ?_
          refine lv_imul hx hb dX8_entryOf_38 ?_
          refine lv_iload hx hb dX8_entryOf_39 (lv_at hl 0 rfl) ?_
          refine lv_iadd hx hb dX8_entryOf_41 ?_
          refine w_iald hC hW m_42 (n := 60) rfl (e5_in ht (by omega)) dX8_entryOf_42 ?_
          refine lv_iload_n hx hb dX8_entryOf_43 rfl (lv_at hl 5 rfl) ?_
          refine lv_icmp_ne (tgt := 52) hx hb dX8_entryOf_44 (by decide) (fun c_3 => ?_) (fun c_3 => ?_)
          · refine lv_iload hx hb dX8_entryOf_52 (lv_at hl 1 rfl) ?_
            refine lv_istore (lv' := [(4, .int v4_6), (5, .int (nI k6)), (0, .ref (ad 8 0)), (1, .int t), (2, .int b), (3, .int u)]) hx hb dX8_entryOf_54 hl (by decide) rfl (fun ls hl => ?_)
            refine lv_iinc (v := nI (k6 + 1)) (lv' := [(5, .int (nI (k6 + 1))), (4, .int v4_6), (0, .ref (ad 8 0)), (1, .int t), (2, .int b), (3, .int u)]) hx hb dX8_entryOf_56 hl (k := 1) rfl (nI_1 _) (by decide) rfl (fun ls hl => ?_)
            refine lv_goto (tgt := 6) hx hb dX8_entryOf_59 (by decide) ?_
            refine ih_6 (k6 + 1) v4_6 _ _ _ (by omega) (by omega)  hW hS (lv_sub hl [0, 1, 2, 3, 4, 5] rfl) ?_
            rw [hO, f_X8_entryOf_L6, if_neg c_1, if_pos c_2, if_neg c_3]
          · refine lv_iload hx hb dX8_entryOf_47 (lv_at hl 0 rfl) ?_
            refine lv_goto (tgt := 54) hx hb dX8_entryOf_49 (by decide) ?_
            refine lv_istore (lv' := [(4, .int (nI k6)), (5, .int (nI k6)), (0, .ref (ad 8 0)), (1, .int t), (2, .int b), (3, .int u)]) hx hb dX8_entryOf_54 hl (by decide) rfl (fun ls hl => ?_)
            refine lv_iinc (v := nI (k6 + 1)) (lv' := [(5, .int (nI (k6 + 1))), (4, .int (nI k6)), (0, .ref (ad 8 0)), (1, .int t), (2, .int b), (3, .int u)]) hx hb dX8_entryOf_56 hl (k := 1) rfl (nI_1 _) (by decide) rfl (fun ls hl => ?_)
            refine lv_goto (tgt := 6) hx hb dX8_entryOf_59 (by decide) ?_
            refine ih_6 (k6 + 1) (nI k6) _ _ _ (by omega) (by omega)  hW hS (lv_sub hl [0, 1, 2, 3, 4, 5] rfl) ?_
            rw [hO, f_X8_entryOf_L6, if_neg c_1, if_pos c_2, if_pos c_3]
  refine h_6 6 0 (-1) _ _ _ (by omega) (by omega)  hW hS (lv_sub hl [0, 1, 2, 3, 4, 5] rfl) ?_
  rw [f_X8_entryOf]
theorem eo_in_L {t b u : Int32} : ∀ (n k : Nat) (v : Int32) (σ : Sg), MInv σ → vp_in t 12 → k ≤ 5 → (¬ v = -1 → vp_in v 5) → (¬ f_X8_entryOf_L6 t b u n k v σ = -1 → vp_in (f_X8_entryOf_L6 t b u n k v σ) 5) := by
  intro n
  induction n with
  | zero => intro k v σ _ _ _ h; exact h
  | succ n ih =>
    intro k v σ hM ht hk h
    rw [f_X8_entryOf_L6]
    split
    · exact h
    · rename_i c
      have hi := mn_lt hM ht rfl hk c
      repeat' split
      all_goals first | exact ih _ _ _ hM ht (by omega) h | exact ih _ _ _ hM ht (by omega) (fun _ => vp_in_nI hi (by decide))
theorem eo_in {t b u : Int32} {σ : Sg} (hM : MInv σ) (ht : vp_in t 12) (h : ¬ f_X8_entryOf t b u σ = -1) : vp_in (f_X8_entryOf t b u σ) 5 := by
  unfold f_X8_entryOf at h ⊢
  exact eo_in_L 6 0 (-1) σ hM ht (by decide) (fun q => absurd rfl q) h
def f_X8_canRunAtAll_L38 (t : Int32) : Nat → Nat → Int32 → Sg → Int32
  | 0, _, v2_38, _ => v2_38
  | n38 + 1, k38, v2_38, σ => if (σ 41 0 t.toNatClampNeg) ≤ (nI k38) then v2_38
    else if v2_38 = 0 then (if ((σ 44 0 ((((5 : Int32) * t) + (nI k38)).toNatClampNeg)) &&& (4 : Int32)) = 0 then f_X8_canRunAtAll_L38 t n38 (k38 + 1) 0 σ
      else f_X8_canRunAtAll_L38 t n38 (k38 + 1) 1 σ)
    else f_X8_canRunAtAll_L38 t n38 (k38 + 1) 1 σ
def f_X8_canRunAtAll (t : Int32) (σ : Sg) : Int32 :=
  if (((((σ 36 0 t.toNatClampNeg) >>> ((6 : Int32) &&& 31)) ||| ((σ 36 0 t.toNatClampNeg) >>> ((3 : Int32) &&& 31))) ||| (σ 36 0 t.toNatClampNeg)) &&& (4 : Int32)) = 0 then (f_X8_canRunAtAll_L38 t 6 0 0 σ)
  else (f_X8_canRunAtAll_L38 t 6 0 1 σ)
set_option maxHeartbeats 4000000 in
set_option maxRecDepth 100000 in
theorem c_X8_canRunAtAll (l : Launch) (hl9 : l.stackTraces = false) (D : va_G) (ca : Nat → ClassId) (base : Nat) (ad : Adr) (σ : Sg) (t : Int32) (hM : MInv σ) (ht : vp_in t 12) : Mt l yX8_canRunAtAll cX8_canRunAtAll 4 (some .boolean) { frames := 0, cells := 0, slots := 0, locals := 0 } D ca base ad ρm Lm [.ref (ad 8 0), .int t] σ (some (.int (f_X8_canRunAtAll t σ))) σ := by
  refine w_ofW (by decide) (Nat.le_of_ble_eq_true rfl) rfl ?_
  intro p e s m args below meth c hC hW hS ls hl hin
  have hx := hC.1
  have hb := hC.2.1
  refine lv_aload_n hx hb dX8_canRunAtAll_0 rfl (lv_at hl 0 rfl) ?_
  refine gf_X8_22 hC hW m_8 rfl dX8_canRunAtAll_1 ?_
  refine lv_iload_n hx hb dX8_canRunAtAll_4 rfl (lv_at hl 1 rfl) ?_
  refine w_iald hC hW m_36 (n := 12) rfl (by first | assumption | exact it_in hM (by assumption) | exact vp_in_c (y := 12) (by decide) (by decide) (by assumption) (by assumption) | (exfalso; contradiction)) dX8_canRunAtAll_5 ?_
  refine lv_bipush (v := 6) hx hb dX8_canRunAtAll_6 (by decide) ?_
  refine lv_ishr hx hb dX8_canRunAtAll_8 ?_
  refine lv_aload_n hx hb dX8_canRunAtAll_9 rfl (lv_at hl 0 rfl) ?_
  refine gf_X8_22 hC hW m_8 rfl dX8_canRunAtAll_10 ?_
  refine lv_iload_n hx hb dX8_canRunAtAll_13 rfl (lv_at hl 1 rfl) ?_
  refine w_iald hC hW m_36 (n := 12) rfl (by first | assumption | exact it_in hM (by assumption) | exact vp_in_c (y := 12) (by decide) (by decide) (by assumption) (by assumption) | (exfalso; contradiction)) dX8_canRunAtAll_14 ?_
  refine lv_iconst (v := 3) hx hb dX8_canRunAtAll_15 (by decide) ?_
  refine lv_ishr hx hb dX8_canRunAtAll_16 ?_
  refine lv_ior hx hb dX8_canRunAtAll_17 ?_
  refine lv_aload_n hx hb dX8_canRunAtAll_18 rfl (lv_at hl 0 rfl) ?_
  refine gf_X8_22 hC hW m_8 rfl dX8_canRunAtAll_19 ?_
  refine lv_iload_n hx hb dX8_canRunAtAll_22 rfl (lv_at hl 1 rfl) ?_
  refine w_iald hC hW m_36 (n := 12) rfl (by first | assumption | exact it_in hM (by assumption) | exact vp_in_c (y := 12) (by decide) (by decide) (by assumption) (by assumption) | (exfalso; contradiction)) dX8_canRunAtAll_23 ?_
  refine lv_ior hx hb dX8_canRunAtAll_24 ?_
  refine lv_iconst (v := 4) hx hb dX8_canRunAtAll_25 (by decide) ?_
  refine lv_iand hx hb dX8_canRunAtAll_26 ?_
  refine lv_if_eq (tgt := 34) hx hb dX8_canRunAtAll_27 (by decide) (fun c_1 => ?_) (fun c_1 => ?_)
  · refine lv_iconst (v := 0) hx hb dX8_canRunAtAll_34 (by decide) ?_
    refine lv_istore_n (lv' := [(2, .int 0), (0, .ref (ad 8 0)), (1, .int t)]) hx hb dX8_canRunAtAll_35 rfl hl (by decide) rfl (fun ls hl => ?_)
    refine lv_iconst (v := 0) hx hb dX8_canRunAtAll_36 (by decide) ?_
    refine lv_istore_n (lv' := [(3, .int 0), (2, .int 0), (0, .ref (ad 8 0)), (1, .int t)]) hx hb dX8_canRunAtAll_37 rfl hl (by decide) rfl (fun ls hl => ?_)
    have h_38 : ∀ (n38 k38 : Nat) (v2_38 : Int32) (H : Heap) (locs : List Loc) (ls : Array Slot), 6 ≤ k38 + n38 → k38 ≤ 5 → (v2_38 &&& 1 = v2_38) → Wd D ca (Ab base) ad ρm Lm σ H → va_S (Ab base) s.heap H locs → lv_has ls 4 [(3, .int (nI k38)), (2, .int v2_38), (0, .ref (ad 8 0)), (1, .int t)] → f_X8_canRunAtAll t σ = ((f_X8_canRunAtAll_L38 t n38 k38 v2_38 σ)) → W p l e ({ frames := 0, cells := 0, slots := 0, locals := 0 } : Room) s m args below meth c H locs 0 0 (MQ below (Rt D ca base ad ρm Lm σ (some (.int (f_X8_canRunAtAll t σ)))) args s 0 0 (Ab base)) (F0 m 38 ls []) := by
      intro n38
      induction n38 with
      | zero =>
        intro k38 v2_38 H locs ls hk1_38 hk2_38 hb9 hW hS hl hO
        exact absurd hk1_38 (by omega)
      | succ n38 ih_38 =>
        intro k38 v2_38 H locs ls hk1_38 hk2_38 hb9 hW hS hl hO
        refine lv_iload_n hx hb dX8_canRunAtAll_38 rfl (lv_at hl 0 rfl) ?_
        refine lv_aload_n hx hb dX8_canRunAtAll_39 rfl (lv_at hl 2 rfl) ?_
        refine gf_X8_37 hC hW m_8 rfl dX8_canRunAtAll_40 ?_
        refine lv_iload_n hx hb dX8_canRunAtAll_43 rfl (lv_at hl 3 rfl) ?_
        refine w_iald hC hW m_41 (n := 12) rfl (by first | assumption | exact it_in hM (by assumption) | exact vp_in_c (y := 12) (by decide) (by decide) (by assumption) (by assumption) | (exfalso; contradiction)) dX8_canRunAtAll_44 ?_
        refine lv_icmp_ge (tgt := 79) hx hb dX8_canRunAtAll_45 (by decide) (fun c_2 => ?_) (fun c_2 => ?_)
        · replace hl := lv_sub hl [1, 2, 3] (l' := [(2, .int v2_38), (0, .ref (ad 8 0)), (1, .int t)]) rfl
          refine lv_iload_n hx hb dX8_canRunAtAll_79 rfl (lv_at hl 0 rfl) ?_
          have hO : f_X8_canRunAtAll t σ = v2_38 := by rw [hO, f_X8_canRunAtAll_L38, if_pos c_2]
          exact w_zretP hC hW hS (by assumption) hO (Nat.le_of_ble_eq_true rfl) (Nat.le_of_ble_eq_true rfl) dX8_canRunAtAll_80
        · have hi_c_2 : k38 < 5 := mn_lt hM ht rfl (by omega) c_2
          refine lv_iload_n hx hb dX8_canRunAtAll_48 rfl (lv_at hl 1 rfl) ?_
          refine lv_if_ne (tgt := 67) hx hb dX8_canRunAtAll_49 (by decide) (fun c_3 => ?_) (fun c_3 => ?_)
          · refine lv_iconst (v := 1) hx hb dX8_canRunAtAll_67 (by decide) ?_
            refine lv_goto (tgt := 72) hx hb dX8_canRunAtAll_68 (by decide) ?_
            refine lv_istore_n (lv' := [(2, .int 1), (3, .int (nI k38)), (0, .ref (ad 8 0)), (1, .int t)]) hx hb dX8_canRunAtAll_72 rfl hl (by decide) rfl (fun ls hl => ?_)
            refine lv_iinc (v := nI (k38 + 1)) (lv' := [(3, .int (nI (k38 + 1))), (2, .int 1), (0, .ref (ad 8 0)), (1, .int t)]) hx hb dX8_canRunAtAll_73 hl (k := 1) rfl (nI_1 _) (by decide) rfl (fun ls hl => ?_)
            refine lv_goto (tgt := 38) hx hb dX8_canRunAtAll_76 (by decide) ?_
            refine ih_38 (k38 + 1) 1 _ _ _ (by omega) (by omega) (by first | assumption | omega | decide) hW hS (lv_sub hl [0, 1, 2, 3] rfl) ?_
            rw [hO, f_X8_canRunAtAll_L38, if_neg c_2, if_neg c_3]
          · refine lv_aload_n hx hb dX8_canRunAtAll_52 rfl (lv_at hl 2 rfl) ?_
            refine gf_X8_47 hC hW m_8 rfl dX8_canRunAtAll_53 ?_
            refine lv_iconst (v := 5) hx hb dX8_canRunAtAll_56 (by decide) ?_
            refine lv_iload_n hx hb dX8_canRunAtAll_57 rfl (lv_at hl 3 rfl) ?_
            refine lv_imul hx hb dX8_canRunAtAll_58 ?_
            refine lv_iload_n hx hb dX8_canRunAtAll_59 rfl (lv_at hl 0 rfl) ?_
            refine lv_iadd hx hb dX8_canRunAtAll_60 ?_
            refine w_iald hC hW m_44 (n := 60) rfl (e5_in ht (by omega)) dX8_canRunAtAll_61 ?_
            refine lv_iconst (v := 4) hx hb dX8_canRunAtAll_62 (by decide) ?_
            refine lv_iand hx hb dX8_canRunAtAll_63 ?_
            refine lv_if_eq (tgt := 71) hx hb dX8_canRunAtAll_64 (by decide) (fun c_4 => ?_) (fun c_4 => ?_)
            · refine lv_iconst (v := 0) hx hb dX8_canRunAtAll_71 (by decide) ?_
              refine lv_istore_n (lv' := [(2, .int 0), (3, .int (nI k38)), (0, .ref (ad 8 0)), (1, .int t)]) hx hb dX8_canRunAtAll_72 rfl hl (by decide) rfl (fun ls hl => ?_)
              refine lv_iinc (v := nI (k38 + 1)) (lv' := [(3, .int (nI (k38 + 1))), (2, .int 0), (0, .ref (ad 8 0)), (1, .int t)]) hx hb dX8_canRunAtAll_73 hl (k := 1) rfl (nI_1 _) (by decide) rfl (fun ls hl => ?_)
              refine lv_goto (tgt := 38) hx hb dX8_canRunAtAll_76 (by decide) ?_
              refine ih_38 (k38 + 1) 0 _ _ _ (by omega) (by omega) (by first | assumption | omega | decide) hW hS (lv_sub hl [0, 1, 2, 3] rfl) ?_
              rw [hO, f_X8_canRunAtAll_L38, if_neg c_2, if_pos c_3, if_pos c_4]
            · refine lv_iconst (v := 1) hx hb dX8_canRunAtAll_67 (by decide) ?_
              refine lv_goto (tgt := 72) hx hb dX8_canRunAtAll_68 (by decide) ?_
              refine lv_istore_n (lv' := [(2, .int 1), (3, .int (nI k38)), (0, .ref (ad 8 0)), (1, .int t)]) hx hb dX8_canRunAtAll_72 rfl hl (by decide) rfl (fun ls hl => ?_)
              refine lv_iinc (v := nI (k38 + 1)) (lv' := [(3, .int (nI (k38 + 1))), (2, .int 1), (0, .ref (ad 8 0)), (1, .int t)]) hx hb dX8_canRunAtAll_73 hl (k := 1) rfl (nI_1 _) (by decide) rfl (fun ls hl => ?_)
              refine lv_goto (tgt := 38) hx hb dX8_canRunAtAll_76 (by decide) ?_
              refine ih_38 (k38 + 1) 1 _ _ _ (by omega) (by omega) (by first | assumption | omega | decide) hW hS (lv_sub hl [0, 1, 2, 3] rfl) ?_
              rw [hO, f_X8_canRunAtAll_L38, if_neg c_2, if_pos c_3, if_neg c_4]
    refine h_38 6 0 0 _ _ _ (by omega) (by omega) (by first | assumption | omega | decide) hW hS (lv_sub hl [0, 1, 2, 3] rfl) ?_
    rw [f_X8_canRunAtAll, if_pos c_1]
  · refine lv_iconst (v := 1) hx hb dX8_canRunAtAll_30 (by decide) ?_
    refine lv_goto (tgt := 35) hx hb dX8_canRunAtAll_31 (by decide) ?_
    refine lv_istore_n (lv' := [(2, .int 1), (0, .ref (ad 8 0)), (1, .int t)]) hx hb dX8_canRunAtAll_35 rfl hl (by decide) rfl (fun ls hl => ?_)
    refine lv_iconst (v := 0) hx hb dX8_canRunAtAll_36 (by decide) ?_
    refine lv_istore_n (lv' := [(3, .int 0), (2, .int 1), (0, .ref (ad 8 0)), (1, .int t)]) hx hb dX8_canRunAtAll_37 rfl hl (by decide) rfl (fun ls hl => ?_)
    have h_38 : ∀ (n38 k38 : Nat) (v2_38 : Int32) (H : Heap) (locs : List Loc) (ls : Array Slot), 6 ≤ k38 + n38 → k38 ≤ 5 → (v2_38 &&& 1 = v2_38) → Wd D ca (Ab base) ad ρm Lm σ H → va_S (Ab base) s.heap H locs → lv_has ls 4 [(3, .int (nI k38)), (2, .int v2_38), (0, .ref (ad 8 0)), (1, .int t)] → f_X8_canRunAtAll t σ = ((f_X8_canRunAtAll_L38 t n38 k38 v2_38 σ)) → W p l e ({ frames := 0, cells := 0, slots := 0, locals := 0 } : Room) s m args below meth c H locs 0 0 (MQ below (Rt D ca base ad ρm Lm σ (some (.int (f_X8_canRunAtAll t σ)))) args s 0 0 (Ab base)) (F0 m 38 ls []) := by
      intro n38
      induction n38 with
      | zero =>
        intro k38 v2_38 H locs ls hk1_38 hk2_38 hb9 hW hS hl hO
        exact absurd hk1_38 (by omega)
      | succ n38 ih_38 =>
        intro k38 v2_38 H locs ls hk1_38 hk2_38 hb9 hW hS hl hO
        refine lv_iload_n hx hb dX8_canRunAtAll_38 rfl (lv_at hl 0 rfl) ?_
        refine lv_aload_n hx hb dX8_canRunAtAll_39 rfl (lv_at hl 2 rfl) ?_
        refine gf_X8_37 hC hW m_8 rfl dX8_canRunAtAll_40 ?_
        refine lv_iload_n hx hb dX8_canRunAtAll_43 rfl (lv_at hl 3 rfl) ?_
        refine w_iald hC hW m_41 (n := 12) rfl (by first | assumption | exact it_in hM (by assumption) | exact vp_in_c (y := 12) (by decide) (by decide) (by assumption) (by assumption) | (exfalso; contradiction)) dX8_canRunAtAll_44 ?_
        refine lv_icmp_ge (tgt := 79) hx hb dX8_canRunAtAll_45 (by decide) (fun c_5 => ?_) (fun c_5 => ?_)
        · replace hl := lv_sub hl [1, 2, 3] (l' := [(2, .int v2_38), (0, .ref (ad 8 0)), (1, .int t)]) rfl
          refine lv_iload_n hx hb dX8_canRunAtAll_79 rfl (lv_at hl 0 rfl) ?_
          have hO : f_X8_canRunAtAll t σ = v2_38 := by rw [hO, f_X8_canRunAtAll_L38, if_pos c_5]
          exact w_zretP hC hW hS (by assumption) hO (Nat.le_of_ble_eq_true rfl) (Nat.le_of_ble_eq_true rfl) dX8_canRunAtAll_80
        · have hi_c_5 : k38 < 5 := mn_lt hM ht rfl (by omega) c_5
          refine lv_iload_n hx hb dX8_canRunAtAll_48 rfl (lv_at hl 1 rfl) ?_
          refine lv_if_ne (tgt := 67) hx hb dX8_canRunAtAll_49 (by decide) (fun c_6 => ?_) (fun c_6 => ?_)
          · refine lv_iconst (v := 1) hx hb dX8_canRunAtAll_67 (by decide) ?_
            refine lv_goto (tgt := 72) hx hb dX8_canRunAtAll_68 (by decide) ?_
            refine lv_istore_n (lv' := [(2, .int 1), (3, .int (nI k38)), (0, .ref (ad 8 0)), (1, .int t)]) hx hb dX8_canRunAtAll_72 rfl hl (by decide) rfl (fun ls hl => ?_)
            refine lv_iinc (v := nI (k38 + 1)) (lv' := [(3, .int (nI (k38 + 1))), (2, .int 1), (0, .ref (ad 8 0)), (1, .int t)]) hx hb dX8_canRunAtAll_73 hl (k := 1) rfl (nI_1 _) (by decide) rfl (fun ls hl => ?_)
            refine lv_goto (tgt := 38) hx hb dX8_canRunAtAll_76 (by decide) ?_
            refine ih_38 (k38 + 1) 1 _ _ _ (by omega) (by omega) (by first | assumption | omega | decide) hW hS (lv_sub hl [0, 1, 2, 3] rfl) ?_
            rw [hO, f_X8_canRunAtAll_L38, if_neg c_5, if_neg c_6]
          · refine lv_aload_n hx hb dX8_canRunAtAll_52 rfl (lv_at hl 2 rfl) ?_
            refine gf_X8_47 hC hW m_8 rfl dX8_canRunAtAll_53 ?_
            refine lv_iconst (v := 5) hx hb dX8_canRunAtAll_56 (by decide) ?_
            refine lv_iload_n hx hb dX8_canRunAtAll_57 rfl (lv_at hl 3 rfl) ?_
            refine lv_imul hx hb dX8_canRunAtAll_58 ?_
            refine lv_iload_n hx hb dX8_canRunAtAll_59 rfl (lv_at hl 0 rfl) ?_
            refine lv_iadd hx hb dX8_canRunAtAll_60 ?_
            refine w_iald hC hW m_44 (n := 60) rfl (e5_in ht (by omega)) dX8_canRunAtAll_61 ?_
            refine lv_iconst (v := 4) hx hb dX8_canRunAtAll_62 (by decide) ?_
            refine lv_iand hx hb dX8_canRunAtAll_63 ?_
            refine lv_if_eq (tgt := 71) hx hb dX8_canRunAtAll_64 (by decide) (fun c_7 => ?_) (fun c_7 => ?_)
            · refine lv_iconst (v := 0) hx hb dX8_canRunAtAll_71 (by decide) ?_
              refine lv_istore_n (lv' := [(2, .int 0), (3, .int (nI k38)), (0, .ref (ad 8 0)), (1, .int t)]) hx hb dX8_canRunAtAll_72 rfl hl (by decide) rfl (fun ls hl => ?_)
              refine lv_iinc (v := nI (k38 + 1)) (lv' := [(3, .int (nI (k38 + 1))), (2, .int 0), (0, .ref (ad 8 0)), (1, .int t)]) hx hb dX8_canRunAtAll_73 hl (k := 1) rfl (nI_1 _) (by decide) rfl (fun ls hl => ?_)
              refine lv_goto (tgt := 38) hx hb dX8_canRunAtAll_76 (by decide) ?_
              refine ih_38 (k38 + 1) 0 _ _ _ (by omega) (by omega) (by first | assumption | omega | decide) hW hS (lv_sub hl [0, 1, 2, 3] rfl) ?_
              rw [hO, f_X8_canRunAtAll_L38, if_neg c_5, if_pos c_6, if_pos c_7]
            · refine lv_iconst (v := 1) hx hb dX8_canRunAtAll_67 (by decide) ?_
              refine lv_goto (tgt := 72) hx hb dX8_canRunAtAll_68 (by decide) ?_
              refine lv_istore_n (lv' := [(2, .int 1), (3, .int (nI k38)), (0, .ref (ad 8 0)), (1, .int t)]) hx hb dX8_canRunAtAll_72 rfl hl (by decide) rfl (fun ls hl => ?_)
              refine lv_iinc (v := nI (k38 + 1)) (lv' := [(3, .int (nI (k38 + 1))), (2, .int 1), (0, .ref (ad 8 0)), (1, .int t)]) hx hb dX8_canRunAtAll_73 hl (k := 1) rfl (nI_1 _) (by decide) rfl (fun ls hl => ?_)
              refine lv_goto (tgt := 38) hx hb dX8_canRunAtAll_76 (by decide) ?_
              refine ih_38 (k38 + 1) 1 _ _ _ (by omega) (by omega) (by first | assumption | omega | decide) hW hS (lv_sub hl [0, 1, 2, 3] rfl) ?_
              rw [hO, f_X8_canRunAtAll_L38, if_neg c_5, if_pos c_6, if_neg c_7]
    refine h_38 6 0 1 _ _ _ (by omega) (by omega) (by first | assumption | omega | decide) hW hS (lv_sub hl [0, 1, 2, 3] rfl) ?_
    rw [f_X8_canRunAtAll, if_neg c_1]

def f_X8_whyNoVerdict (k : Int32) (t : Int32) (r : Int32) (σ : Sg) : Int32 :=
  if (f_X8_isProcess k σ) = 0 then 1
  else if (f_X8_isThing t σ) = 0 then 1
  else if (f_X8_isRight r) = 0 then 2
  else 0
set_option maxHeartbeats 4000000 in
set_option maxRecDepth 100000 in
theorem c_X8_whyNoVerdict (l : Launch) (hl9 : l.stackTraces = false) (D : va_G) (ca : Nat → ClassId) (base : Nat) (ad : Adr) (σ : Sg) (k : Int32) (t : Int32) (r : Int32)  : Mt l yX8_whyNoVerdict cX8_whyNoVerdict 4 (some .int) { frames := 2, cells := 0, slots := 0, locals := 43 } D ca base ad ρm Lm [.ref (ad 8 0), .int k, .int t, .int r] σ (some (.int (f_X8_whyNoVerdict k t r σ))) σ := by
  refine w_ofW (by decide) (Nat.le_of_ble_eq_true rfl) rfl ?_
  intro p e s m args below meth c hC hW hS ls hl hin
  have hx := hC.1
  have hb := hC.2.1
  refine lv_aload_n hx hb dX8_whyNoVerdict_0 rfl (lv_at hl 0 rfl) ?_
  refine lv_iload_n hx hb dX8_whyNoVerdict_1 rfl (lv_at hl 1 rfl) ?_
  refine w_callV (As := [.int k]) (rest := []) (st2 := .int (f_X8_isProcess k σ) :: []) hC hW hS hl cv_X8_166 m_8 (by decide) rfl (c_X8_isProcess l hl9 D ca base ad σ k ) rfl rfl rfl ⟨Nat.le_of_ble_eq_true rfl, Nat.le_of_ble_eq_true rfl⟩ (Nat.le_of_ble_eq_true rfl) dX8_whyNoVerdict_2 ⟨Nat.le_of_ble_eq_true rfl, Nat.le_of_ble_eq_true rfl⟩ (fun H locs hW hS => ?_)
  refine lv_if_eq (tgt := 16) hx hb dX8_whyNoVerdict_5 (by decide) (fun c_1 => ?_) (fun c_1 => ?_)
  · refine lv_iconst (v := 1) hx hb dX8_whyNoVerdict_16 (by decide) ?_
    refine lv_goto (tgt := 32) hx hb dX8_whyNoVerdict_17 (by decide) ?_
    have hO : f_X8_whyNoVerdict k t r σ = 1 := by rw [f_X8_whyNoVerdict, if_pos c_1]
    exact w_iretP hC hW hS hO (Nat.le_of_ble_eq_true rfl) (Nat.le_of_ble_eq_true rfl) dX8_whyNoVerdict_32
  · refine lv_aload_n hx hb dX8_whyNoVerdict_8 rfl (lv_at hl 0 rfl) ?_
    refine lv_iload_n hx hb dX8_whyNoVerdict_9 rfl (lv_at hl 2 rfl) ?_
    refine w_callV (As := [.int t]) (rest := []) (st2 := .int (f_X8_isThing t σ) :: []) hC hW hS hl cv_X8_159 m_8 (by decide) rfl (c_X8_isThing l hl9 D ca base ad σ t ) rfl rfl rfl ⟨Nat.le_of_ble_eq_true rfl, Nat.le_of_ble_eq_true rfl⟩ (Nat.le_of_ble_eq_true rfl) dX8_whyNoVerdict_10 ⟨Nat.le_of_ble_eq_true rfl, Nat.le_of_ble_eq_true rfl⟩ (fun H locs hW hS => ?_)
    refine lv_if_ne (tgt := 20) hx hb dX8_whyNoVerdict_13 (by decide) (fun c_2 => ?_) (fun c_2 => ?_)
    · refine lv_iload_n hx hb dX8_whyNoVerdict_20 rfl (lv_at hl 3 rfl) ?_
      refine w_callS (As := [.int r]) (rest := []) (st2 := .int (f_X8_isRight r) :: []) hC hW hS hl cs_X8_194 (c_X8_isRight l hl9 D ca base ad σ r ) rfl rfl rfl ⟨Nat.le_of_ble_eq_true rfl, Nat.le_of_ble_eq_true rfl⟩ (Nat.le_of_ble_eq_true rfl) dX8_whyNoVerdict_21 ⟨Nat.le_of_ble_eq_true rfl, Nat.le_of_ble_eq_true rfl⟩ (fun H locs hW hS => ?_)
      refine lv_if_ne (tgt := 31) hx hb dX8_whyNoVerdict_24 (by decide) (fun c_3 => ?_) (fun c_3 => ?_)
      · refine lv_iconst (v := 0) hx hb dX8_whyNoVerdict_31 (by decide) ?_
        have hO : f_X8_whyNoVerdict k t r σ = 0 := by rw [f_X8_whyNoVerdict, if_neg c_1, if_neg c_2, if_neg c_3]
        exact w_iretP hC hW hS hO (Nat.le_of_ble_eq_true rfl) (Nat.le_of_ble_eq_true rfl) dX8_whyNoVerdict_32
      · refine lv_iconst (v := 2) hx hb dX8_whyNoVerdict_27 (by decide) ?_
        refine lv_goto (tgt := 32) hx hb dX8_whyNoVerdict_28 (by decide) ?_
        have hO : f_X8_whyNoVerdict k t r σ = 2 := by rw [f_X8_whyNoVerdict, if_neg c_1, if_neg c_2, if_pos c_3]
        exact w_iretP hC hW hS hO (Nat.le_of_ble_eq_true rfl) (Nat.le_of_ble_eq_true rfl) dX8_whyNoVerdict_32
    · refine lv_iconst (v := 1) hx hb dX8_whyNoVerdict_16 (by decide) ?_
      refine lv_goto (tgt := 32) hx hb dX8_whyNoVerdict_17 (by decide) ?_
      have hO : f_X8_whyNoVerdict k t r σ = 1 := by rw [f_X8_whyNoVerdict, if_neg c_1, if_pos c_2]
      exact w_iretP hC hW hS hO (Nat.le_of_ble_eq_true rfl) (Nat.le_of_ble_eq_true rfl) dX8_whyNoVerdict_32
