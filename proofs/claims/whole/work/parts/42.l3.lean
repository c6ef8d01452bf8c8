def CLw (own : String) (idx : Nat) (y : MethodName) (b : ByteArray) (maxL : Nat) (ret : Option FieldType) (hh : List (Nat × Nat × Nat × Nat)) (n : Nat) : Prop := (Cond.methodLink own idx y ∈ lw_gd ∧ Cond.static y ∈ lw_gd ∧ Cond.initialized y.cls ∈ lw_gd ∧ Cond.codeWith y b maxL ret hh ∈ lw_gd) ∧ (y.cls ≠ "java/lang/invoke/MethodHandle" ∧ y.cls ≠ "java/lang/invoke/VarHandle" ∧ (parseMethodDescriptor y.desc).map (fun d => d.parameters.length) = some n)
section WLR
variable {p : Program} {l : Launch} {e : Env} {R : Room} {s : State} {m : MethodId} {args : Array Value} {below : List Frame} {meth : Method} {c : Code} {H : Heap} {locs : List Loc} {cells slots c2 s2 : Nat} {Q : State → Prop}
variable {cc : ByteArray} {nL : Nat} {pc : Nat} {ls : Array Slot} {st st2 rest : List Value} {own : String} {ret : Option FieldType} {D : va_G} {ca : Nat → ClassId} {base : Nat} {ad : Adr} {ρ : Rh} {L : List (Nat × Nat)} {σ σ' : Sg} {lv : List (Nat × Value)}
variable {y : MethodName} {b : ByteArray} {maxL n index : Nat} {rty : Option FieldType} {hh : List (Nat × Nat × Nat × Nat)} {rm : Room} {As : List Value} {ov : Option Value}
theorem w_callL (hC : Cx p s m args meth c cc nL own ret D ca base) (hN : Nx s) (hW : Wd D ca (Ab base) ad ρ L σ H) (hS : va_S (Ab base) s.heap H locs) (hl : lv_has ls nL lv) (cw : CLw own index y b maxL rty hh n) (hM : Ml l y b maxL rty hh rm D ca base ad ρ L As σ ov σ') (hn : As.length = n) (hst : st = As.reverse ++ rest) (h2 : ov.toList ++ rest = st2) (hR : rm.frames + 1 ≤ R.frames ∧ 8 + (maxL + 11) + rm.locals ≤ R.locals) (hcat : (rest.map fun v => v.category).sum ≤ 8) (hdg : decode cc pc = .ok (.invokestatic index, 3)) (hf : cells + rm.cells ≤ R.cells ∧ slots + rm.slots ≤ R.slots) (e1 : cells + rm.cells = c2) (e2 : slots + rm.slots = s2)
    (kk : ∀ (H1 : Heap) (locs1 : List Loc), Wd D ca (Ab base) ad ρ L σ' H1 → va_S (Ab base) s.heap H1 locs1 → W p l e R s m args below meth c H1 locs1 c2 s2 Q (F0 m (pc + 3) ls st2)) : W p l e R s m args below meth c H locs cells slots Q (F0 m pc ls st) := by
  subst e1; subst e2
  obtain ⟨⟨h1, h2', h3, h4⟩, h5⟩ := cw
  have hG : GoodIn lw_gd (va_wsS own index y (wsw y b maxL rty hh)) := by
    refine gdIn ?_
    intro w hw
    simp only [va_wsS, wsw, List.mem_append, List.mem_cons, List.not_mem_nil, or_false] at hw
    rcases hw with (rfl | rfl | rfl) | rfl | hw
    · exact h1
    · exact h2'
    · exact h3
    · exact h4
    · exact hw
  have hr := vx_runSW (e := e) (R := R) (below := below) (meth := meth) (locs := locs) (cells := cells) (slots := slots) (g := F0 m pc ls st) (As := As) (rest := rest) (hh := hh) (w_fix hC) hM (vx_cwSW n hC.2.2.2.2.1 hG rfl rfl rfl h5 hR) ⟨PreL.blind _, fun U hU hWm => ⟨rfl, w_pre hC hW hS U hU hWm, hN.moved hWm.alike⟩⟩ rfl hn hl.1 hst (lv_room hcat) hdg hf
  exact w_back hr hS h2 kk
theorem w_callVL (hC : Cx p s m args meth c cc nL own ret D ca base) (hW : Wd D ca (Ab base) ad ρ L σ H) (hS : va_S (Ab base) s.heap H locs) (hl : lv_has ls nL lv) (cv : CVw own index y b maxL rty n) {k i N : Nat} {T : u_T} (hB : (k, i) ∈ L) (hk : k < 9) (hc : vwCl[k]? = some (y.cls, T, N)) (hM : Mt l y b maxL rty rm D ca base ad ρ L (.ref (ad k i) :: As) σ ov σ') (hn : As.length = n) (hst : st = As.reverse ++ .ref (ad k i) :: rest) (h2 : ov.toList ++ rest = st2) (hR : rm.frames + 1 ≤ R.frames ∧ 8 + (maxL + 11) + rm.locals ≤ R.locals) (hcat : (rest.map fun v => v.category).sum ≤ 8) (hdg : decode cc pc = .ok (.invokevirtual index, 3)) (hf : cells + rm.cells ≤ R.cells ∧ slots + rm.slots ≤ R.slots) (e1 : cells + rm.cells = c2) (e2 : slots + rm.slots = s2)
    (kk : ∀ (H1 : Heap) (locs1 : List Loc), Wd D ca (Ab base) ad ρ L σ' H1 → va_S (Ab base) s.heap H1 locs1 → W p l e R s m args below meth c H1 locs1 c2 s2 Q (F0 m (pc + 3) ls st2)) : W p l e R s m args below meth c H locs cells slots Q (F0 m pc ls st) := by
  subst e1; subst e2
  exact w_callV hC hW hS hl cv hB hk hc hM hn hst h2 hR hcat hdg hf kk
end WLR
/-- what the walk of one call needs of the state -/
def LInv (σ : Sg) : Prop := CInv σ ∧ (∀ k : Int32, e_X7_needToken k σ = none → e_X7_needThing (σ 6 k.toNatClampNeg 0) σ = none) ∧ MInv σ ∧ BZ σ ∧ (σ 41 0 (σ 8 0 3).toNatClampNeg = 0 ∨ σ 8 0 3 = 12)
theorem qw_355 : (Cond.codeWith yL_member cL_member 7 (some .int) [(0, 21, 24, 13), (0, 21, 28, 15)] : Cond) ∈ lw_gd := mem_gd 355 (by decide +kernel) rfl
theorem cl_L_121 : CLw RL 121 yL_member cL_member 7 (some .int) [(0, 21, 24, 13), (0, 21, 28, 15)] 6 := ⟨⟨q_353, q_354, q_45, qw_355⟩, by decide +kernel, by decide +kernel, by decide +kernel⟩
theorem qw_472 : (Cond.codeWith yL_groups cL_groups 4 (some .int) [(0, 9, 12, 13)] : Cond) ∈ lw_gd := mem_gd 472 (by decide +kernel) rfl
theorem cl_L_131 : CLw RL 131 yL_groups cL_groups 4 (some .int) [(0, 9, 12, 13)] 3 := ⟨⟨q_470, q_471, q_45, qw_472⟩, by decide +kernel, by decide +kernel, by decide +kernel⟩
theorem qw_483 : (Cond.codeWith yL_thing cL_thing 7 (some .int) [(0, 14, 17, 13), (0, 14, 21, 25), (0, 14, 25, 15)] : Cond) ∈ lw_gd := mem_gd 483 (by decide +kernel) rfl
theorem cl_L_135 : CLw RL 135 yL_thing cL_thing 7 (some .int) [(0, 14, 17, 13), (0, 14, 21, 25), (0, 14, 25, 15)] 6 := ⟨⟨q_481, q_482, q_45, qw_483⟩, by decide +kernel, by decide +kernel, by decide +kernel⟩
theorem qw_526 : (Cond.codeWith yL_type cL_type 5 (some .int) [(0, 10, 13, 13), (0, 10, 17, 25)] : Cond) ∈ lw_gd := mem_gd 526 (by decide +kernel) rfl
theorem cl_L_139 : CLw RL 139 yL_type cL_type 5 (some .int) [(0, 10, 13, 13), (0, 10, 17, 25)] 4 := ⟨⟨q_524, q_525, q_45, qw_526⟩, by decide +kernel, by decide +kernel, by decide +kernel⟩
theorem qw_533 : (Cond.codeWith yL_mode cL_mode 6 (some .int) [(0, 12, 15, 13), (0, 12, 19, 25), (0, 12, 23, 35)] : Cond) ∈ lw_gd := mem_gd 533 (by decide +kernel) rfl
theorem cl_L_143 : CLw RL 143 yL_mode cL_mode 6 (some .int) [(0, 12, 15, 13), (0, 12, 19, 25), (0, 12, 23, 35)] 5 := ⟨⟨q_531, q_532, q_45, qw_533⟩, by decide +kernel, by decide +kernel, by decide +kernel⟩
theorem qw_571 : (Cond.codeWith yL_mask cL_mask 6 (some .int) [(0, 12, 15, 13), (0, 12, 19, 25), (0, 12, 23, 35)] : Cond) ∈ lw_gd := mem_gd 571 (by decide +kernel) rfl
theorem cl_L_147 : CLw RL 147 yL_mask cL_mask 6 (some .int) [(0, 12, 15, 13), (0, 12, 19, 25), (0, 12, 23, 35)] 5 := ⟨⟨q_569, q_570, q_45, qw_571⟩, by decide +kernel, by decide +kernel, by decide +kernel⟩
theorem qw_578 : (Cond.codeWith yL_entry cL_entry 9 (some .int) [(0, 18, 21, 13), (0, 18, 25, 25), (0, 18, 29, 35), (0, 18, 33, 15)] : Cond) ∈ lw_gd := mem_gd 578 (by decide +kernel) rfl
theorem cl_L_150 : CLw RL 150 yL_entry cL_entry 9 (some .int) [(0, 18, 21, 13), (0, 18, 25, 25), (0, 18, 29, 35), (0, 18, 33, 15)] 8 := ⟨⟨q_576, q_577, q_45, qw_578⟩, by decide +kernel, by decide +kernel, by decide +kernel⟩
theorem qw_590 : (Cond.codeWith yL_give cL_give 6 (some .int) [(0, 12, 15, 13), (0, 12, 19, 35)] : Cond) ∈ lw_gd := mem_gd 590 (by decide +kernel) rfl
theorem cl_L_154 : CLw RL 154 yL_give cL_give 6 (some .int) [(0, 12, 15, 13), (0, 12, 19, 35)] 5 := ⟨⟨q_588, q_589, q_45, qw_590⟩, by decide +kernel, by decide +kernel, by decide +kernel⟩
theorem qw_597 : (Cond.codeWith yL_label cL_label 7 (some .int) [(0, 14, 17, 13), (0, 14, 21, 25), (0, 14, 25, 35)] : Cond) ∈ lw_gd := mem_gd 597 (by decide +kernel) rfl
theorem cl_L_157 : CLw RL 157 yL_label cL_label 7 (some .int) [(0, 14, 17, 13), (0, 14, 21, 25), (0, 14, 25, 35)] 6 := ⟨⟨q_595, q_596, q_45, qw_597⟩, by decide +kernel, by decide +kernel, by decide +kernel⟩
theorem qw_607 : (Cond.codeWith yL_rule cL_rule 6 (some .int) [(0, 12, 15, 13), (0, 12, 19, 25)] : Cond) ∈ lw_gd := mem_gd 607 (by decide +kernel) rfl
theorem cl_L_160 : CLw RL 160 yL_rule cL_rule 6 (some .int) [(0, 12, 15, 13), (0, 12, 19, 25)] 5 := ⟨⟨q_605, q_606, q_45, qw_607⟩, by decide +kernel, by decide +kernel, by decide +kernel⟩
theorem qw_625 : (Cond.codeWith yL_move cL_move 6 (some .int) [(0, 12, 15, 13), (0, 12, 19, 25)] : Cond) ∈ lw_gd := mem_gd 625 (by decide +kernel) rfl
theorem cl_L_163 : CLw RL 163 yL_move cL_move 6 (some .int) [(0, 12, 15, 13), (0, 12, 19, 25)] 5 := ⟨⟨q_623, q_624, q_45, qw_625⟩, by decide +kernel, by decide +kernel, by decide +kernel⟩
theorem qw_640 : (Cond.codeWith yL_process cL_process 9 (some .int) [(0, 18, 21, 13), (0, 18, 25, 25), (0, 18, 29, 15)] : Cond) ∈ lw_gd := mem_gd 640 (by decide +kernel) rfl
theorem cl_L_166 : CLw RL 166 yL_process cL_process 9 (some .int) [(0, 18, 21, 13), (0, 18, 25, 25), (0, 18, 29, 15)] 8 := ⟨⟨q_638, q_639, q_45, qw_640⟩, by decide +kernel, by decide +kernel, by decide +kernel⟩
theorem qw_651 : (Cond.codeWith yL_filter cL_filter 5 (some .int) [(0, 10, 13, 13), (0, 10, 17, 25), (0, 10, 21, 15)] : Cond) ∈ lw_gd := mem_gd 651 (by decide +kernel) rfl
theorem cl_L_170 : CLw RL 170 yL_filter cL_filter 5 (some .int) [(0, 10, 13, 13), (0, 10, 17, 25), (0, 10, 21, 15)] 4 := ⟨⟨q_649, q_650, q_45, qw_651⟩, by decide +kernel, by decide +kernel, by decide +kernel⟩
theorem qw_662 : (Cond.codeWith yL_bound cL_bound 5 (some .int) [(0, 10, 13, 13), (0, 10, 17, 25)] : Cond) ∈ lw_gd := mem_gd 662 (by decide +kernel) rfl
theorem cl_L_173 : CLw RL 173 yL_bound cL_bound 5 (some .int) [(0, 10, 13, 13), (0, 10, 17, 25)] 4 := ⟨⟨q_660, q_661, q_45, qw_662⟩, by decide +kernel, by decide +kernel, by decide +kernel⟩
theorem qw_669 : (Cond.codeWith yL_about cL_about 5 (some .int) [(0, 10, 13, 13), (0, 10, 17, 25)] : Cond) ∈ lw_gd := mem_gd 669 (by decide +kernel) rfl
theorem cl_L_176 : CLw RL 176 yL_about cL_about 5 (some .int) [(0, 10, 13, 13), (0, 10, 17, 25)] 4 := ⟨⟨q_667, q_668, q_45, qw_669⟩, by decide +kernel, by decide +kernel, by decide +kernel⟩
theorem qw_676 : (Cond.codeWith yL_act cL_act 6 (some .int) [(0, 12, 15, 13), (0, 12, 19, 25)] : Cond) ∈ lw_gd := mem_gd 676 (by decide +kernel) rfl
theorem cl_L_179 : CLw RL 179 yL_act cL_act 6 (some .int) [(0, 12, 15, 13), (0, 12, 19, 25)] 5 := ⟨⟨q_674, q_675, q_45, qw_676⟩, by decide +kernel, by decide +kernel, by decide +kernel⟩
theorem qw_723 : (Cond.codeWith yL_actBy cL_actBy 6 (some .int) [(0, 12, 15, 13), (0, 12, 19, 25), (0, 12, 23, 35)] : Cond) ∈ lw_gd := mem_gd 723 (by decide +kernel) rfl
theorem cl_L_182 : CLw RL 182 yL_actBy cL_actBy 6 (some .int) [(0, 12, 15, 13), (0, 12, 19, 25), (0, 12, 23, 35)] 5 := ⟨⟨q_721, q_722, q_45, qw_723⟩, by decide +kernel, by decide +kernel, by decide +kernel⟩
theorem qw_746 : (Cond.codeWith yL_token cL_token 7 (some .int) [(0, 14, 17, 13), (0, 14, 21, 25), (0, 14, 25, 15)] : Cond) ∈ lw_gd := mem_gd 746 (by decide +kernel) rfl
theorem cl_L_185 : CLw RL 185 yL_token cL_token 7 (some .int) [(0, 14, 17, 13), (0, 14, 21, 25), (0, 14, 25, 15)] 6 := ⟨⟨q_744, q_745, q_45, qw_746⟩, by decide +kernel, by decide +kernel, by decide +kernel⟩
theorem qw_757 : (Cond.codeWith yL_narrow cL_narrow 8 (some .int) [(0, 16, 19, 13), (0, 16, 23, 25), (0, 16, 27, 35), (0, 16, 31, 15)] : Cond) ∈ lw_gd := mem_gd 757 (by decide +kernel) rfl
theorem cl_L_188 : CLw RL 188 yL_narrow cL_narrow 8 (some .int) [(0, 16, 19, 13), (0, 16, 23, 25), (0, 16, 27, 35), (0, 16, 31, 15)] 7 := ⟨⟨q_755, q_756, q_45, qw_757⟩, by decide +kernel, by decide +kernel, by decide +kernel⟩
theorem qw_764 : (Cond.codeWith yL_takeBack cL_takeBack 5 (some .int) [(0, 17, 20, 13), (0, 17, 24, 35)] : Cond) ∈ lw_gd := mem_gd 764 (by decide +kernel) rfl
theorem cl_L_192 : CLw RL 192 yL_takeBack cL_takeBack 5 (some .int) [(0, 17, 20, 13), (0, 17, 24, 35)] 4 := ⟨⟨q_762, q_763, q_45, qw_764⟩, by decide +kernel, by decide +kernel, by decide +kernel⟩
theorem qw_771 : (Cond.codeWith yL_pass cL_pass 4 (some .int) [(0, 9, 12, 25), (0, 9, 15, 15)] : Cond) ∈ lw_gd := mem_gd 771 (by decide +kernel) rfl
theorem cl_L_195 : CLw RL 195 yL_pass cL_pass 4 (some .int) [(0, 9, 12, 25), (0, 9, 15, 15)] 3 := ⟨⟨q_769, q_770, q_45, qw_771⟩, by decide +kernel, by decide +kernel, by decide +kernel⟩
theorem qw_779 : (Cond.codeWith yL_watch cL_watch 4 (some .int) [(0, 6, 9, 25)] : Cond) ∈ lw_gd := mem_gd 779 (by decide +kernel) rfl
theorem cl_L_198 : CLw RL 198 yL_watch cL_watch 4 (some .int) [(0, 6, 9, 25)] 3 := ⟨⟨q_777, q_778, q_45, qw_779⟩, by decide +kernel, by decide +kernel, by decide +kernel⟩
theorem qw_786 : (Cond.codeWith yL_logged cL_logged 5 (some .int) [(0, 10, 13, 13), (0, 10, 17, 25)] : Cond) ∈ lw_gd := mem_gd 786 (by decide +kernel) rfl
theorem cl_L_210 : CLw RL 210 yL_logged cL_logged 5 (some .int) [(0, 10, 13, 13), (0, 10, 17, 25)] 4 := ⟨⟨q_784, q_785, q_45, qw_786⟩, by decide +kernel, by decide +kernel, by decide +kernel⟩
theorem qw_794 : (Cond.codeWith yL_forge cL_forge 5 (some .int) [(0, 10, 13, 13), (0, 10, 17, 25)] : Cond) ∈ lw_gd := mem_gd 794 (by decide +kernel) rfl
theorem cl_L_213 : CLw RL 213 yL_forge cL_forge 5 (some .int) [(0, 10, 13, 13), (0, 10, 17, 25)] 4 := ⟨⟨q_792, q_793, q_45, qw_794⟩, by decide +kernel, by decide +kernel, by decide +kernel⟩
theorem qw_802 : (Cond.codeWith yL_verdict cL_verdict 6 (some .int) [(0, 12, 15, 13), (0, 12, 19, 25)] : Cond) ∈ lw_gd := mem_gd 802 (by decide +kernel) rfl
theorem cl_L_220 : CLw RL 220 yL_verdict cL_verdict 6 (some .int) [(0, 12, 15, 13), (0, 12, 19, 25)] 5 := ⟨⟨q_800, q_801, q_45, qw_802⟩, by decide +kernel, by decide +kernel, by decide +kernel⟩
theorem qw_809 : (Cond.codeWith yL_verdictAnew cL_verdictAnew 6 (some .int) [(0, 12, 15, 13), (0, 12, 19, 25)] : Cond) ∈ lw_gd := mem_gd 809 (by decide +kernel) rfl
theorem cl_L_223 : CLw RL 223 yL_verdictAnew cL_verdictAnew 6 (some .int) [(0, 12, 15, 13), (0, 12, 19, 25)] 5 := ⟨⟨q_807, q_808, q_45, qw_809⟩, by decide +kernel, by decide +kernel, by decide +kernel⟩
theorem qw_836 : (Cond.codeWith yL_reach cL_reach 6 (some .int) [(0, 12, 15, 13), (0, 12, 19, 25)] : Cond) ∈ lw_gd := mem_gd 836 (by decide +kernel) rfl
theorem cl_L_226 : CLw RL 226 yL_reach cL_reach 6 (some .int) [(0, 12, 15, 13), (0, 12, 19, 25)] 5 := ⟨⟨q_834, q_835, q_45, qw_836⟩, by decide +kernel, by decide +kernel, by decide +kernel⟩
theorem qw_863 : (Cond.codeWith yL_reachAnew cL_reachAnew 6 (some .int) [(0, 12, 15, 13), (0, 12, 19, 25)] : Cond) ∈ lw_gd := mem_gd 863 (by decide +kernel) rfl
theorem cl_L_229 : CLw RL 229 yL_reachAnew cL_reachAnew 6 (some .int) [(0, 12, 15, 13), (0, 12, 19, 25)] 5 := ⟨⟨q_861, q_862, q_45, qw_863⟩, by decide +kernel, by decide +kernel, by decide +kernel⟩
theorem qw_878 : (Cond.codeWith yL_least cL_least 6 (some .int) [(0, 12, 15, 13), (0, 12, 19, 25)] : Cond) ∈ lw_gd := mem_gd 878 (by decide +kernel) rfl
theorem cl_L_232 : CLw RL 232 yL_least cL_least 6 (some .int) [(0, 12, 15, 13), (0, 12, 19, 25)] 5 := ⟨⟨q_876, q_877, q_45, qw_878⟩, by decide +kernel, by decide +kernel, by decide +kernel⟩
theorem qw_885 : (Cond.codeWith yL_leastAnew cL_leastAnew 6 (some .int) [(0, 12, 15, 13), (0, 12, 19, 25)] : Cond) ∈ lw_gd := mem_gd 885 (by decide +kernel) rfl
theorem cl_L_235 : CLw RL 235 yL_leastAnew cL_leastAnew 6 (some .int) [(0, 12, 15, 13), (0, 12, 19, 25)] 5 := ⟨⟨q_883, q_884, q_45, qw_885⟩, by decide +kernel, by decide +kernel, by decide +kernel⟩
