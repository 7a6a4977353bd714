/-! short words for cells -/
abbrev aI (g : Gh) (n : Nat) (f : Nat → Int) : va_E := .inl (gI g, n, .inl (fun j => iI (f j)))
abbrev aL (g : Gh) (n : Nat) (f : Nat → Int) : va_E := .inl (gL g, n, .inr (.inl (fun j => lI (f j))))
abbrev aS (g : Gh) (n : Nat) (f : Nat → Option Nat) : va_E := .inl (gS g, n, .inr (.inr (.inr (.inr f))))
section JM
variable {p : Program} {l : Launch} {e : Env} {R : Room} {s : State} {m : MethodId} {args : Array Value} {below : List Frame} {meth : Method} {c : Code} {g : Gh} {A : Nat → Prop} {cc : ByteArray} {nL : Nat} {own : String} {pc : Nat} {L : List (Nat × Value)} {S : List Value} {ws : va_W} {cells slots : Nat} {Q : State → Prop}
theorem j_lif_lt (C : Cx p g s m args c cc nL own A) {x y off : Int} {tgt : Nat} (hx : -9223372036854775808 ≤ x ∧ x < 9223372036854775808) (hy : -9223372036854775808 ≤ y ∧ y < 9223372036854775808) (hd : decode cc pc = .ok (.lcmp, 1)) (hd2 : decode cc (pc + 1) = .ok (.ifCond .lt off, 3)) (ht : ((pc + 1 : Nat) : Int) + off = (tgt : Int)) (kt : x < y → J p l e R s m args below meth c g A nL tgt L S ws cells slots Q) (kf : y ≤ x → J p l e R s m args below meth c g A nL (pc + 4) L S ws cells slots Q) : J p l e R s m args below meth c g A nL pc L (.long (lI y) :: .long (lI x) :: S) ws cells slots Q := by
  have hr : -2147483648 ≤ (if y < x then (1 : Int) else if x = y then 0 else -1) ∧ (if y < x then (1 : Int) else if x = y then 0 else -1) < 2147483648 := by
    split
    · omega
    · split <;> omega
  refine j_lcmp C hx hy hd ?_
  refine j_if_lt C hr hd2 ht (fun h9 => kt ?_) (fun h9 => kf ?_)
  · split at h9
    · omega
    · split at h9 <;> omega
  · split at h9
    · omega
    · split at h9 <;> omega
theorem j_lif_ge (C : Cx p g s m args c cc nL own A) {x y off : Int} {tgt : Nat} (hx : -9223372036854775808 ≤ x ∧ x < 9223372036854775808) (hy : -9223372036854775808 ≤ y ∧ y < 9223372036854775808) (hd : decode cc pc = .ok (.lcmp, 1)) (hd2 : decode cc (pc + 1) = .ok (.ifCond .ge off, 3)) (ht : ((pc + 1 : Nat) : Int) + off = (tgt : Int)) (kt : y ≤ x → J p l e R s m args below meth c g A nL tgt L S ws cells slots Q) (kf : x < y → J p l e R s m args below meth c g A nL (pc + 4) L S ws cells slots Q) : J p l e R s m args below meth c g A nL pc L (.long (lI y) :: .long (lI x) :: S) ws cells slots Q := by
  have hr : -2147483648 ≤ (if y < x then (1 : Int) else if x = y then 0 else -1) ∧ (if y < x then (1 : Int) else if x = y then 0 else -1) < 2147483648 := by
    split
    · omega
    · split <;> omega
  refine j_lcmp C hx hy hd ?_
  refine j_if_ge C hr hd2 ht (fun h9 => kt ?_) (fun h9 => kf ?_)
  · split at h9
    · omega
    · split at h9 <;> omega
  · split at h9
    · omega
    · split at h9 <;> omega
theorem j_lif_gt (C : Cx p g s m args c cc nL own A) {x y off : Int} {tgt : Nat} (hx : -9223372036854775808 ≤ x ∧ x < 9223372036854775808) (hy : -9223372036854775808 ≤ y ∧ y < 9223372036854775808) (hd : decode cc pc = .ok (.lcmp, 1)) (hd2 : decode cc (pc + 1) = .ok (.ifCond .gt off, 3)) (ht : ((pc + 1 : Nat) : Int) + off = (tgt : Int)) (kt : y < x → J p l e R s m args below meth c g A nL tgt L S ws cells slots Q) (kf : x ≤ y → J p l e R s m args below meth c g A nL (pc + 4) L S ws cells slots Q) : J p l e R s m args below meth c g A nL pc L (.long (lI y) :: .long (lI x) :: S) ws cells slots Q := by
  have hr : -2147483648 ≤ (if y < x then (1 : Int) else if x = y then 0 else -1) ∧ (if y < x then (1 : Int) else if x = y then 0 else -1) < 2147483648 := by
    split
    · omega
    · split <;> omega
  refine j_lcmp C hx hy hd ?_
  refine j_if_gt C hr hd2 ht (fun h9 => kt ?_) (fun h9 => kf ?_)
  · split at h9
    · omega
    · split at h9 <;> omega
  · split at h9
    · omega
    · split at h9 <;> omega
theorem j_lif_le (C : Cx p g s m args c cc nL own A) {x y off : Int} {tgt : Nat} (hx : -9223372036854775808 ≤ x ∧ x < 9223372036854775808) (hy : -9223372036854775808 ≤ y ∧ y < 9223372036854775808) (hd : decode cc pc = .ok (.lcmp, 1)) (hd2 : decode cc (pc + 1) = .ok (.ifCond .le off, 3)) (ht : ((pc + 1 : Nat) : Int) + off = (tgt : Int)) (kt : x ≤ y → J p l e R s m args below meth c g A nL tgt L S ws cells slots Q) (kf : y < x → J p l e R s m args below meth c g A nL (pc + 4) L S ws cells slots Q) : J p l e R s m args below meth c g A nL pc L (.long (lI y) :: .long (lI x) :: S) ws cells slots Q := by
  have hr : -2147483648 ≤ (if y < x then (1 : Int) else if x = y then 0 else -1) ∧ (if y < x then (1 : Int) else if x = y then 0 else -1) < 2147483648 := by
    split
    · omega
    · split <;> omega
  refine j_lcmp C hx hy hd ?_
  refine j_if_le C hr hd2 ht (fun h9 => kt ?_) (fun h9 => kf ?_)
  · split at h9
    · omega
    · split at h9 <;> omega
  · split at h9
    · omega
    · split at h9 <;> omega
theorem j_lif_eq (C : Cx p g s m args c cc nL own A) {x y off : Int} {tgt : Nat} (hx : -9223372036854775808 ≤ x ∧ x < 9223372036854775808) (hy : -9223372036854775808 ≤ y ∧ y < 9223372036854775808) (hd : decode cc pc = .ok (.lcmp, 1)) (hd2 : decode cc (pc + 1) = .ok (.ifCond .eq off, 3)) (ht : ((pc + 1 : Nat) : Int) + off = (tgt : Int)) (kt : x = y → J p l e R s m args below meth c g A nL tgt L S ws cells slots Q) (kf : x ≠ y → J p l e R s m args below meth c g A nL (pc + 4) L S ws cells slots Q) : J p l e R s m args below meth c g A nL pc L (.long (lI y) :: .long (lI x) :: S) ws cells slots Q := by
  have hr : -2147483648 ≤ (if y < x then (1 : Int) else if x = y then 0 else -1) ∧ (if y < x then (1 : Int) else if x = y then 0 else -1) < 2147483648 := by
    split
    · omega
    · split <;> omega
  refine j_lcmp C hx hy hd ?_
  refine j_if_eq C hr hd2 ht (fun h9 => kt ?_) (fun h9 => kf ?_)
  · split at h9
    · omega
    · split at h9 <;> omega
  · split at h9
    · omega
    · split at h9 <;> omega
theorem j_lif_ne (C : Cx p g s m args c cc nL own A) {x y off : Int} {tgt : Nat} (hx : -9223372036854775808 ≤ x ∧ x < 9223372036854775808) (hy : -9223372036854775808 ≤ y ∧ y < 9223372036854775808) (hd : decode cc pc = .ok (.lcmp, 1)) (hd2 : decode cc (pc + 1) = .ok (.ifCond .ne off, 3)) (ht : ((pc + 1 : Nat) : Int) + off = (tgt : Int)) (kt : x ≠ y → J p l e R s m args below meth c g A nL tgt L S ws cells slots Q) (kf : x = y → J p l e R s m args below meth c g A nL (pc + 4) L S ws cells slots Q) : J p l e R s m args below meth c g A nL pc L (.long (lI y) :: .long (lI x) :: S) ws cells slots Q := by
  have hr : -2147483648 ≤ (if y < x then (1 : Int) else if x = y then 0 else -1) ∧ (if y < x then (1 : Int) else if x = y then 0 else -1) < 2147483648 := by
    split
    · omega
    · split <;> omega
  refine j_lcmp C hx hy hd ?_
  refine j_if_ne C hr hd2 ht (fun h9 => kt ?_) (fun h9 => kf ?_)
  · split at h9
    · omega
    · split at h9 <;> omega
  · split at h9
    · omega
    · split at h9 <;> omega
theorem j_objInit (C : Cx p g s m args c cc nL own A) {index a : Nat} (hw : Cond.methodLink own index Lib.objectInit ∈ wAll) (hd : decode cc pc = .ok (.invokespecial index, 3)) (hf : 1 ≤ R.frames) (hlo : (S.map fun v => v.category).sum + 12 ≤ R.locals) (kk : J p l e R s m args below meth c g A nL (pc + 3) L S ws cells slots Q) : J p l e R s m args below meth c g A nL pc L (.ref a :: S) ws cells slots Q := by
  intro H locs ls hP hD hS h
  exact W.objInit C.1 C.2.1 C.2.2.2.1 (C.2.2.2.2.1 _ hw) (C.2.2.2.2.1 _ qw19) (C.2.2.2.2.1 _ qw20) rfl (h.1.trans C.2.2.1.symm) rfl hd hf (by show 2 * 0 + _ + 12 ≤ _; omega) (kk H locs ls hP hD hS h)
end JM
theorem qw_min1 : Cond.static Lib.Math.min.name ∈ wAll := qw289
theorem qw_min2 : Cond.initialized "java/lang/Math" ∈ wAll := qw10
theorem qw_min3 : Cond.code Lib.Math.min.name Lib.Math.min.code 2 (some .int) ∈ wAll := qw290
theorem yi_X4_init : YI yX4_init RX4 cX4_init 2 0 := ⟨qw16, qw1, qw17, rfl, rfl, ⟨by decide +kernel, by decide +kernel⟩, by decide +kernel⟩
theorem yi_X2_init : YI yX2_init RX2 cX2_init 2 0 := ⟨qw24, qw2, qw25, rfl, rfl, ⟨by decide +kernel, by decide +kernel⟩, by decide +kernel⟩
theorem yi_X1_init : YI yX1_init RX1 cX1_init 1 0 := ⟨qw30, qw3, qw31, rfl, rfl, ⟨by decide +kernel, by decide +kernel⟩, by decide +kernel⟩
theorem yi_X0_init : YI yX0_init RX0 cX0_init 1 0 := ⟨qw55, qw4, qw56, rfl, rfl, ⟨by decide +kernel, by decide +kernel⟩, by decide +kernel⟩
theorem yi_X3_init : YI yX3_init RX3 cX3_init 1 0 := ⟨qw115, qw5, qw116, rfl, rfl, ⟨by decide +kernel, by decide +kernel⟩, by decide +kernel⟩
theorem ys_L_cell : YS yL_cell RL cL_cell 3 (some FieldType.int) 2 := ⟨qw150, qw0, qw151, rfl, ⟨by decide +kernel, by decide +kernel⟩, by decide +kernel⟩
theorem ys_L_low : YS yL_low RL cL_low 2 (some FieldType.int) 2 := ⟨qw154, qw0, qw155, rfl, ⟨by decide +kernel, by decide +kernel⟩, by decide +kernel⟩
theorem yv_X4_setWeight : YV yX4_setWeight RX4 cX4_setWeight 4 (some FieldType.int) 2 := ⟨qw163, qw164, qw1, qw165, rfl, ⟨by decide +kernel, by decide +kernel⟩, by decide +kernel⟩
theorem ys_X4_checkBlock : YS yX4_checkBlock RX4 cX4_checkBlock 1 none 1 := ⟨qw167, qw1, qw168, rfl, ⟨by decide +kernel, by decide +kernel⟩, by decide +kernel⟩
theorem ys_X4_isBlock : YS yX4_isBlock RX4 cX4_isBlock 1 (some FieldType.boolean) 1 := ⟨qw170, qw1, qw171, rfl, ⟨by decide +kernel, by decide +kernel⟩, by decide +kernel⟩
theorem ys_X4_checkRange : YS yX4_checkRange RX4 cX4_checkRange 3 none 3 := ⟨qw242, qw1, qw243, rfl, ⟨by decide +kernel, by decide +kernel⟩, by decide +kernel⟩
theorem yv_X4_save : YV yX4_save RX4 cX4_save 2 none 0 := ⟨qw262, qp1, qw1, qw263, rfl, ⟨by decide +kernel, by decide +kernel⟩, by decide +kernel⟩
theorem yv_X4_savedAt : YV yX4_savedAt RX4 cX4_savedAt 2 (some (FieldType.object "RopeTackle$State")) 1 := ⟨qw266, qp2, qw1, qw267, rfl, ⟨by decide +kernel, by decide +kernel⟩, by decide +kernel⟩
theorem yv_X2_copyFrom : YV yX2_copyFrom RX2 cX2_copyFrom 2 none 1 := ⟨qw269, qw270, qw2, qw271, rfl, ⟨by decide +kernel, by decide +kernel⟩, by decide +kernel⟩
theorem yv_X1_copyFrom : YV yX1_copyFrom RX1 cX1_copyFrom 2 none 1 := ⟨qw273, qw274, qw3, qw275, rfl, ⟨by decide +kernel, by decide +kernel⟩, by decide +kernel⟩
theorem ys_X4_copyRow : YS yX4_copyRow RX4 cX4_copyRow 3 none 2 := ⟨qw277, qw1, qw278, rfl, ⟨by decide +kernel, by decide +kernel⟩, by decide +kernel⟩
theorem yv_X0_copyFrom : YV yX0_copyFrom RX0 cX0_copyFrom 2 none 1 := ⟨qw280, qw281, qw4, qw282, rfl, ⟨by decide +kernel, by decide +kernel⟩, by decide +kernel⟩
theorem ys_J9_floorMod_7cf53 : YS yJ9_floorMod_7cf53 RJ9 cJ9_floorMod_7cf53 3 (some FieldType.int) 2 := ⟨qw286, qw10, qw287, rfl, ⟨by decide +kernel, by decide +kernel⟩, by decide +kernel⟩
theorem ys_J9_min_7cf53 : YS yJ9_min_7cf53 RJ9 cJ9_min_7cf53 2 (some FieldType.int) 2 := ⟨qw289, qw10, qw290, rfl, ⟨by decide +kernel, by decide +kernel⟩, by decide +kernel⟩
theorem yv_X2_weightOf : YV yX2_weightOf RX2 cX2_weightOf 2 (some FieldType.int) 1 := ⟨qw292, qw293, qw2, qw294, rfl, ⟨by decide +kernel, by decide +kernel⟩, by decide +kernel⟩
theorem ys_X4_at : YS yX4_at RX4 cX4_at 2 (some FieldType.int) 2 := ⟨qw296, qw1, qw297, rfl, ⟨by decide +kernel, by decide +kernel⟩, by decide +kernel⟩
theorem yv_X2_giveWeight : YV yX2_giveWeight RX2 cX2_giveWeight 3 none 2 := ⟨qw299, qw300, qw2, qw301, rfl, ⟨by decide +kernel, by decide +kernel⟩, by decide +kernel⟩
theorem ys_X4_put : YS yX4_put RX4 cX4_put 3 none 3 := ⟨qw303, qw1, qw304, rfl, ⟨by decide +kernel, by decide +kernel⟩, by decide +kernel⟩
theorem yv_X4_setFriction : YV yX4_setFriction RX4 cX4_setFriction 3 (some FieldType.int) 1 := ⟨qw311, qw312, qw1, qw313, rfl, ⟨by decide +kernel, by decide +kernel⟩, by decide +kernel⟩
theorem yv_X4_setLength : YV yX4_setLength RX4 cX4_setLength 2 (some FieldType.int) 1 := ⟨qw319, qw320, qw1, qw321, rfl, ⟨by decide +kernel, by decide +kernel⟩, by decide +kernel⟩
theorem yv_X4_checkTrialRope : YV yX4_checkTrialRope RX4 cX4_checkTrialRope 1 none 0 := ⟨qw325, qp3, qw1, qw326, rfl, ⟨by decide +kernel, by decide +kernel⟩, by decide +kernel⟩
theorem yv_X2_inHand : YV yX2_inHand RX2 cX2_inHand 1 (some FieldType.int) 0 := ⟨qw328, qw329, qw2, qw330, rfl, ⟨by decide +kernel, by decide +kernel⟩, by decide +kernel⟩
theorem yv_X2_inStrands : YV yX2_inStrands RX2 cX2_inStrands 3 (some FieldType.int) 0 := ⟨qw332, qw333, qw2, qw334, rfl, ⟨by decide +kernel, by decide +kernel⟩, by decide +kernel⟩
theorem yv_X1_strandsOf : YV yX1_strandsOf RX1 cX1_strandsOf 2 (some FieldType.int) 1 := ⟨qw336, qw337, qw3, qw338, rfl, ⟨by decide +kernel, by decide +kernel⟩, by decide +kernel⟩
theorem yv_X1_pulleysOn : YV yX1_pulleysOn RX1 cX1_pulleysOn 4 (some FieldType.int) 1 := ⟨qw340, qw341, qw3, qw342, rfl, ⟨by decide +kernel, by decide +kernel⟩, by decide +kernel⟩
theorem yv_X2_heightOf : YV yX2_heightOf RX2 cX2_heightOf 2 (some FieldType.int) 1 := ⟨qw344, qw345, qw2, qw346, rfl, ⟨by decide +kernel, by decide +kernel⟩, by decide +kernel⟩
theorem yv_X4_acceptTrial : YV yX4_acceptTrial RX4 cX4_acceptTrial 1 none 0 := ⟨qw365, qp4, qw1, qw366, rfl, ⟨by decide +kernel, by decide +kernel⟩, by decide +kernel⟩
theorem yv_X4_haul : YV yX4_haul RX4 cX4_haul 3 (some FieldType.int) 2 := ⟨qw372, qw373, qw1, qw374, rfl, ⟨by decide +kernel, by decide +kernel⟩, by decide +kernel⟩
theorem yv_X2_moveUp : YV yX2_moveUp RX2 cX2_moveUp 4 (some FieldType.int) 2 := ⟨qw378, qw379, qw2, qw380, rfl, ⟨by decide +kernel, by decide +kernel⟩, by decide +kernel⟩
theorem yv_X2_reckonForces : YV yX2_reckonForces RX2 cX2_reckonForces 3 none 1 := ⟨qw382, qw383, qw2, qw384, rfl, ⟨by decide +kernel, by decide +kernel⟩, by decide +kernel⟩
theorem yv_X2_leastForceFor : YV yX2_leastForceFor RX2 cX2_leastForceFor 3 (some FieldType.int) 2 := ⟨qw386, qw387, qw2, qw388, rfl, ⟨by decide +kernel, by decide +kernel⟩, by decide +kernel⟩
theorem yv_X1_leastForce : YV yX1_leastForce RX1 cX1_leastForce 8 (some FieldType.int) 3 := ⟨qw391, qw392, qw3, qw393, rfl, ⟨by decide +kernel, by decide +kernel⟩, by decide +kernel⟩
theorem yv_X1_pullOn : YV yX1_pullOn RX1 cX1_pullOn 11 (some FieldType.long) 3 := ⟨qw397, qw398, qw3, qw399, rfl, ⟨by decide +kernel, by decide +kernel⟩, by decide +kernel⟩
theorem yv_X1_behindOne : YV yX1_behindOne RX1 cX1_behindOne 6 (some FieldType.long) 2 := ⟨qw401, qw402, qw3, qw403, rfl, ⟨by decide +kernel, by decide +kernel⟩, by decide +kernel⟩
theorem yv_X2_moveInTurn : YV yX2_moveInTurn RX2 cX2_moveInTurn 7 (some FieldType.int) 3 := ⟨qw407, qp5, qw2, qw408, rfl, ⟨by decide +kernel, by decide +kernel⟩, by decide +kernel⟩
theorem yv_X2_nextToRise : YV yX2_nextToRise RX2 cX2_nextToRise 7 (some FieldType.int) 1 := ⟨qw410, qw411, qw2, qw412, rfl, ⟨by decide +kernel, by decide +kernel⟩, by decide +kernel⟩
theorem yv_X2_nextToSink : YV yX2_nextToSink RX2 cX2_nextToSink 6 (some FieldType.int) 1 := ⟨qw414, qw415, qw2, qw416, rfl, ⟨by decide +kernel, by decide +kernel⟩, by decide +kernel⟩
theorem yv_X2_moveOne : YV yX2_moveOne RX2 cX2_moveOne 8 (some FieldType.int) 3 := ⟨qw419, qp6, qw2, qw420, rfl, ⟨by decide +kernel, by decide +kernel⟩, by decide +kernel⟩
theorem yv_X0_note : YV yX0_note RX0 cX0_note 4 none 3 := ⟨qw424, qw425, qw4, qw426, rfl, ⟨by decide +kernel, by decide +kernel⟩, by decide +kernel⟩
theorem yv_X4_undo : YV yX4_undo RX4 cX4_undo 2 (some FieldType.int) 0 := ⟨qw434, qw435, qw1, qw436, rfl, ⟨by decide +kernel, by decide +kernel⟩, by decide +kernel⟩
theorem ys_L_sum : YS yL_sum RL cL_sum 4 (some FieldType.long) 1 := ⟨qw439, qw0, qw440, rfl, ⟨by decide +kernel, by decide +kernel⟩, by decide +kernel⟩
theorem yv_X4_value : YV yX4_value RX4 cX4_value 2 (some FieldType.int) 1 := ⟨qw447, qw448, qw1, qw449, rfl, ⟨by decide +kernel, by decide +kernel⟩, by decide +kernel⟩
theorem yv_X1_passes : YV yX1_passes RX1 cX1_passes 1 (some FieldType.int) 0 := ⟨qw451, qw452, qw3, qw453, rfl, ⟨by decide +kernel, by decide +kernel⟩, by decide +kernel⟩
theorem yv_X4_block : YV yX4_block RX4 cX4_block 3 (some FieldType.int) 2 := ⟨qw460, qw461, qw1, qw462, rfl, ⟨by decide +kernel, by decide +kernel⟩, by decide +kernel⟩
theorem yv_X4_pulley : YV yX4_pulley RX4 cX4_pulley 2 (some FieldType.int) 1 := ⟨qw472, qw473, qw1, qw474, rfl, ⟨by decide +kernel, by decide +kernel⟩, by decide +kernel⟩
theorem yv_X4_checkPulley : YV yX4_checkPulley RX4 cX4_checkPulley 2 none 1 := ⟨qw477, qp7, qw1, qw478, rfl, ⟨by decide +kernel, by decide +kernel⟩, by decide +kernel⟩
theorem yv_X4_entry : YV yX4_entry RX4 cX4_entry 3 (some FieldType.int) 2 := ⟨qw485, qw486, qw1, qw487, rfl, ⟨by decide +kernel, by decide +kernel⟩, by decide +kernel⟩
theorem yv_X0_part : YV yX0_part RX0 cX0_part 3 (some FieldType.int) 2 := ⟨qw490, qw491, qw4, qw492, rfl, ⟨by decide +kernel, by decide +kernel⟩, by decide +kernel⟩
theorem yv_X4_work : YV yX4_work RX4 cX4_work 2 (some FieldType.long) 1 := ⟨qw495, qw496, qw1, qw497, rfl, ⟨by decide +kernel, by decide +kernel⟩, by decide +kernel⟩
theorem ys_L_refused : YS yL_refused RL cL_refused 4 (some FieldType.boolean) 1 := ⟨qw499, qw0, qw500, rfl, ⟨by decide +kernel, by decide +kernel⟩, by decide +kernel⟩
theorem yv_X4_addPulley : YV yX4_addPulley RX4 cX4_addPulley 2 (some FieldType.int) 1 := ⟨qw505, qw506, qw1, qw507, rfl, ⟨by decide +kernel, by decide +kernel⟩, by decide +kernel⟩
theorem yv_X1_hang : YV yX1_hang RX1 cX1_hang 2 none 1 := ⟨qw510, qw511, qw3, qw512, rfl, ⟨by decide +kernel, by decide +kernel⟩, by decide +kernel⟩
theorem yv_X4_setEnd : YV yX4_setEnd RX4 cX4_setEnd 3 (some FieldType.int) 1 := ⟨qw518, qw519, qw1, qw520, rfl, ⟨by decide +kernel, by decide +kernel⟩, by decide +kernel⟩
theorem yv_X4_letOut : YV yX4_letOut RX4 cX4_letOut 3 (some FieldType.int) 2 := ⟨qw527, qw528, qw1, qw529, rfl, ⟨by decide +kernel, by decide +kernel⟩, by decide +kernel⟩
theorem yv_X2_moveDown : YV yX2_moveDown RX2 cX2_moveDown 3 (some FieldType.int) 2 := ⟨qw531, qw532, qw2, qw533, rfl, ⟨by decide +kernel, by decide +kernel⟩, by decide +kernel⟩
theorem yv_X4_pulleysFor : YV yX4_pulleysFor RX4 cX4_pulleysFor 4 (some FieldType.int) 2 := ⟨qw540, qw541, qw1, qw542, rfl, ⟨by decide +kernel, by decide +kernel⟩, by decide +kernel⟩
theorem yv_X1_unreeve : YV yX1_unreeve RX1 cX1_unreeve 1 none 0 := ⟨qw544, qw545, qw3, qw546, rfl, ⟨by decide +kernel, by decide +kernel⟩, by decide +kernel⟩
theorem yv_X4_riseBy : YV yX4_riseBy RX4 cX4_riseBy 4 (some FieldType.int) 3 := ⟨qw552, qw553, qw1, qw554, rfl, ⟨by decide +kernel, by decide +kernel⟩, by decide +kernel⟩
theorem yv_X4_append : YV yX4_append RX4 cX4_append 2 (some FieldType.int) 1 := ⟨qw559, qw560, qw1, qw561, rfl, ⟨by decide +kernel, by decide +kernel⟩, by decide +kernel⟩
theorem yv_X4_bestEnd : YV yX4_bestEnd RX4 cX4_bestEnd 6 (some FieldType.int) 1 := ⟨qw568, qw569, qw1, qw570, rfl, ⟨by decide +kernel, by decide +kernel⟩, by decide +kernel⟩
theorem yv_X4_swapped : YV yX4_swapped RX4 cX4_swapped 4 (some FieldType.int) 3 := ⟨qw575, qw576, qw1, qw577, rfl, ⟨by decide +kernel, by decide +kernel⟩, by decide +kernel⟩
theorem yv_X1_swap : YV yX1_swap RX1 cX1_swap 4 none 2 := ⟨qw579, qw580, qw3, qw581, rfl, ⟨by decide +kernel, by decide +kernel⟩, by decide +kernel⟩
theorem yv_X4_takePulley : YV yX4_takePulley RX4 cX4_takePulley 1 (some FieldType.int) 0 := ⟨qw587, qw588, qw1, qw589, rfl, ⟨by decide +kernel, by decide +kernel⟩, by decide +kernel⟩
theorem yv_X1_unhang : YV yX1_unhang RX1 cX1_unhang 1 (some FieldType.int) 0 := ⟨qw592, qw593, qw3, qw594, rfl, ⟨by decide +kernel, by decide +kernel⟩, by decide +kernel⟩
theorem yv_X4_force : YV yX4_force RX4 cX4_force 4 (some FieldType.long) 3 := ⟨qw599, qw600, qw1, qw601, rfl, ⟨by decide +kernel, by decide +kernel⟩, by decide +kernel⟩
theorem yv_X1_forceBehind : YV yX1_forceBehind RX1 cX1_forceBehind 7 (some FieldType.long) 3 := ⟨qw603, qw604, qw3, qw605, rfl, ⟨by decide +kernel, by decide +kernel⟩, by decide +kernel⟩
theorem ys_L_fits : YS yL_fits RL cL_fits 11 (some FieldType.boolean) 2 := ⟨qw608, qw0, qw609, rfl, ⟨by decide +kernel, by decide +kernel⟩, by decide +kernel⟩
theorem ys_L_areLeast : YS yL_areLeast RL cL_areLeast 5 (some FieldType.boolean) 3 := ⟨qw611, qw0, qw612, rfl, ⟨by decide +kernel, by decide +kernel⟩, by decide +kernel⟩
theorem yv_X4_pull : YV yX4_pull RX4 cX4_pull 4 (some FieldType.long) 3 := ⟨qw618, qw619, qw1, qw620, rfl, ⟨by decide +kernel, by decide +kernel⟩, by decide +kernel⟩
theorem ys_L_arePulls : YS yL_arePulls RL cL_arePulls 16 (some FieldType.boolean) 4 := ⟨qw624, qw0, qw625, rfl, ⟨by decide +kernel, by decide +kernel⟩, by decide +kernel⟩
theorem ys_L_acts : YS yL_acts RL cL_acts 7 (some FieldType.boolean) 4 := ⟨qw628, qw0, qw629, rfl, ⟨by decide +kernel, by decide +kernel⟩, by decide +kernel⟩
theorem ys_L_hauled : YS yL_hauled RL cL_hauled 18 (some FieldType.boolean) 3 := ⟨qw632, qw0, qw633, rfl, ⟨by decide +kernel, by decide +kernel⟩, by decide +kernel⟩
theorem yv_X4_first : YV yX4_first RX4 cX4_first 1 (some FieldType.int) 0 := ⟨qw635, qw636, qw1, qw637, rfl, ⟨by decide +kernel, by decide +kernel⟩, by decide +kernel⟩
theorem ys_L_letOut : YS yL_letOut RL cL_letOut 14 (some FieldType.boolean) 3 := ⟨qw641, qw0, qw642, rfl, ⟨by decide +kernel, by decide +kernel⟩, by decide +kernel⟩
theorem ys_L_isRead : YS yL_isRead RL cL_isRead 10 (some FieldType.boolean) 1 := ⟨qw645, qw0, qw646, rfl, ⟨by decide +kernel, by decide +kernel⟩, by decide +kernel⟩
theorem yv_X4_clearText : YV yX4_clearText RX4 cX4_clearText 2 (some FieldType.int) 0 := ⟨qw648, qw649, qw1, qw650, rfl, ⟨by decide +kernel, by decide +kernel⟩, by decide +kernel⟩
theorem yv_X4_parse : YV yX4_parse RX4 cX4_parse 2 (some FieldType.int) 0 := ⟨qw652, qw653, qw1, qw654, rfl, ⟨by decide +kernel, by decide +kernel⟩, by decide +kernel⟩
theorem yv_X3_readInto : YV yX3_readInto RX3 cX3_readInto 4 (some FieldType.int) 1 := ⟨qw656, qw657, qw5, qw658, rfl, ⟨by decide +kernel, by decide +kernel⟩, by decide +kernel⟩
theorem yv_X2_layAllDown : YV yX2_layAllDown RX2 cX2_layAllDown 2 none 0 := ⟨qw660, qw661, qw2, qw662, rfl, ⟨by decide +kernel, by decide +kernel⟩, by decide +kernel⟩
theorem yv_X3_nextIsFrom : YV yX3_nextIsFrom RX3 cX3_nextIsFrom 4 (some FieldType.boolean) 2 := ⟨qw666, qp8, qw5, qw667, rfl, ⟨by decide +kernel, by decide +kernel⟩, by decide +kernel⟩
theorem yv_X3_takeDigit : YV yX3_takeDigit RX3 cX3_takeDigit 2 (some FieldType.int) 0 := ⟨qw671, qp9, qw5, qw672, rfl, ⟨by decide +kernel, by decide +kernel⟩, by decide +kernel⟩
theorem yv_X3_readWeight : YV yX3_readWeight RX3 cX3_readWeight 6 (some FieldType.int) 2 := ⟨qw676, qp10, qw5, qw677, rfl, ⟨by decide +kernel, by decide +kernel⟩, by decide +kernel⟩
