/-! short words for cells -/
abbrev aI (g : Gh) (n : Nat) (f : Nat → Int) : va_E := .inl (gI g, n, .inl (fun j => iI (f j)))
abbrev aL (g : Gh) (n : Nat) (f : Nat → Int) : va_E := .inl (gL g, n, .inr (.inl (fun j => lI (f j))))
abbrev aS (g : Gh) (n : Nat) (f : Nat → Option Nat) : va_E := .inl (gS g, n, .inr (.inr (.inr (.inr f))))
section JM
variable {p : Program} {l : Launch} {e : Env} {R : Room} {s : State} {m : MethodId} {args : Array Value} {below : List Frame} {meth : Method} {c : Code} {g : Gh} {A : Nat → Prop} {cc : ByteArray} {nL : Nat} {own : String} {pc : Nat} {L : List (Nat × Value)} {S : List Value} {ws : va_W} {cells slots : Nat} {Q : State → Prop}
theorem j_lif_lt (C : Cx p g s m args c cc nL own A) {x y off : Int} {tgt : Nat} (hx : -9223372036854775808 ≤ x ∧ x < 9223372036854775808) (hy : -9223372036854775808 ≤ y ∧ y < 9223372036854775808) (hd : decode cc pc = .ok (.lcmp, 1)) (hd2 : decode cc (pc + 1) = .ok (.ifCond .lt off, 3)) (ht : ((pc + 1 : Nat) : Int) + off = (tgt : Int)) (kt : x < y → J p l e R s m args below meth c g A nL tgt L S ws cells slots Q) (kf : y ≤ x → J p l e R s m args below meth c g A nL (pc + 4) L S ws cells slots Q) : J p l e R s m args below meth c g A nL pc L (.long (lI y) :: .long (lI x) :: S) ws cells slots Q := by
  have hr : -2147483648 ≤ (if y < x then (1 : Int) else if x = y then 0 else -1) ∧ (if y < x then (1 : Int) else if x = y then 0 else -1) < 2147483648 := by
    split
    · omega
    · split <;> omega
  refine j_lcmp C hx hy hd ?_
  refine j_if_lt C hr hd2 ht (fun h9 => kt ?_) (fun h9 => kf ?_)
  · split at h9
    · omega
    · split at h9 <;> omega
  · split at h9
    · omega
    · split at h9 <;> omega
theorem j_lif_ge (C : Cx p g s m args c cc nL own A) {x y off : Int} {tgt : Nat} (hx : -9223372036854775808 ≤ x ∧ x < 9223372036854775808) (hy : -9223372036854775808 ≤ y ∧ y < 9223372036854775808) (hd : decode cc pc = .ok (.lcmp, 1)) (hd2 : decode cc (pc + 1) = .ok (.ifCond .ge off, 3)) (ht : ((pc + 1 : Nat) : Int) + off = (tgt : Int)) (kt : y ≤ x → J p l e R s m args below meth c g A nL tgt L S ws cells slots Q) (kf : x < y → J p l e R s m args below meth c g A nL (pc + 4) L S ws cells slots Q) : J p l e R s m args below meth c g A nL pc L (.long (lI y) :: .long (lI x) :: S) ws cells slots Q := by
  have hr : -2147483648 ≤ (if y < x then (1 : Int) else if x = y then 0 else -1) ∧ (if y < x then (1 : Int) else if x = y then 0 else -1) < 2147483648 := by
    split
    · omega
    · split <;> omega
  refine j_lcmp C hx hy hd ?_
  refine j_if_ge C hr hd2 ht (fun h9 => kt ?_) (fun h9 => kf ?_)
  · split at h9
    · omega
    · split at h9 <;> omega
  · split at h9
    · omega
    · split at h9 <;> omega
theorem j_lif_gt (C : Cx p g s m args c cc nL own A) {x y off : Int} {tgt : Nat} (hx : -9223372036854775808 ≤ x ∧ x < 9223372036854775808) (hy : -9223372036854775808 ≤ y ∧ y < 9223372036854775808) (hd : decode cc pc = .ok (.lcmp, 1)) (hd2 : decode cc (pc + 1) = .ok (.ifCond .gt off, 3)) (ht : ((pc + 1 : Nat) : Int) + off = (tgt : Int)) (kt : y < x → J p l e R s m args below meth c g A nL tgt L S ws cells slots Q) (kf : x ≤ y → J p l e R s m args below meth c g A nL (pc + 4) L S ws cells slots Q) : J p l e R s m args below meth c g A nL pc L (.long (lI y) :: .long (lI x) :: S) ws cells slots Q := by
  have hr : -2147483648 ≤ (if y < x then (1 : Int) else if x = y then 0 else -1) ∧ (if y < x then (1 : Int) else if x = y then 0 else -1) < 2147483648 := by
    split
    · omega
    · split <;> omega
  refine j_lcmp C hx hy hd ?_
  refine j_if_gt C hr hd2 ht (fun h9 => kt ?_) (fun h9 => kf ?_)
  · split at h9
    · omega
    · split at h9 <;> omega
  · split at h9
    · omega
    · split at h9 <;> omega
theorem j_lif_le (C : Cx p g s m args c cc nL own A) {x y off : Int} {tgt : Nat} (hx : -9223372036854775808 ≤ x ∧ x < 9223372036854775808) (hy : -9223372036854775808 ≤ y ∧ y < 9223372036854775808) (hd : decode cc pc = .ok (.lcmp, 1)) (hd2 : decode cc (pc + 1) = .ok (.ifCond .le off, 3)) (ht : ((pc + 1 : Nat) : Int) + off = (tgt : Int)) (kt : x ≤ y → J p l e R s m args below meth c g A nL tgt L S ws cells slots Q) (kf : y < x → J p l e R s m args below meth c g A nL (pc + 4) L S ws cells slots Q) : J p l e R s m args below meth c g A nL pc L (.long (lI y) :: .long (lI x) :: S) ws cells slots Q := by
  have hr : -2147483648 ≤ (if y < x then (1 : Int) else if x = y then 0 else -1) ∧ (if y < x then (1 : Int) else if x = y then 0 else -1) < 2147483648 := by
    split
    · omega
    · split <;> omega
  refine j_lcmp C hx hy hd ?_
  refine j_if_le C hr hd2 ht (fun h9 => kt ?_) (fun h9 => kf ?_)
  · split at h9
    · omega
    · split at h9 <;> omega
  · split at h9
    · omega
    · split at h9 <;> omega
theorem j_lif_eq (C : Cx p g s m args c cc nL own A) {x y off : Int} {tgt : Nat} (hx : -9223372036854775808 ≤ x ∧ x < 9223372036854775808) (hy : -9223372036854775808 ≤ y ∧ y < 9223372036854775808) (hd : decode cc pc = .ok (.lcmp, 1)) (hd2 : decode cc (pc + 1) = .ok (.ifCond .eq off, 3)) (ht : ((pc + 1 : Nat) : Int) + off = (tgt : Int)) (kt : x = y → J p l e R s m args below meth c g A nL tgt L S ws cells slots Q) (kf : x ≠ y → J p l e R s m args below meth c g A nL (pc + 4) L S ws cells slots Q) : J p l e R s m args below meth c g A nL pc L (.long (lI y) :: .long (lI x) :: S) ws cells slots Q := by
  have hr : -2147483648 ≤ (if y < x then (1 : Int) else if x = y then 0 else -1) ∧ (if y < x then (1 : Int) else if x = y then 0 else -1) < 2147483648 := by
    split
    · omega
    · split <;> omega
  refine j_lcmp C hx hy hd ?_
  refine j_if_eq C hr hd2 ht (fun h9 => kt ?_) (fun h9 => kf ?_)
  · split at h9
    · omega
    · split at h9 <;> omega
  · split at h9
    · omega
    · split at h9 <;> omega
theorem j_lif_ne (C : Cx p g s m args c cc nL own A) {x y off : Int} {tgt : Nat} (hx : -9223372036854775808 ≤ x ∧ x < 9223372036854775808) (hy : -9223372036854775808 ≤ y ∧ y < 9223372036854775808) (hd : decode cc pc = .ok (.lcmp, 1)) (hd2 : decode cc (pc + 1) = .ok (.ifCond .ne off, 3)) (ht : ((pc + 1 : Nat) : Int) + off = (tgt : Int)) (kt : x ≠ y → J p l e R s m args below meth c g A nL tgt L S ws cells slots Q) (kf : x = y → J p l e R s m args below meth c g A nL (pc + 4) L S ws cells slots Q) : J p l e R s m args below meth c g A nL pc L (.long (lI y) :: .long (lI x) :: S) ws cells slots Q := by
  have hr : -2147483648 ≤ (if y < x then (1 : Int) else if x = y then 0 else -1) ∧ (if y < x then (1 : Int) else if x = y then 0 else -1) < 2147483648 := by
    split
    · omega
    · split <;> omega
  refine j_lcmp C hx hy hd ?_
  refine j_if_ne C hr hd2 ht (fun h9 => kt ?_) (fun h9 => kf ?_)
  · split at h9
    · omega
    · split at h9 <;> omega
  · split at h9
    · omega
    · split at h9 <;> omega
theorem j_objInit (C : Cx p g s m args c cc nL own A) {index a : Nat} (hw : Cond.methodLink own index Lib.objectInit ∈ wAll) (hd : decode cc pc = .ok (.invokespecial index, 3)) (hf : 1 ≤ R.frames) (hlo : (S.map fun v => v.category).sum + 12 ≤ R.locals) (kk : J p l e R s m args below meth c g A nL (pc + 3) L S ws cells slots Q) : J p l e R s m args below meth c g A nL pc L (.ref a :: S) ws cells slots Q := by
  intro H locs ls hP hD hS h
  exact W.objInit C.1 C.2.1 C.2.2.2.1 (C.2.2.2.2.1 _ hw) (C.2.2.2.2.1 _ qw20) (C.2.2.2.2.1 _ qw21) rfl (h.1.trans C.2.2.1.symm) rfl hd hf (by show 2 * 0 + _ + 12 ≤ _; omega) (kk H locs ls hP hD hS h)
end JM
theorem qw_min1 : Cond.static Lib.Math.min.name ∈ wAll := qw306
theorem qw_min2 : Cond.initialized "java/lang/Math" ∈ wAll := qw12
theorem qw_min3 : Cond.code Lib.Math.min.name Lib.Math.min.code 2 (some .int) ∈ wAll := qw307
theorem qw_max1 : Cond.static Lib.Math.max.name ∈ wAll := qw212
theorem qw_max2 : Cond.initialized "java/lang/Math" ∈ wAll := qw12
theorem qw_max3 : Cond.code Lib.Math.max.name Lib.Math.max.code 2 (some .int) ∈ wAll := qw213
theorem yi_X4_init : YI yX4_init RX4 cX4_init 2 0 := ⟨qw17, qw1, qw18, rfl, rfl, ⟨by decide +kernel, by decide +kernel⟩, by decide +kernel⟩
theorem yi_X2_init : YI yX2_init RX2 cX2_init 2 0 := ⟨qw25, qw2, qw26, rfl, rfl, ⟨by decide +kernel, by decide +kernel⟩, by decide +kernel⟩
theorem yi_X1_init : YI yX1_init RX1 cX1_init 1 0 := ⟨qw31, qw3, qw32, rfl, rfl, ⟨by decide +kernel, by decide +kernel⟩, by decide +kernel⟩
theorem yi_X0_init : YI yX0_init RX0 cX0_init 1 0 := ⟨qw56, qw4, qw57, rfl, rfl, ⟨by decide +kernel, by decide +kernel⟩, by decide +kernel⟩
theorem yi_X3_init : YI yX3_init RX3 cX3_init 1 0 := ⟨qw116, qw5, qw117, rfl, rfl, ⟨by decide +kernel, by decide +kernel⟩, by decide +kernel⟩
theorem yv_X4_work : YV yX4_work RX4 cX4_work 2 (some FieldType.long) 1 := ⟨qw151, qw152, qw1, qw153, rfl, ⟨by decide +kernel, by decide +kernel⟩, by decide +kernel⟩
theorem yv_X4_first : YV yX4_first RX4 cX4_first 1 (some FieldType.int) 0 := ⟨qw155, qw156, qw1, qw157, rfl, ⟨by decide +kernel, by decide +kernel⟩, by decide +kernel⟩
theorem yv_X2_reckonForces : YV yX2_reckonForces RX2 cX2_reckonForces 3 none 1 := ⟨qw159, qw160, qw2, qw161, rfl, ⟨by decide +kernel, by decide +kernel⟩, by decide +kernel⟩
theorem yv_X2_leastForceFor : YV yX2_leastForceFor RX2 cX2_leastForceFor 3 (some FieldType.int) 2 := ⟨qw163, qw164, qw2, qw165, rfl, ⟨by decide +kernel, by decide +kernel⟩, by decide +kernel⟩
theorem yv_X2_weightOf : YV yX2_weightOf RX2 cX2_weightOf 2 (some FieldType.int) 1 := ⟨qw167, qw168, qw2, qw169, rfl, ⟨by decide +kernel, by decide +kernel⟩, by decide +kernel⟩
theorem ys_X4_at : YS yX4_at RX4 cX4_at 2 (some FieldType.int) 2 := ⟨qw171, qw1, qw172, rfl, ⟨by decide +kernel, by decide +kernel⟩, by decide +kernel⟩
theorem yv_X1_leastForce : YV yX1_leastForce RX1 cX1_leastForce 8 (some FieldType.int) 3 := ⟨qw174, qw175, qw3, qw176, rfl, ⟨by decide +kernel, by decide +kernel⟩, by decide +kernel⟩
theorem yv_X1_strandsOf : YV yX1_strandsOf RX1 cX1_strandsOf 2 (some FieldType.int) 1 := ⟨qw178, qw179, qw3, qw180, rfl, ⟨by decide +kernel, by decide +kernel⟩, by decide +kernel⟩
theorem yv_X1_pulleysOn : YV yX1_pulleysOn RX1 cX1_pulleysOn 4 (some FieldType.int) 1 := ⟨qw182, qw183, qw3, qw184, rfl, ⟨by decide +kernel, by decide +kernel⟩, by decide +kernel⟩
theorem yv_X1_pullOn : YV yX1_pullOn RX1 cX1_pullOn 11 (some FieldType.long) 3 := ⟨qw187, qw188, qw3, qw189, rfl, ⟨by decide +kernel, by decide +kernel⟩, by decide +kernel⟩
theorem yv_X1_behindOne : YV yX1_behindOne RX1 cX1_behindOne 6 (some FieldType.long) 2 := ⟨qw191, qw192, qw3, qw193, rfl, ⟨by decide +kernel, by decide +kernel⟩, by decide +kernel⟩
theorem yv_X2_nextToRise : YV yX2_nextToRise RX2 cX2_nextToRise 7 (some FieldType.int) 1 := ⟨qw197, qw198, qw2, qw199, rfl, ⟨by decide +kernel, by decide +kernel⟩, by decide +kernel⟩
theorem yv_X2_heightOf : YV yX2_heightOf RX2 cX2_heightOf 2 (some FieldType.int) 1 := ⟨qw201, qw202, qw2, qw203, rfl, ⟨by decide +kernel, by decide +kernel⟩, by decide +kernel⟩
theorem yv_X4_forceForAll : YV yX4_forceForAll RX4 cX4_forceForAll 4 (some FieldType.int) 0 := ⟨qw205, qw206, qw1, qw207, rfl, ⟨by decide +kernel, by decide +kernel⟩, by decide +kernel⟩
theorem ys_J9_max_7cf53 : YS yJ9_max_7cf53 RJ9 cJ9_max_7cf53 2 (some FieldType.int) 2 := ⟨qw212, qw12, qw213, rfl, ⟨by decide +kernel, by decide +kernel⟩, by decide +kernel⟩
theorem yv_X4_efficiency : YV yX4_efficiency RX4 cX4_efficiency 3 (some FieldType.double) 0 := ⟨qw215, qw216, qw1, qw217, rfl, ⟨by decide +kernel, by decide +kernel⟩, by decide +kernel⟩
theorem yv_X4_clearText : YV yX4_clearText RX4 cX4_clearText 2 (some FieldType.int) 0 := ⟨qw219, qw220, qw1, qw221, rfl, ⟨by decide +kernel, by decide +kernel⟩, by decide +kernel⟩
theorem yv_X4_parse : YV yX4_parse RX4 cX4_parse 2 (some FieldType.int) 0 := ⟨qw223, qw224, qw1, qw225, rfl, ⟨by decide +kernel, by decide +kernel⟩, by decide +kernel⟩
theorem yv_X2_copyFrom : YV yX2_copyFrom RX2 cX2_copyFrom 2 none 1 := ⟨qw227, qw228, qw2, qw229, rfl, ⟨by decide +kernel, by decide +kernel⟩, by decide +kernel⟩
theorem yv_X1_copyFrom : YV yX1_copyFrom RX1 cX1_copyFrom 2 none 1 := ⟨qw231, qw232, qw3, qw233, rfl, ⟨by decide +kernel, by decide +kernel⟩, by decide +kernel⟩
theorem ys_X4_copyRow : YS yX4_copyRow RX4 cX4_copyRow 3 none 2 := ⟨qw235, qw1, qw236, rfl, ⟨by decide +kernel, by decide +kernel⟩, by decide +kernel⟩
theorem yv_X0_copyFrom : YV yX0_copyFrom RX0 cX0_copyFrom 2 none 1 := ⟨qw238, qw239, qw4, qw240, rfl, ⟨by decide +kernel, by decide +kernel⟩, by decide +kernel⟩
theorem yv_X3_readInto : YV yX3_readInto RX3 cX3_readInto 4 (some FieldType.int) 1 := ⟨qw244, qw245, qw5, qw246, rfl, ⟨by decide +kernel, by decide +kernel⟩, by decide +kernel⟩
theorem yv_X2_layAllDown : YV yX2_layAllDown RX2 cX2_layAllDown 2 none 0 := ⟨qw248, qw249, qw2, qw250, rfl, ⟨by decide +kernel, by decide +kernel⟩, by decide +kernel⟩
theorem yv_X1_unreeve : YV yX1_unreeve RX1 cX1_unreeve 1 none 0 := ⟨qw252, qw253, qw3, qw254, rfl, ⟨by decide +kernel, by decide +kernel⟩, by decide +kernel⟩
theorem yv_X3_nextIsFrom : YV yX3_nextIsFrom RX3 cX3_nextIsFrom 4 (some FieldType.boolean) 2 := ⟨qw257, qp0, qw5, qw258, rfl, ⟨by decide +kernel, by decide +kernel⟩, by decide +kernel⟩
theorem yv_X3_takeDigit : YV yX3_takeDigit RX3 cX3_takeDigit 2 (some FieldType.int) 0 := ⟨qw262, qp1, qw5, qw263, rfl, ⟨by decide +kernel, by decide +kernel⟩, by decide +kernel⟩
theorem yv_X1_hang : YV yX1_hang RX1 cX1_hang 2 none 1 := ⟨qw265, qw266, qw3, qw267, rfl, ⟨by decide +kernel, by decide +kernel⟩, by decide +kernel⟩
theorem ys_X4_put : YS yX4_put RX4 cX4_put 3 none 3 := ⟨qw269, qw1, qw270, rfl, ⟨by decide +kernel, by decide +kernel⟩, by decide +kernel⟩
theorem yv_X3_readWeight : YV yX3_readWeight RX3 cX3_readWeight 6 (some FieldType.int) 2 := ⟨qw273, qp2, qw5, qw274, rfl, ⟨by decide +kernel, by decide +kernel⟩, by decide +kernel⟩
theorem yv_X2_giveWeight : YV yX2_giveWeight RX2 cX2_giveWeight 3 none 2 := ⟨qw277, qw278, qw2, qw279, rfl, ⟨by decide +kernel, by decide +kernel⟩, by decide +kernel⟩
theorem yv_X2_inHand : YV yX2_inHand RX2 cX2_inHand 1 (some FieldType.int) 0 := ⟨qw282, qw283, qw2, qw284, rfl, ⟨by decide +kernel, by decide +kernel⟩, by decide +kernel⟩
theorem yv_X2_inStrands : YV yX2_inStrands RX2 cX2_inStrands 3 (some FieldType.int) 0 := ⟨qw286, qw287, qw2, qw288, rfl, ⟨by decide +kernel, by decide +kernel⟩, by decide +kernel⟩
theorem yv_X4_acceptTrial : YV yX4_acceptTrial RX4 cX4_acceptTrial 1 none 0 := ⟨qw292, qp3, qw1, qw293, rfl, ⟨by decide +kernel, by decide +kernel⟩, by decide +kernel⟩
theorem yv_X4_save : YV yX4_save RX4 cX4_save 2 none 0 := ⟨qw296, qp4, qw1, qw297, rfl, ⟨by decide +kernel, by decide +kernel⟩, by decide +kernel⟩
theorem yv_X4_savedAt : YV yX4_savedAt RX4 cX4_savedAt 2 (some (FieldType.object "RopeTackle$State")) 1 := ⟨qw300, qp5, qw1, qw301, rfl, ⟨by decide +kernel, by decide +kernel⟩, by decide +kernel⟩
theorem ys_J9_floorMod_7cf53 : YS yJ9_floorMod_7cf53 RJ9 cJ9_floorMod_7cf53 3 (some FieldType.int) 2 := ⟨qw303, qw12, qw304, rfl, ⟨by decide +kernel, by decide +kernel⟩, by decide +kernel⟩
theorem ys_J9_min_7cf53 : YS yJ9_min_7cf53 RJ9 cJ9_min_7cf53 2 (some FieldType.int) 2 := ⟨qw306, qw12, qw307, rfl, ⟨by decide +kernel, by decide +kernel⟩, by decide +kernel⟩
theorem yv_X4_digest : YV yX4_digest RX4 cX4_digest 5 (some FieldType.long) 0 := ⟨qw309, qw310, qw1, qw311, rfl, ⟨by decide +kernel, by decide +kernel⟩, by decide +kernel⟩
theorem yv_X4_value : YV yX4_value RX4 cX4_value 2 (some FieldType.int) 1 := ⟨qw315, qw316, qw1, qw317, rfl, ⟨by decide +kernel, by decide +kernel⟩, by decide +kernel⟩
theorem yv_X1_passes : YV yX1_passes RX1 cX1_passes 1 (some FieldType.int) 0 := ⟨qw319, qw320, qw3, qw321, rfl, ⟨by decide +kernel, by decide +kernel⟩, by decide +kernel⟩
theorem yv_X4_block : YV yX4_block RX4 cX4_block 3 (some FieldType.int) 2 := ⟨qw393, qw394, qw1, qw395, rfl, ⟨by decide +kernel, by decide +kernel⟩, by decide +kernel⟩
theorem ys_X4_checkBlock : YS yX4_checkBlock RX4 cX4_checkBlock 1 none 1 := ⟨qw397, qw1, qw398, rfl, ⟨by decide +kernel, by decide +kernel⟩, by decide +kernel⟩
theorem ys_X4_isBlock : YS yX4_isBlock RX4 cX4_isBlock 1 (some FieldType.boolean) 1 := ⟨qw400, qw1, qw401, rfl, ⟨by decide +kernel, by decide +kernel⟩, by decide +kernel⟩
theorem yv_X0_part : YV yX0_part RX0 cX0_part 3 (some FieldType.int) 2 := ⟨qw423, qw424, qw4, qw425, rfl, ⟨by decide +kernel, by decide +kernel⟩, by decide +kernel⟩
theorem yv_X4_setWeight : YV yX4_setWeight RX4 cX4_setWeight 4 (some FieldType.int) 2 := ⟨qw434, qw435, qw1, qw436, rfl, ⟨by decide +kernel, by decide +kernel⟩, by decide +kernel⟩
theorem ys_X4_checkRange : YS yX4_checkRange RX4 cX4_checkRange 3 none 3 := ⟨qw439, qw1, qw440, rfl, ⟨by decide +kernel, by decide +kernel⟩, by decide +kernel⟩
theorem yv_X4_setFriction : YV yX4_setFriction RX4 cX4_setFriction 3 (some FieldType.int) 1 := ⟨qw447, qw448, qw1, qw449, rfl, ⟨by decide +kernel, by decide +kernel⟩, by decide +kernel⟩
theorem yv_X4_setLength : YV yX4_setLength RX4 cX4_setLength 2 (some FieldType.int) 1 := ⟨qw455, qw456, qw1, qw457, rfl, ⟨by decide +kernel, by decide +kernel⟩, by decide +kernel⟩
theorem yv_X4_checkTrialRope : YV yX4_checkTrialRope RX4 cX4_checkTrialRope 1 none 0 := ⟨qw461, qp7, qw1, qw462, rfl, ⟨by decide +kernel, by decide +kernel⟩, by decide +kernel⟩
theorem yv_X4_addPulley : YV yX4_addPulley RX4 cX4_addPulley 2 (some FieldType.int) 1 := ⟨qw483, qw484, qw1, qw485, rfl, ⟨by decide +kernel, by decide +kernel⟩, by decide +kernel⟩
theorem yv_X4_takePulley : YV yX4_takePulley RX4 cX4_takePulley 1 (some FieldType.int) 0 := ⟨qw492, qw493, qw1, qw494, rfl, ⟨by decide +kernel, by decide +kernel⟩, by decide +kernel⟩
theorem yv_X1_unhang : YV yX1_unhang RX1 cX1_unhang 1 (some FieldType.int) 0 := ⟨qw497, qw498, qw3, qw499, rfl, ⟨by decide +kernel, by decide +kernel⟩, by decide +kernel⟩
theorem yv_X4_setEnd : YV yX4_setEnd RX4 cX4_setEnd 3 (some FieldType.int) 1 := ⟨qw505, qw506, qw1, qw507, rfl, ⟨by decide +kernel, by decide +kernel⟩, by decide +kernel⟩
theorem yv_X4_haul : YV yX4_haul RX4 cX4_haul 3 (some FieldType.int) 2 := ⟨qw513, qw514, qw1, qw515, rfl, ⟨by decide +kernel, by decide +kernel⟩, by decide +kernel⟩
theorem yv_X2_moveUp : YV yX2_moveUp RX2 cX2_moveUp 4 (some FieldType.int) 2 := ⟨qw518, qw519, qw2, qw520, rfl, ⟨by decide +kernel, by decide +kernel⟩, by decide +kernel⟩
theorem yv_X2_moveInTurn : YV yX2_moveInTurn RX2 cX2_moveInTurn 7 (some FieldType.int) 3 := ⟨qw524, qp8, qw2, qw525, rfl, ⟨by decide +kernel, by decide +kernel⟩, by decide +kernel⟩
theorem yv_X2_nextToSink : YV yX2_nextToSink RX2 cX2_nextToSink 6 (some FieldType.int) 1 := ⟨qw528, qw529, qw2, qw530, rfl, ⟨by decide +kernel, by decide +kernel⟩, by decide +kernel⟩
theorem yv_X2_moveOne : YV yX2_moveOne RX2 cX2_moveOne 8 (some FieldType.int) 3 := ⟨qw533, qp9, qw2, qw534, rfl, ⟨by decide +kernel, by decide +kernel⟩, by decide +kernel⟩
theorem yv_X0_note : YV yX0_note RX0 cX0_note 4 none 3 := ⟨qw538, qw539, qw4, qw540, rfl, ⟨by decide +kernel, by decide +kernel⟩, by decide +kernel⟩
theorem yv_X4_letOut : YV yX4_letOut RX4 cX4_letOut 3 (some FieldType.int) 2 := ⟨qw547, qw548, qw1, qw549, rfl, ⟨by decide +kernel, by decide +kernel⟩, by decide +kernel⟩
theorem yv_X2_moveDown : YV yX2_moveDown RX2 cX2_moveDown 3 (some FieldType.int) 2 := ⟨qw551, qw552, qw2, qw553, rfl, ⟨by decide +kernel, by decide +kernel⟩, by decide +kernel⟩
theorem yv_X4_pulley : YV yX4_pulley RX4 cX4_pulley 2 (some FieldType.int) 1 := ⟨qw563, qw564, qw1, qw565, rfl, ⟨by decide +kernel, by decide +kernel⟩, by decide +kernel⟩
theorem yv_X4_checkPulley : YV yX4_checkPulley RX4 cX4_checkPulley 2 none 1 := ⟨qw568, qp10, qw1, qw569, rfl, ⟨by decide +kernel, by decide +kernel⟩, by decide +kernel⟩
theorem yv_X4_force : YV yX4_force RX4 cX4_force 4 (some FieldType.long) 3 := ⟨qw575, qw576, qw1, qw577, rfl, ⟨by decide +kernel, by decide +kernel⟩, by decide +kernel⟩
theorem yv_X1_forceBehind : YV yX1_forceBehind RX1 cX1_forceBehind 7 (some FieldType.long) 3 := ⟨qw579, qw580, qw3, qw581, rfl, ⟨by decide +kernel, by decide +kernel⟩, by decide +kernel⟩
theorem yv_X4_pull : YV yX4_pull RX4 cX4_pull 4 (some FieldType.long) 3 := ⟨qw586, qw587, qw1, qw588, rfl, ⟨by decide +kernel, by decide +kernel⟩, by decide +kernel⟩
theorem yv_X4_entry : YV yX4_entry RX4 cX4_entry 3 (some FieldType.int) 2 := ⟨qw598, qw599, qw1, qw600, rfl, ⟨by decide +kernel, by decide +kernel⟩, by decide +kernel⟩
theorem yv_X4_pulleysFor : YV yX4_pulleysFor RX4 cX4_pulleysFor 4 (some FieldType.int) 2 := ⟨qw606, qw607, qw1, qw608, rfl, ⟨by decide +kernel, by decide +kernel⟩, by decide +kernel⟩
theorem yv_X4_bestEnd : YV yX4_bestEnd RX4 cX4_bestEnd 6 (some FieldType.int) 1 := ⟨qw614, qw615, qw1, qw616, rfl, ⟨by decide +kernel, by decide +kernel⟩, by decide +kernel⟩
theorem yv_X4_swapped : YV yX4_swapped RX4 cX4_swapped 4 (some FieldType.int) 3 := ⟨qw621, qw622, qw1, qw623, rfl, ⟨by decide +kernel, by decide +kernel⟩, by decide +kernel⟩
theorem yv_X1_swap : YV yX1_swap RX1 cX1_swap 4 none 2 := ⟨qw625, qw626, qw3, qw627, rfl, ⟨by decide +kernel, by decide +kernel⟩, by decide +kernel⟩
theorem yv_X4_riseBy : YV yX4_riseBy RX4 cX4_riseBy 4 (some FieldType.int) 3 := ⟨qw632, qw633, qw1, qw634, rfl, ⟨by decide +kernel, by decide +kernel⟩, by decide +kernel⟩
theorem yv_X4_append : YV yX4_append RX4 cX4_append 2 (some FieldType.int) 1 := ⟨qw639, qw640, qw1, qw641, rfl, ⟨by decide +kernel, by decide +kernel⟩, by decide +kernel⟩
theorem yv_X4_undo : YV yX4_undo RX4 cX4_undo 2 (some FieldType.int) 0 := ⟨qw648, qw649, qw1, qw650, rfl, ⟨by decide +kernel, by decide +kernel⟩, by decide +kernel⟩
theorem yi_X5_init : YI yX5_init RX5 cX5_init 2 0 := ⟨qw655, qw6, qw656, rfl, rfl, ⟨by decide +kernel, by decide +kernel⟩, by decide +kernel⟩
theorem yv_X5_thrown : YV yX5_thrown RX5 cX5_thrown 1 (some FieldType.int) 0 := ⟨qw707, qw708, qw6, qw709, rfl, ⟨by decide +kernel, by decide +kernel⟩, by decide +kernel⟩
theorem yv_X5_setWeight : YV yX5_setWeight RX5 cX5_setWeight 3 (some FieldType.int) 2 := ⟨qw711, qw712, qw6, qw713, rfl, ⟨by decide +kernel, by decide +kernel⟩, by decide +kernel⟩
theorem ys_X5_isBlock : YS yX5_isBlock RX5 cX5_isBlock 1 (some FieldType.boolean) 1 := ⟨qw715, qw6, qw716, rfl, ⟨by decide +kernel, by decide +kernel⟩, by decide +kernel⟩
theorem ys_X5_in : YS yX5_in RX5 cX5_in 6 (some FieldType.boolean) 3 := ⟨qw719, qw6, qw720, rfl, ⟨by decide +kernel, by decide +kernel⟩, by decide +kernel⟩
theorem yv_X5_fails : YV yX5_fails RX5 cX5_fails 2 (some FieldType.int) 1 := ⟨qw723, qp11, qw6, qw724, rfl, ⟨by decide +kernel, by decide +kernel⟩, by decide +kernel⟩
theorem yv_X5_puts : YV yX5_puts RX5 cX5_puts 4 (some FieldType.int) 2 := ⟨qw728, qp12, qw6, qw729, rfl, ⟨by decide +kernel, by decide +kernel⟩, by decide +kernel⟩
theorem yv_X5_saves : YV yX5_saves RX5 cX5_saves 2 none 0 := ⟨qw732, qp13, qw6, qw733, rfl, ⟨by decide +kernel, by decide +kernel⟩, by decide +kernel⟩
theorem yv_X5_tells : YV yX5_tells RX5 cX5_tells 2 (some FieldType.int) 1 := ⟨qw736, qp14, qw6, qw737, rfl, ⟨by decide +kernel, by decide +kernel⟩, by decide +kernel⟩
theorem yv_X5_setFriction : YV yX5_setFriction RX5 cX5_setFriction 2 (some FieldType.int) 1 := ⟨qw739, qw740, qw6, qw741, rfl, ⟨by decide +kernel, by decide +kernel⟩, by decide +kernel⟩
theorem yv_X5_setLength : YV yX5_setLength RX5 cX5_setLength 2 (some FieldType.int) 1 := ⟨qw744, qw745, qw6, qw746, rfl, ⟨by decide +kernel, by decide +kernel⟩, by decide +kernel⟩
theorem yv_X5_hanging : YV yX5_hanging RX5 cX5_hanging 3 (some FieldType.int) 0 := ⟨qw750, qp15, qw6, qw751, rfl, ⟨by decide +kernel, by decide +kernel⟩, by decide +kernel⟩
theorem yv_X5_strands : YV yX5_strands RX5 cX5_strands 2 (some FieldType.int) 1 := ⟨qw754, qp16, qw6, qw755, rfl, ⟨by decide +kernel, by decide +kernel⟩, by decide +kernel⟩
theorem yv_X5_pulleysOn : YV yX5_pulleysOn RX5 cX5_pulleysOn 4 (some FieldType.int) 1 := ⟨qw758, qp17, qw6, qw759, rfl, ⟨by decide +kernel, by decide +kernel⟩, by decide +kernel⟩
theorem yv_X5_inHand : YV yX5_inHand RX5 cX5_inHand 1 (some FieldType.int) 0 := ⟨qw762, qp18, qw6, qw763, rfl, ⟨by decide +kernel, by decide +kernel⟩, by decide +kernel⟩
theorem yv_X5_addPulley : YV yX5_addPulley RX5 cX5_addPulley 2 (some FieldType.int) 1 := ⟨qw765, qw766, qw6, qw767, rfl, ⟨by decide +kernel, by decide +kernel⟩, by decide +kernel⟩
theorem yv_X5_takePulley : YV yX5_takePulley RX5 cX5_takePulley 1 (some FieldType.int) 0 := ⟨qw771, qw772, qw6, qw773, rfl, ⟨by decide +kernel, by decide +kernel⟩, by decide +kernel⟩
theorem yv_X5_setEnd : YV yX5_setEnd RX5 cX5_setEnd 2 (some FieldType.int) 1 := ⟨qw775, qw776, qw6, qw777, rfl, ⟨by decide +kernel, by decide +kernel⟩, by decide +kernel⟩
theorem yv_X5_endStrand : YV yX5_endStrand RX5 cX5_endStrand 2 (some FieldType.int) 1 := ⟨qw780, qp19, qw6, qw781, rfl, ⟨by decide +kernel, by decide +kernel⟩, by decide +kernel⟩
theorem yv_X5_haul : YV yX5_haul RX5 cX5_haul 3 (some FieldType.int) 2 := ⟨qw783, qw784, qw6, qw785, rfl, ⟨by decide +kernel, by decide +kernel⟩, by decide +kernel⟩
theorem ys_X5_isForce : YS yX5_isForce RX5 cX5_isForce 1 (some FieldType.boolean) 1 := ⟨qw787, qw6, qw788, rfl, ⟨by decide +kernel, by decide +kernel⟩, by decide +kernel⟩
theorem yv_X5_hauls : YV yX5_hauls RX5 cX5_hauls 6 (some FieldType.int) 2 := ⟨qw793, qp20, qw6, qw794, rfl, ⟨by decide +kernel, by decide +kernel⟩, by decide +kernel⟩
theorem yv_X5_riser : YV yX5_riser RX5 cX5_riser 7 (some FieldType.int) 1 := ⟨qw797, qp21, qw6, qw798, rfl, ⟨by decide +kernel, by decide +kernel⟩, by decide +kernel⟩
theorem yv_X5_least : YV yX5_least RX5 cX5_least 6 (some FieldType.int) 2 := ⟨qw802, qp22, qw6, qw803, rfl, ⟨by decide +kernel, by decide +kernel⟩, by decide +kernel⟩
theorem yv_X5_pullOn : YV yX5_pullOn RX5 cX5_pullOn 11 (some FieldType.long) 3 := ⟨qw807, qp23, qw6, qw808, rfl, ⟨by decide +kernel, by decide +kernel⟩, by decide +kernel⟩
theorem yv_X5_behind : YV yX5_behind RX5 cX5_behind 6 (some FieldType.long) 2 := ⟨qw811, qp24, qw6, qw812, rfl, ⟨by decide +kernel, by decide +kernel⟩, by decide +kernel⟩
theorem ys_X5_lesser : YS yX5_lesser RX5 cX5_lesser 4 (some FieldType.int) 2 := ⟨qw816, qw6, qw817, rfl, ⟨by decide +kernel, by decide +kernel⟩, by decide +kernel⟩
theorem yv_X5_enters : YV yX5_enters RX5 cX5_enters 5 none 3 := ⟨qw820, qp25, qw6, qw821, rfl, ⟨by decide +kernel, by decide +kernel⟩, by decide +kernel⟩
theorem yv_X5_letOut : YV yX5_letOut RX5 cX5_letOut 7 (some FieldType.int) 2 := ⟨qw824, qw825, qw6, qw826, rfl, ⟨by decide +kernel, by decide +kernel⟩, by decide +kernel⟩
theorem yv_X5_sinker : YV yX5_sinker RX5 cX5_sinker 6 (some FieldType.int) 1 := ⟨qw829, qp26, qw6, qw830, rfl, ⟨by decide +kernel, by decide +kernel⟩, by decide +kernel⟩
theorem yv_X5_block : YV yX5_block RX5 cX5_block 3 (some FieldType.int) 2 := ⟨qw832, qw833, qw6, qw834, rfl, ⟨by decide +kernel, by decide +kernel⟩, by decide +kernel⟩
theorem yv_X5_blockTold : YV yX5_blockTold RX5 cX5_blockTold 3 (some FieldType.int) 2 := ⟨qw838, qp27, qw6, qw839, rfl, ⟨by decide +kernel, by decide +kernel⟩, by decide +kernel⟩
theorem yv_X5_pulley : YV yX5_pulley RX5 cX5_pulley 2 (some FieldType.int) 1 := ⟨qw841, qw842, qw6, qw843, rfl, ⟨by decide +kernel, by decide +kernel⟩, by decide +kernel⟩
theorem yv_X5_force : YV yX5_force RX5 cX5_force 5 (some FieldType.long) 3 := ⟨qw845, qw846, qw6, qw847, rfl, ⟨by decide +kernel, by decide +kernel⟩, by decide +kernel⟩
theorem yv_X5_passes : YV yX5_passes RX5 cX5_passes 1 (some FieldType.int) 0 := ⟨qw850, qp28, qw6, qw851, rfl, ⟨by decide +kernel, by decide +kernel⟩, by decide +kernel⟩
theorem yv_X5_forceAt : YV yX5_forceAt RX5 cX5_forceAt 7 (some FieldType.long) 3 := ⟨qw854, qp29, qw6, qw855, rfl, ⟨by decide +kernel, by decide +kernel⟩, by decide +kernel⟩
theorem yv_X5_pull : YV yX5_pull RX5 cX5_pull 4 (some FieldType.long) 3 := ⟨qw857, qw858, qw6, qw859, rfl, ⟨by decide +kernel, by decide +kernel⟩, by decide +kernel⟩
theorem yv_X5_value : YV yX5_value RX5 cX5_value 2 (some FieldType.int) 1 := ⟨qw861, qw862, qw6, qw863, rfl, ⟨by decide +kernel, by decide +kernel⟩, by decide +kernel⟩
theorem yv_X5_valueTold : YV yX5_valueTold RX5 cX5_valueTold 2 (some FieldType.int) 1 := ⟨qw867, qp30, qw6, qw868, rfl, ⟨by decide +kernel, by decide +kernel⟩, by decide +kernel⟩
theorem yv_X5_work : YV yX5_work RX5 cX5_work 2 (some FieldType.long) 1 := ⟨qw870, qw871, qw6, qw872, rfl, ⟨by decide +kernel, by decide +kernel⟩, by decide +kernel⟩
theorem yv_X5_entry : YV yX5_entry RX5 cX5_entry 3 (some FieldType.int) 2 := ⟨qw874, qw875, qw6, qw876, rfl, ⟨by decide +kernel, by decide +kernel⟩, by decide +kernel⟩
theorem yv_X5_first : YV yX5_first RX5 cX5_first 1 (some FieldType.int) 0 := ⟨qw878, qw879, qw6, qw880, rfl, ⟨by decide +kernel, by decide +kernel⟩, by decide +kernel⟩
theorem yv_X5_forceForAll : YV yX5_forceForAll RX5 cX5_forceForAll 4 (some FieldType.int) 0 := ⟨qw882, qw883, qw6, qw884, rfl, ⟨by decide +kernel, by decide +kernel⟩, by decide +kernel⟩
theorem yv_X5_pulleysFor : YV yX5_pulleysFor RX5 cX5_pulleysFor 10 (some FieldType.int) 2 := ⟨qw886, qw887, qw6, qw888, rfl, ⟨by decide +kernel, by decide +kernel⟩, by decide +kernel⟩
theorem yv_X5_bestEnd : YV yX5_bestEnd RX5 cX5_bestEnd 9 (some FieldType.int) 1 := ⟨qw890, qw891, qw6, qw892, rfl, ⟨by decide +kernel, by decide +kernel⟩, by decide +kernel⟩
theorem yv_X5_swapped : YV yX5_swapped RX5 cX5_swapped 5 (some FieldType.int) 3 := ⟨qw894, qw895, qw6, qw896, rfl, ⟨by decide +kernel, by decide +kernel⟩, by decide +kernel⟩
theorem yv_X5_changes : YV yX5_changes RX5 cX5_changes 5 none 2 := ⟨qw899, qp31, qw6, qw900, rfl, ⟨by decide +kernel, by decide +kernel⟩, by decide +kernel⟩
theorem yv_X5_riseBy : YV yX5_riseBy RX5 cX5_riseBy 6 (some FieldType.int) 3 := ⟨qw902, qw903, qw6, qw904, rfl, ⟨by decide +kernel, by decide +kernel⟩, by decide +kernel⟩
theorem yv_X5_laysAside : YV yX5_laysAside RX5 cX5_laysAside 2 none 0 := ⟨qw907, qp32, qw6, qw908, rfl, ⟨by decide +kernel, by decide +kernel⟩, by decide +kernel⟩
theorem yv_X5_bringsBack : YV yX5_bringsBack RX5 cX5_bringsBack 2 none 0 := ⟨qw911, qp33, qw6, qw912, rfl, ⟨by decide +kernel, by decide +kernel⟩, by decide +kernel⟩
theorem yv_X5_efficiency : YV yX5_efficiency RX5 cX5_efficiency 1 (some FieldType.double) 0 := ⟨qw914, qw915, qw6, qw916, rfl, ⟨by decide +kernel, by decide +kernel⟩, by decide +kernel⟩
theorem yv_X5_append : YV yX5_append RX5 cX5_append 2 (some FieldType.int) 1 := ⟨qw918, qw919, qw6, qw920, rfl, ⟨by decide +kernel, by decide +kernel⟩, by decide +kernel⟩
theorem yv_X5_clearText : YV yX5_clearText RX5 cX5_clearText 2 (some FieldType.int) 0 := ⟨qw923, qw924, qw6, qw925, rfl, ⟨by decide +kernel, by decide +kernel⟩, by decide +kernel⟩
theorem yv_X5_parse : YV yX5_parse RX5 cX5_parse 3 (some FieldType.int) 0 := ⟨qw927, qw928, qw6, qw929, rfl, ⟨by decide +kernel, by decide +kernel⟩, by decide +kernel⟩
theorem yv_X5_reads : YV yX5_reads RX5 cX5_reads 2 (some FieldType.boolean) 0 := ⟨qw932, qp34, qw6, qw933, rfl, ⟨by decide +kernel, by decide +kernel⟩, by decide +kernel⟩
theorem yv_X5_isAt : YV yX5_isAt RX5 cX5_isAt 3 (some FieldType.boolean) 2 := ⟨qw936, qp35, qw6, qw937, rfl, ⟨by decide +kernel, by decide +kernel⟩, by decide +kernel⟩
theorem yv_X5_readsWeight : YV yX5_readsWeight RX5 cX5_readsWeight 3 (some FieldType.boolean) 0 := ⟨qw940, qp36, qw6, qw941, rfl, ⟨by decide +kernel, by decide +kernel⟩, by decide +kernel⟩
theorem yv_X5_undo : YV yX5_undo RX5 cX5_undo 2 (some FieldType.int) 0 := ⟨qw944, qw945, qw6, qw946, rfl, ⟨by decide +kernel, by decide +kernel⟩, by decide +kernel⟩
theorem yv_X5_digest : YV yX5_digest RX5 cX5_digest 2 (some FieldType.long) 0 := ⟨qw948, qw949, qw6, qw950, rfl, ⟨by decide +kernel, by decide +kernel⟩, by decide +kernel⟩
theorem yv_X5_mix : YV yX5_mix RX5 cX5_mix 3 none 1 := ⟨qw954, qp37, qw6, qw955, rfl, ⟨by decide +kernel, by decide +kernel⟩, by decide +kernel⟩
