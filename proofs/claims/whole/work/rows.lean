section
-- ===== PART A: goes FIRST, ahead of the names: the tables' words, and 'selects' of the private methods out of them =====
/-- a private method of a class that the tables say can be made, by its rows of tables_1 -/
def lw_okq (q : MethodName × Nat) : Prop := (q.1.cls ≠ "java/lang/invoke/MethodHandle" ∧ q.1.cls ≠ "java/lang/invoke/VarHandle") ∧ Cond.instantiable q.1.cls q.2 ∈ tables_1 ∧ Cond.privateMethod q.1 ∈ tables_1 ∧ Cond.instanceMethod q.1 ∈ tables_1
theorem lw_p0 : lw_okq (⟨"RopeTackle$Text", "nextIsFrom", "(II)Z"⟩, 3) := ⟨⟨by decide +kernel, by decide +kernel⟩, List.mem_of_getElem? (i := 114) (by decide +kernel), List.mem_of_getElem? (i := 256) (by decide +kernel), List.mem_of_getElem? (i := 257) (by decide +kernel)⟩
theorem lw_p1 : lw_okq (⟨"RopeTackle$Text", "takeDigit", "()I"⟩, 3) := ⟨⟨by decide +kernel, by decide +kernel⟩, List.mem_of_getElem? (i := 114) (by decide +kernel), List.mem_of_getElem? (i := 261) (by decide +kernel), List.mem_of_getElem? (i := 262) (by decide +kernel)⟩
theorem lw_p2 : lw_okq (⟨"RopeTackle$Text", "readWeight", "(LRopeTackle$State;I)I"⟩, 3) := ⟨⟨by decide +kernel, by decide +kernel⟩, List.mem_of_getElem? (i := 114) (by decide +kernel), List.mem_of_getElem? (i := 272) (by decide +kernel), List.mem_of_getElem? (i := 273) (by decide +kernel)⟩
theorem lw_p3 : lw_okq (⟨"RopeTackle", "acceptTrial", "()V"⟩, 6) := ⟨⟨by decide +kernel, by decide +kernel⟩, List.mem_of_getElem? (i := 15) (by decide +kernel), List.mem_of_getElem? (i := 291) (by decide +kernel), List.mem_of_getElem? (i := 292) (by decide +kernel)⟩
theorem lw_p4 : lw_okq (⟨"RopeTackle", "save", "()V"⟩, 6) := ⟨⟨by decide +kernel, by decide +kernel⟩, List.mem_of_getElem? (i := 15) (by decide +kernel), List.mem_of_getElem? (i := 295) (by decide +kernel), List.mem_of_getElem? (i := 296) (by decide +kernel)⟩
theorem lw_p5 : lw_okq (⟨"RopeTackle", "savedAt", "(I)LRopeTackle$State;"⟩, 6) := ⟨⟨by decide +kernel, by decide +kernel⟩, List.mem_of_getElem? (i := 15) (by decide +kernel), List.mem_of_getElem? (i := 299) (by decide +kernel), List.mem_of_getElem? (i := 300) (by decide +kernel)⟩
theorem lw_p6 : lw_okq (⟨"java/lang/Throwable", "fillInStackTrace", "(I)Ljava/lang/Throwable;"⟩, 6) := ⟨⟨by decide +kernel, by decide +kernel⟩, List.mem_of_getElem? (i := 362) (by decide +kernel), List.mem_of_getElem? (i := 360) (by decide +kernel), List.mem_of_getElem? (i := 361) (by decide +kernel)⟩
theorem lw_p7 : lw_okq (⟨"RopeTackle", "checkTrialRope", "()V"⟩, 6) := ⟨⟨by decide +kernel, by decide +kernel⟩, List.mem_of_getElem? (i := 15) (by decide +kernel), List.mem_of_getElem? (i := 460) (by decide +kernel), List.mem_of_getElem? (i := 461) (by decide +kernel)⟩
theorem lw_p8 : lw_okq (⟨"RopeTackle$State", "moveInTurn", "(IIZ)I"⟩, 6) := ⟨⟨by decide +kernel, by decide +kernel⟩, List.mem_of_getElem? (i := 23) (by decide +kernel), List.mem_of_getElem? (i := 523) (by decide +kernel), List.mem_of_getElem? (i := 524) (by decide +kernel)⟩
theorem lw_p9 : lw_okq (⟨"RopeTackle$State", "moveOne", "(IIZ)I"⟩, 6) := ⟨⟨by decide +kernel, by decide +kernel⟩, List.mem_of_getElem? (i := 23) (by decide +kernel), List.mem_of_getElem? (i := 532) (by decide +kernel), List.mem_of_getElem? (i := 533) (by decide +kernel)⟩
theorem lw_p10 : lw_okq (⟨"RopeTackle", "checkPulley", "(I)V"⟩, 6) := ⟨⟨by decide +kernel, by decide +kernel⟩, List.mem_of_getElem? (i := 15) (by decide +kernel), List.mem_of_getElem? (i := 567) (by decide +kernel), List.mem_of_getElem? (i := 568) (by decide +kernel)⟩
theorem lw_p11 : lw_okq (⟨"RopeTackleModel", "fails", "(I)I"⟩, 14) := ⟨⟨by decide +kernel, by decide +kernel⟩, List.mem_of_getElem? (i := 653) (by decide +kernel), List.mem_of_getElem? (i := 722) (by decide +kernel), List.mem_of_getElem? (i := 723) (by decide +kernel)⟩
theorem lw_p12 : lw_okq (⟨"RopeTackleModel", "puts", "(II)I"⟩, 14) := ⟨⟨by decide +kernel, by decide +kernel⟩, List.mem_of_getElem? (i := 653) (by decide +kernel), List.mem_of_getElem? (i := 727) (by decide +kernel), List.mem_of_getElem? (i := 728) (by decide +kernel)⟩
theorem lw_p13 : lw_okq (⟨"RopeTackleModel", "saves", "()V"⟩, 14) := ⟨⟨by decide +kernel, by decide +kernel⟩, List.mem_of_getElem? (i := 653) (by decide +kernel), List.mem_of_getElem? (i := 731) (by decide +kernel), List.mem_of_getElem? (i := 732) (by decide +kernel)⟩
theorem lw_p14 : lw_okq (⟨"RopeTackleModel", "tells", "(I)I"⟩, 14) := ⟨⟨by decide +kernel, by decide +kernel⟩, List.mem_of_getElem? (i := 653) (by decide +kernel), List.mem_of_getElem? (i := 735) (by decide +kernel), List.mem_of_getElem? (i := 736) (by decide +kernel)⟩
theorem lw_p15 : lw_okq (⟨"RopeTackleModel", "hanging", "()I"⟩, 14) := ⟨⟨by decide +kernel, by decide +kernel⟩, List.mem_of_getElem? (i := 653) (by decide +kernel), List.mem_of_getElem? (i := 749) (by decide +kernel), List.mem_of_getElem? (i := 750) (by decide +kernel)⟩
def lw_privs_1 : List (MethodName × Nat) := [(⟨"RopeTackle$Text", "nextIsFrom", "(II)Z"⟩, 3), (⟨"RopeTackle$Text", "takeDigit", "()I"⟩, 3), (⟨"RopeTackle$Text", "readWeight", "(LRopeTackle$State;I)I"⟩, 3), (⟨"RopeTackle", "acceptTrial", "()V"⟩, 6), (⟨"RopeTackle", "save", "()V"⟩, 6), (⟨"RopeTackle", "savedAt", "(I)LRopeTackle$State;"⟩, 6), (⟨"java/lang/Throwable", "fillInStackTrace", "(I)Ljava/lang/Throwable;"⟩, 6), (⟨"RopeTackle", "checkTrialRope", "()V"⟩, 6), (⟨"RopeTackle$State", "moveInTurn", "(IIZ)I"⟩, 6), (⟨"RopeTackle$State", "moveOne", "(IIZ)I"⟩, 6), (⟨"RopeTackle", "checkPulley", "(I)V"⟩, 6), (⟨"RopeTackleModel", "fails", "(I)I"⟩, 14), (⟨"RopeTackleModel", "puts", "(II)I"⟩, 14), (⟨"RopeTackleModel", "saves", "()V"⟩, 14), (⟨"RopeTackleModel", "tells", "(I)I"⟩, 14), (⟨"RopeTackleModel", "hanging", "()I"⟩, 14)]
theorem lw_r1 : ∀ q ∈ lw_privs_1, lw_okq q := List.forall_mem_cons.mpr ⟨lw_p0, List.forall_mem_cons.mpr ⟨lw_p1, List.forall_mem_cons.mpr ⟨lw_p2, List.forall_mem_cons.mpr ⟨lw_p3, List.forall_mem_cons.mpr ⟨lw_p4, List.forall_mem_cons.mpr ⟨lw_p5, List.forall_mem_cons.mpr ⟨lw_p6, List.forall_mem_cons.mpr ⟨lw_p7, List.forall_mem_cons.mpr ⟨lw_p8, List.forall_mem_cons.mpr ⟨lw_p9, List.forall_mem_cons.mpr ⟨lw_p10, List.forall_mem_cons.mpr ⟨lw_p11, List.forall_mem_cons.mpr ⟨lw_p12, List.forall_mem_cons.mpr ⟨lw_p13, List.forall_mem_cons.mpr ⟨lw_p14, List.forall_mem_cons.mpr ⟨lw_p15, fun _ h => absurd h List.not_mem_nil⟩⟩⟩⟩⟩⟩⟩⟩⟩⟩⟩⟩⟩⟩⟩⟩
theorem lw_p16 : lw_okq (⟨"RopeTackleModel", "strands", "(I)I"⟩, 14) := ⟨⟨by decide +kernel, by decide +kernel⟩, List.mem_of_getElem? (i := 653) (by decide +kernel), List.mem_of_getElem? (i := 753) (by decide +kernel), List.mem_of_getElem? (i := 754) (by decide +kernel)⟩
theorem lw_p17 : lw_okq (⟨"RopeTackleModel", "pulleysOn", "(I)I"⟩, 14) := ⟨⟨by decide +kernel, by decide +kernel⟩, List.mem_of_getElem? (i := 653) (by decide +kernel), List.mem_of_getElem? (i := 757) (by decide +kernel), List.mem_of_getElem? (i := 758) (by decide +kernel)⟩
theorem lw_p18 : lw_okq (⟨"RopeTackleModel", "inHand", "()I"⟩, 14) := ⟨⟨by decide +kernel, by decide +kernel⟩, List.mem_of_getElem? (i := 653) (by decide +kernel), List.mem_of_getElem? (i := 761) (by decide +kernel), List.mem_of_getElem? (i := 762) (by decide +kernel)⟩
theorem lw_p19 : lw_okq (⟨"RopeTackleModel", "endStrand", "(I)I"⟩, 14) := ⟨⟨by decide +kernel, by decide +kernel⟩, List.mem_of_getElem? (i := 653) (by decide +kernel), List.mem_of_getElem? (i := 779) (by decide +kernel), List.mem_of_getElem? (i := 780) (by decide +kernel)⟩
theorem lw_p20 : lw_okq (⟨"RopeTackleModel", "hauls", "(II)I"⟩, 14) := ⟨⟨by decide +kernel, by decide +kernel⟩, List.mem_of_getElem? (i := 653) (by decide +kernel), List.mem_of_getElem? (i := 792) (by decide +kernel), List.mem_of_getElem? (i := 793) (by decide +kernel)⟩
theorem lw_p21 : lw_okq (⟨"RopeTackleModel", "riser", "(I)I"⟩, 14) := ⟨⟨by decide +kernel, by decide +kernel⟩, List.mem_of_getElem? (i := 653) (by decide +kernel), List.mem_of_getElem? (i := 796) (by decide +kernel), List.mem_of_getElem? (i := 797) (by decide +kernel)⟩
theorem lw_p22 : lw_okq (⟨"RopeTackleModel", "least", "(IZ)I"⟩, 14) := ⟨⟨by decide +kernel, by decide +kernel⟩, List.mem_of_getElem? (i := 653) (by decide +kernel), List.mem_of_getElem? (i := 801) (by decide +kernel), List.mem_of_getElem? (i := 802) (by decide +kernel)⟩
theorem lw_p23 : lw_okq (⟨"RopeTackleModel", "pullOn", "(IIZ)J"⟩, 14) := ⟨⟨by decide +kernel, by decide +kernel⟩, List.mem_of_getElem? (i := 653) (by decide +kernel), List.mem_of_getElem? (i := 806) (by decide +kernel), List.mem_of_getElem? (i := 807) (by decide +kernel)⟩
theorem lw_p24 : lw_okq (⟨"RopeTackleModel", "behind", "(JZ)J"⟩, 14) := ⟨⟨by decide +kernel, by decide +kernel⟩, List.mem_of_getElem? (i := 653) (by decide +kernel), List.mem_of_getElem? (i := 810) (by decide +kernel), List.mem_of_getElem? (i := 811) (by decide +kernel)⟩
theorem lw_p25 : lw_okq (⟨"RopeTackleModel", "enters", "(III)V"⟩, 14) := ⟨⟨by decide +kernel, by decide +kernel⟩, List.mem_of_getElem? (i := 653) (by decide +kernel), List.mem_of_getElem? (i := 819) (by decide +kernel), List.mem_of_getElem? (i := 820) (by decide +kernel)⟩
theorem lw_p26 : lw_okq (⟨"RopeTackleModel", "sinker", "(I)I"⟩, 14) := ⟨⟨by decide +kernel, by decide +kernel⟩, List.mem_of_getElem? (i := 653) (by decide +kernel), List.mem_of_getElem? (i := 828) (by decide +kernel), List.mem_of_getElem? (i := 829) (by decide +kernel)⟩
theorem lw_p27 : lw_okq (⟨"RopeTackleModel", "blockTold", "(II)I"⟩, 14) := ⟨⟨by decide +kernel, by decide +kernel⟩, List.mem_of_getElem? (i := 653) (by decide +kernel), List.mem_of_getElem? (i := 837) (by decide +kernel), List.mem_of_getElem? (i := 838) (by decide +kernel)⟩
theorem lw_p28 : lw_okq (⟨"RopeTackleModel", "passes", "()I"⟩, 14) := ⟨⟨by decide +kernel, by decide +kernel⟩, List.mem_of_getElem? (i := 653) (by decide +kernel), List.mem_of_getElem? (i := 849) (by decide +kernel), List.mem_of_getElem? (i := 850) (by decide +kernel)⟩
theorem lw_p29 : lw_okq (⟨"RopeTackleModel", "forceAt", "(IIZ)J"⟩, 14) := ⟨⟨by decide +kernel, by decide +kernel⟩, List.mem_of_getElem? (i := 653) (by decide +kernel), List.mem_of_getElem? (i := 853) (by decide +kernel), List.mem_of_getElem? (i := 854) (by decide +kernel)⟩
theorem lw_p30 : lw_okq (⟨"RopeTackleModel", "valueTold", "(I)I"⟩, 14) := ⟨⟨by decide +kernel, by decide +kernel⟩, List.mem_of_getElem? (i := 653) (by decide +kernel), List.mem_of_getElem? (i := 866) (by decide +kernel), List.mem_of_getElem? (i := 867) (by decide +kernel)⟩
theorem lw_p31 : lw_okq (⟨"RopeTackleModel", "changes", "(II)V"⟩, 14) := ⟨⟨by decide +kernel, by decide +kernel⟩, List.mem_of_getElem? (i := 653) (by decide +kernel), List.mem_of_getElem? (i := 898) (by decide +kernel), List.mem_of_getElem? (i := 899) (by decide +kernel)⟩
def lw_privs_2 : List (MethodName × Nat) := [(⟨"RopeTackleModel", "strands", "(I)I"⟩, 14), (⟨"RopeTackleModel", "pulleysOn", "(I)I"⟩, 14), (⟨"RopeTackleModel", "inHand", "()I"⟩, 14), (⟨"RopeTackleModel", "endStrand", "(I)I"⟩, 14), (⟨"RopeTackleModel", "hauls", "(II)I"⟩, 14), (⟨"RopeTackleModel", "riser", "(I)I"⟩, 14), (⟨"RopeTackleModel", "least", "(IZ)I"⟩, 14), (⟨"RopeTackleModel", "pullOn", "(IIZ)J"⟩, 14), (⟨"RopeTackleModel", "behind", "(JZ)J"⟩, 14), (⟨"RopeTackleModel", "enters", "(III)V"⟩, 14), (⟨"RopeTackleModel", "sinker", "(I)I"⟩, 14), (⟨"RopeTackleModel", "blockTold", "(II)I"⟩, 14), (⟨"RopeTackleModel", "passes", "()I"⟩, 14), (⟨"RopeTackleModel", "forceAt", "(IIZ)J"⟩, 14), (⟨"RopeTackleModel", "valueTold", "(I)I"⟩, 14), (⟨"RopeTackleModel", "changes", "(II)V"⟩, 14)]
theorem lw_r2 : ∀ q ∈ lw_privs_2, lw_okq q := List.forall_mem_cons.mpr ⟨lw_p16, List.forall_mem_cons.mpr ⟨lw_p17, List.forall_mem_cons.mpr ⟨lw_p18, List.forall_mem_cons.mpr ⟨lw_p19, List.forall_mem_cons.mpr ⟨lw_p20, List.forall_mem_cons.mpr ⟨lw_p21, List.forall_mem_cons.mpr ⟨lw_p22, List.forall_mem_cons.mpr ⟨lw_p23, List.forall_mem_cons.mpr ⟨lw_p24, List.forall_mem_cons.mpr ⟨lw_p25, List.forall_mem_cons.mpr ⟨lw_p26, List.forall_mem_cons.mpr ⟨lw_p27, List.forall_mem_cons.mpr ⟨lw_p28, List.forall_mem_cons.mpr ⟨lw_p29, List.forall_mem_cons.mpr ⟨lw_p30, List.forall_mem_cons.mpr ⟨lw_p31, fun _ h => absurd h List.not_mem_nil⟩⟩⟩⟩⟩⟩⟩⟩⟩⟩⟩⟩⟩⟩⟩⟩
theorem lw_p32 : lw_okq (⟨"RopeTackleModel", "laysAside", "()V"⟩, 14) := ⟨⟨by decide +kernel, by decide +kernel⟩, List.mem_of_getElem? (i := 653) (by decide +kernel), List.mem_of_getElem? (i := 906) (by decide +kernel), List.mem_of_getElem? (i := 907) (by decide +kernel)⟩
theorem lw_p33 : lw_okq (⟨"RopeTackleModel", "bringsBack", "()V"⟩, 14) := ⟨⟨by decide +kernel, by decide +kernel⟩, List.mem_of_getElem? (i := 653) (by decide +kernel), List.mem_of_getElem? (i := 910) (by decide +kernel), List.mem_of_getElem? (i := 911) (by decide +kernel)⟩
theorem lw_p34 : lw_okq (⟨"RopeTackleModel", "reads", "()Z"⟩, 14) := ⟨⟨by decide +kernel, by decide +kernel⟩, List.mem_of_getElem? (i := 653) (by decide +kernel), List.mem_of_getElem? (i := 931) (by decide +kernel), List.mem_of_getElem? (i := 932) (by decide +kernel)⟩
theorem lw_p35 : lw_okq (⟨"RopeTackleModel", "isAt", "(II)Z"⟩, 14) := ⟨⟨by decide +kernel, by decide +kernel⟩, List.mem_of_getElem? (i := 653) (by decide +kernel), List.mem_of_getElem? (i := 935) (by decide +kernel), List.mem_of_getElem? (i := 936) (by decide +kernel)⟩
theorem lw_p36 : lw_okq (⟨"RopeTackleModel", "readsWeight", "()Z"⟩, 14) := ⟨⟨by decide +kernel, by decide +kernel⟩, List.mem_of_getElem? (i := 653) (by decide +kernel), List.mem_of_getElem? (i := 939) (by decide +kernel), List.mem_of_getElem? (i := 940) (by decide +kernel)⟩
theorem lw_p37 : lw_okq (⟨"RopeTackleModel", "mix", "(J)V"⟩, 14) := ⟨⟨by decide +kernel, by decide +kernel⟩, List.mem_of_getElem? (i := 653) (by decide +kernel), List.mem_of_getElem? (i := 953) (by decide +kernel), List.mem_of_getElem? (i := 954) (by decide +kernel)⟩
def lw_privs_3 : List (MethodName × Nat) := [(⟨"RopeTackleModel", "laysAside", "()V"⟩, 14), (⟨"RopeTackleModel", "bringsBack", "()V"⟩, 14), (⟨"RopeTackleModel", "reads", "()Z"⟩, 14), (⟨"RopeTackleModel", "isAt", "(II)Z"⟩, 14), (⟨"RopeTackleModel", "readsWeight", "()Z"⟩, 14), (⟨"RopeTackleModel", "mix", "(J)V"⟩, 14)]
theorem lw_r3 : ∀ q ∈ lw_privs_3, lw_okq q := List.forall_mem_cons.mpr ⟨lw_p32, List.forall_mem_cons.mpr ⟨lw_p33, List.forall_mem_cons.mpr ⟨lw_p34, List.forall_mem_cons.mpr ⟨lw_p35, List.forall_mem_cons.mpr ⟨lw_p36, List.forall_mem_cons.mpr ⟨lw_p37, fun _ h => absurd h List.not_mem_nil⟩⟩⟩⟩⟩⟩
def lw_privs : List (MethodName × Nat) := lw_privs_1 ++ (lw_privs_2 ++ (lw_privs_3))
def lw_tbl : List Cond := k2_sels lw_privs ++ tables_1
theorem lw_privs_ok : ∀ q ∈ lw_privs, lw_okq q := by
  show ∀ q ∈ lw_privs_1 ++ (lw_privs_2 ++ (lw_privs_3)), lw_okq q
  exact List.forall_mem_append.mpr ⟨lw_r1, List.forall_mem_append.mpr ⟨lw_r2, lw_r3⟩⟩
/-- the streams that the claim lets the run draw from -/
abbrev lw_cs : List Choice := [Jvm.Choice.named "NaN.bits"]
theorem lw_bits : nanBits ∈ lw_cs := by first | decide | exact List.mem_cons_self | simp [lw_cs, nanBits]
end
section
/-! ===== BEGIN exceptions that leave a method, and their catching by the caller (launches without stack traces) ===== -/
section VXA
/-! The laws vx_back, vx_callV, vx_callS, vx_callSW, vx_throw0, vx_throwS follow proofs of the library, with one case more: JvmDerived/Free/Laws.lean (Back.of_free), Shelf42/LK1.lean (callV, callS), Shelf/KitTraced.lean (throwNew0V, throwNewS). -/
/-- where a method has thrown q: the class by its name, the cell, what was written, the world -/
def vx_T (XC : String → State → State → Prop) (st : State) (q : Addr) (t : State) (mc ms : Nat) (free : Addr → Prop) : Prop :=
  ∃ (E : String) (ce : Cell) (L : List Loc), XC E st t ∧ t.heap[q]? = some ce ∧ ce.vm = .none ∧ st.vm.findClass E = some ce.cls ∧ st.WarmedH t.vm ∧ st.sameButNew ({ t with vm := st.vm } : State) L mc ms ∧ ∀ z ∈ L, free z.base
def vx_Q (Qc : Array Value → State → Outcome → State → Prop) (XC : String → State → State → Prop) (mc ms : Nat) (free : Addr → Prop) : Array Value → State → Outcome → State → Prop := fun a st o t =>
  (Qc a st o t ∧ ∃ L, FrameEnd st o t L mc ms ∧ ∀ q ∈ L, free q.base) ∨ ∃ q, o = .threw q ∧ vx_T XC st q t mc ms free
/-- a callee that returns or throws -/
def vx_Met (l : Launch) (y : MethodName) (ws : List Cond) (rm : Room) (Pc : Array Value → State → Prop) (Qc : Array Value → State → Outcome → State → Prop) (XC : String → State → State → Prop) (mc ms : Nat) (free : Addr → Prop) : Prop :=
  MetFree l y (headSpec ws rm) Pc (fun _ _ _ _ _ => True) (vx_Q Qc XC mc ms free)
def vx_Post (XC : String → State → State → Prop) (mc ms : Nat) (free : Addr → Prop) : Pt → Array Value → Addr → Pt → Prop := fun A a q B =>
  ∃ (g : JFrame) (mk : MethodId) (t : State) (L : List Loc) (E : String) (ce : Cell), B.U.heap = t.heap ∧ B.U.vm = t.vm ∧ XC E (A.U.calling g mk a) t ∧ t.heap[q]? = some ce ∧ ce.vm = .none ∧ A.U.vm.findClass E = some ce.cls ∧ B.locs = A.locs ++ L ∧ (∀ z ∈ L, free z.base) ∧ B.cells = A.cells + mc ∧ B.slots = A.slots + ms
def vx_Back (l : Launch) (R : Room) (p : Program) (e : Env) (below : List Frame) (s : State) (sargs : Array Value) (y : MethodName) (len W9 : Nat)
    (Pre : Pt → Array Value → Prop) (Post : Pt → Array Value → Option Value → Pt → Prop) (PostX : Pt → Array Value → Addr → Pt → Prop) : Prop :=
  ∀ (m : MethodId) (meth : Method) (c : Code) (A : Pt) (g : JFrame) (ig : Instr) (mk : MethodId) (a : Array Value),
    Stand p l e R s m sargs below meth c A.U A.locs A.cells A.slots → g.method = m → g.locals.size = c.maxLocals → decode c.code g.pc = .ok (ig, len) →
    2 * g.monitorRoom + (g.stack.map fun v => v.category).sum ≤ W9 → A.U.methodNamed? y = some mk → Pre A a →
    (∃ (v : Option Value) (B : Pt), Stand p l e R s m sargs below meth c B.U B.locs B.cells B.slots ∧ Post A a v B ∧
      Steps p.tables e below (doInvoke e (A.U.setTop g) [] mk a).1 (B.U.setTop { g with pc := g.pc + len, stack := v.toList ++ g.stack })) ∨
    (∃ (q : Addr) (B : Pt), Stand p l e R s m sargs below meth c B.U B.locs B.cells B.slots ∧ PostX A a q B ∧
      Steps p.tables e below (doInvoke e (A.U.setTop g) [] mk a).1 ((B.U.setTop g).pushFrame (.throwing q)))
section Payer
variable {l : Launch} {R : Room} {p : Program} {e : Env} {below : List Frame} {s : State} {sargs : Array Value} {y : MethodName} {len W9 : Nat}
theorem vx_back {ws : List Cond} {rm : Room} {Pc : Array Value → State → Prop} {Qc : Array Value → State → Outcome → State → Prop} {XC : String → State → State → Prop} {mc ms : Nat} {free : Addr → Prop} {bytes : ByteArray} {maxL : Nat} {ret : Option FieldType}
    (hM : vx_Met l y ws rm Pc Qc XC mc ms free) (hblind : FrameBlind Pc) (hrc : rm.cells = mc) (hrs : rm.slots = ms)
    (hframes : rm.frames + 1 ≤ R.frames) (hlocals : W9 + (maxL + 11) + rm.locals ≤ R.locals)
    (hws : ∀ w ∈ ws, ∀ a' U, s.WarmedH U.vm → w.before a' U = true) (hcode : Cond.code y bytes maxL ret ∈ ws) (hinit : ∀ a' U, s.WarmedH U.vm → (Cond.initialized y.cls).before a' U = true) :
    vx_Back l R p e below s sargs y len W9 (PreOf R mc ms Pc) (PostOf Qc mc ms free) (vx_Post XC mc ms free) := by
  intro m meth c A g ig mk a X hg hsize hdg hW hn hp
  have h1 : (headSpec ws rm).pre.before a A.U = true := atoms_intro fun w hw => hws w hw _ _ X.warmed
  have h2 : (Cond.code y bytes maxL ret).before a A.U = true := hws _ hcode _ _ X.warmed
  have h3 : (Cond.initialized y.cls).before a A.U = true := hinit _ _ X.warmed
  have h4 : A.cells + (headSpec ws rm).room.cells ≤ R.cells := by rw [show (headSpec ws rm).room.cells = mc from hrc]; exact hp.1
  have h5 : A.slots + (headSpec ws rm).room.slots ≤ R.slots := by rw [show (headSpec ws rm).room.slots = ms from hrs]; exact hp.2.1
  have hPc : Pc a (A.U.calling g mk a) := hblind _ _ _ _ hp.2.2
  obtain ⟨U, Ls, c0, s0⟩ := A
  dsimp only [Pt.U, Pt.locs, Pt.cells, Pt.slots] at h1 h2 h3 h4 h5 X hn hPc ⊢
  obtain ⟨methY, cY, hmY, hcY, -, hlY, -, -, -, -⟩ := Cond.code_spec hn h2
  obtain ⟨kY, hkY, -⟩ := className_of_methodNamed hn
  have hinitY : kY.init = .initialized := Cond.initialized_spec (findClass_of_methodNamed hn) hkY h3
  have h : At U g.method c below := by rw [hg]; exact X.here
  have hlocals9 : W9 + (maxL + 11) + (headSpec ws rm).room.locals ≤ R.locals := hlocals
  have happ : (headSpec ws rm).appliesLoose y e.platform (U.calling g mk a) = true :=
    Spec.appliesLoose_calling (g := g) h hdg hn hkY hinitY
      (X.room_calling (g := g) (R' := (headSpec ws rm).room) hsize hmY hcY hframes (by rw [hlY]; omega) h4 h5) h1
  obtain ⟨mid, hmid⟩ := h.above
  have hfr : (U.setTop g).frames = (.java g :: mid) ++ below := by rw [State.frames_setTop' g h.top, hmid]; rfl
  obtain ⟨o, s₂, hsteps, -, hend, hq⟩ := Steps.callFree hM p X.admits X.cas X.clock (acts := []) hfr happ hPc trivial
  have hq' : vx_Q Qc XC mc ms free a (U.calling g mk a) o s₂ := hq
  rw [State.frames_setTop' g h.top] at hend
  obtain ⟨g₀, hg0⟩ := Option.isSome_iff_exists.mp h.top
  obtain ⟨r, hr⟩ := State.topJava?_eq_some.mp hg0
  have hr' : (({ U with heap := s₂.heap, slotsUsed := s₂.slotsUsed } : State).setVm s₂.vm).frames = .java g₀ :: r := hr
  rcases hq' with ⟨hqc, L, hfe, hL⟩ | ⟨q, rfl, E, ce, L, hx, hce, hcv, hcl, hW₂, hsm, hL⟩
  · obtain ⟨⟨v, rfl⟩, hW₂, e2, q2, q3, q4, q5, q6⟩ := id hfe
    have e3 : s₂ = ({ (U.calling g mk a).setFrames s₂.frames with heap := s₂.heap, slotsUsed := s₂.slotsUsed } : State).setVm s₂.vm := by
      have : s₂ = ({ s₂ with vm := (U.calling g mk a).vm } : State).setVm s₂.vm := rfl
      rw [e2] at this
      exact this
    obtain ⟨c₂, i₂, len₂, hc₂, hd₂, hf₂⟩ := hend
    have hW' : U.WarmedH s₂.vm := hW₂
    have hcc : c₂ = c := by
      have h1 : s₂.code? g.method = U.code? g.method := by
        rw [State.code?_eq, State.code?_eq, hW'.alike.method?]
      exact Option.some.inj (hc₂.symm.trans (h1.trans h.code))
    subst hcc
    have hlen : len₂ = len := by rw [hdg] at hd₂; cases hd₂; rfl
    subst hlen
    have hs₂ : s₂ = (({ U with heap := s₂.heap, slotsUsed := s₂.slotsUsed } : State).setVm s₂.vm).setTop { g with pc := g.pc + len₂, stack := v.toList ++ g.stack } := by
      refine e3.trans ?_
      rw [hf₂, State.calling_eq h.top, State.setFrames_setFrames, State.setTop_of_frames _ hr', hr]
      rfl
    have hsame : U.sameButNew ({ U with heap := s₂.heap, slotsUsed := s₂.slotsUsed } : State) L mc ms := by
      refine ⟨?_, q2, q3, q4, q5, q6⟩
      obtain ⟨t, ht, -⟩ := State.frames_cons hr
      show ({ U with heap := s₂.heap, slotsUsed := s₂.slotsUsed } : State) = { U.setFrames U.frames with heap := s₂.heap, slotsUsed := s₂.slotsUsed }
      rw [State.setFrames_self ht]
    subst hg
    refine Or.inl ⟨v, ⟨(({ U with heap := s₂.heap, slotsUsed := s₂.slotsUsed } : State).setVm s₂.vm), Ls ++ L, c0 + mc, s0 + ms⟩,
      ⟨X.admits, X.cas, X.clock, X.frames, X.room, X.hears, X.method, X.code, (X.here.setHeapUsed s₂.heap s₂.slotsUsed).setVm hW'.alike, X.tail, State.WarmedH.trans X.warmed hW', X.limits, X.bytes, X.same.trans (hsame.setVm s.vm)⟩,
      ⟨g, mk, s₂, L, rfl, rfl, hqc, rfl, hL, rfl, rfl⟩, ?_⟩
    show Steps p.tables e below _ ((({ U with heap := s₂.heap, slotsUsed := s₂.slotsUsed } : State).setVm s₂.vm).setTop { g with pc := g.pc + len₂, stack := v.toList ++ g.stack })
    rw [← hs₂]
    exact hsteps
  · obtain ⟨e2, q2, q3, q4, q5, q6⟩ := id hsm
    have e3 : s₂ = ({ (U.calling g mk a).setFrames s₂.frames with heap := s₂.heap, slotsUsed := s₂.slotsUsed } : State).setVm s₂.vm := by
      have : s₂ = ({ s₂ with vm := (U.calling g mk a).vm } : State).setVm s₂.vm := rfl
      rw [e2] at this
      exact this
    have hf₂ : s₂.frames = .throwing q :: .java g :: U.frames.tail := hend
    have hW' : U.WarmedH s₂.vm := hW₂
    have hs₂ : s₂ = ((({ U with heap := s₂.heap, slotsUsed := s₂.slotsUsed } : State).setVm s₂.vm).setTop g).pushFrame (.throwing q) := by
      refine e3.trans ?_
      rw [hf₂, State.calling_eq h.top, State.setFrames_setFrames, State.pushFrame, State.frames_setTop _ hr', State.setTop_of_frames _ hr', State.setFrames_setFrames, hr]
      rfl
    have hsame : U.sameButNew ({ U with heap := s₂.heap, slotsUsed := s₂.slotsUsed } : State) L mc ms := by
      refine ⟨?_, q2, q3, q4, q5, q6⟩
      obtain ⟨t, ht, -⟩ := State.frames_cons hr
      show ({ U with heap := s₂.heap, slotsUsed := s₂.slotsUsed } : State) = { U.setFrames U.frames with heap := s₂.heap, slotsUsed := s₂.slotsUsed }
      rw [State.setFrames_self ht]
    subst hg
    refine Or.inr ⟨q, ⟨(({ U with heap := s₂.heap, slotsUsed := s₂.slotsUsed } : State).setVm s₂.vm), Ls ++ L, c0 + mc, s0 + ms⟩,
      ⟨X.admits, X.cas, X.clock, X.frames, X.room, X.hears, X.method, X.code, (X.here.setHeapUsed s₂.heap s₂.slotsUsed).setVm hW'.alike, X.tail, State.WarmedH.trans X.warmed hW', X.limits, X.bytes, X.same.trans (hsame.setVm s.vm)⟩,
      ⟨g, mk, s₂, L, E, ce, rfl, rfl, hx, hce, hcv, hcl, rfl, hL, rfl, rfl⟩, ?_⟩
    show Steps p.tables e below _ (((({ U with heap := s₂.heap, slotsUsed := s₂.slotsUsed } : State).setVm s₂.vm).setTop g).pushFrame (.throwing q))
    rw [← hs₂]
    exact hsteps
end Payer
section Calls
variable {p : Program} {l : Launch} {e : Env} {R : Room} {s : State} {m : MethodId} {args : Array Value} {below : List Frame} {meth : Method} {c : Code} {T : State} {locs : List Loc} {cells slots : Nat}
theorem vx_callV (X : Stand p l e R s m args below meth c T locs cells slots) (hexec : p.tables.exec = Jvm.exec) {own C : String} {index : Nat} {y : MethodName} {bytes : ByteArray} {maxL : Nat} {ret : Option FieldType}
    (hown : s.vm.findClass own = some m.cls) (hlink : (Cond.methodLink own index y).before args s = true) (hinst : (Cond.instanceMethod y).before args s = true) (hsel : (Cond.selects C y y).before args s = true)
    (hcode : (Cond.code y bytes maxL ret).before args s = true) (hy : y.cls ≠ "java/lang/invoke/MethodHandle" ∧ y.cls ≠ "java/lang/invoke/VarHandle")
    {W9 : Nat} {Pre : Pt → Array Value → Prop} {Post : Pt → Array Value → Option Value → Pt → Prop} {PostX : Pt → Array Value → Addr → Pt → Prop} (hK : vx_Back l R p e below s args y 3 W9 Pre Post PostX)
    {b : Addr} {cellB : Cell} (hcell : T.heap[b]? = some cellB) (hobj : cellB.vm.isStatics = false) (hcls : s.vm.findClass C = some cellB.cls)
    {g : JFrame} (hg : g.method = m) (hsize : g.locals.size = c.maxLocals) {argsL rest : List Value} (hlen : ∀ sig, parseMethodDescriptor y.desc = some sig → argsL.length = sig.parameters.length)
    (hstack : g.stack = argsL.reverse ++ .ref b :: rest) (hW : 2 * g.monitorRoom + (rest.map fun v => v.category).sum ≤ W9) (hdg : decode c.code g.pc = .ok (.invokevirtual index, 3))
    (hpre : ∀ vm₁, s.WarmedH vm₁ → Pre ⟨T.setVm vm₁, locs, cells, slots⟩ (Value.ref b :: argsL).toArray) :
    (∃ (v : Option Value) (vm₁ : Vm) (B : Pt), s.WarmedH vm₁ ∧ Stand p l e R s m args below meth c B.U B.locs B.cells B.slots ∧ Post ⟨T.setVm vm₁, locs, cells, slots⟩ (Value.ref b :: argsL).toArray v B ∧
      ∀ target, Steps p.tables e below (B.U.setTop { g with pc := g.pc + 3, stack := v.toList ++ rest }) target → Steps p.tables e below (T.setTop g) target) ∨
    (∃ (q : Addr) (vm₁ : Vm) (B : Pt), s.WarmedH vm₁ ∧ Stand p l e R s m args below meth c B.U B.locs B.cells B.slots ∧ PostX ⟨T.setVm vm₁, locs, cells, slots⟩ (Value.ref b :: argsL).toArray q B ∧
      Steps p.tables e below (T.setTop g) ((B.U.setTop { g with stack := rest }).pushFrame (.throwing q))) := by
  obtain ⟨mk, methM, hnamed, hmethM, hstM, habM⟩ := Cond.instanceMethod_spec hinst
  obtain ⟨methM', cM, hmethM', -, -, -, -, -, -, hsigM⟩ := Cond.code_spec hnamed hcode
  cases hmethM.symm.trans hmethM'
  obtain ⟨c2, r2, m2, q1, q2, q3, q4, kP, hkP, hkPi⟩ := Cond.selects_spec hsel
  cases hcls.symm.trans q1
  cases (State.methodFound?_of_named hnamed hy).symm.trans q2
  cases hnamed.symm.trans q3
  have hselP : selectMethod e.platform s.vm cellB.cls mk = .method mk := by rw [Launch.admits_selectMethod X.admits]; exact q4
  obtain ⟨vm₁, X₁, hstep₁⟩ := X.invokevirtual hexec hown hlink hnamed hmethM hstM hkP hkPi hy (a := b) (cell := cellB) hcell
    (fun z h => by rw [h] at hobj; cases hobj) hselP hmethM habM hkP hkPi (g := g) hg (argsL := argsL) (rest := rest) (hlen _ hsigM) hstack hdg
  rcases hK m meth c ⟨T.setVm vm₁, locs, cells, slots⟩ { g with stack := rest } (.invokevirtual index) mk (Value.ref b :: argsL).toArray X₁ hg hsize hdg hW (X₁.named hnamed) (hpre vm₁ X₁.warmed) with ⟨v, B, X', hpost, hsteps⟩ | ⟨q, B, X', hpost, hsteps⟩
  · exact Or.inl ⟨v, vm₁, B, X₁.warmed, X', hpost, fun target h => hstep₁ _ fun acts => by rw [doInvoke_state]; exact hsteps.trans h⟩
  · exact Or.inr ⟨q, vm₁, B, X₁.warmed, X', hpost, hstep₁ _ fun acts => by rw [doInvoke_state]; exact hsteps⟩
theorem vx_callS (X : Stand p l e R s m args below meth c T locs cells slots) (hexec : p.tables.exec = Jvm.exec) {own : String} {index : Nat} {y : MethodName} {bytes : ByteArray} {maxL : Nat} {ret : Option FieldType}
    (hown : s.vm.findClass own = some m.cls) (hlink : (Cond.methodLink own index y).before args s = true) (hstat : (Cond.static y).before args s = true) (hinit : (Cond.initialized y.cls).before args s = true)
    (hcode : (Cond.code y bytes maxL ret).before args s = true) (hy : y.cls ≠ "java/lang/invoke/MethodHandle" ∧ y.cls ≠ "java/lang/invoke/VarHandle")
    {W9 : Nat} {Pre : Pt → Array Value → Prop} {Post : Pt → Array Value → Option Value → Pt → Prop} {PostX : Pt → Array Value → Addr → Pt → Prop} (hK : vx_Back l R p e below s args y 3 W9 Pre Post PostX)
    {g : JFrame} (hg : g.method = m) (hsize : g.locals.size = c.maxLocals) {argsL rest : List Value} (hlen : ∀ sig, parseMethodDescriptor y.desc = some sig → argsL.length = sig.parameters.length)
    (hstack : g.stack = argsL.reverse ++ rest) (hW : 2 * g.monitorRoom + (rest.map fun v => v.category).sum ≤ W9) (hdg : decode c.code g.pc = .ok (.invokestatic index, 3))
    (hpre : ∀ vm₁, s.WarmedH vm₁ → Pre ⟨T.setVm vm₁, locs, cells, slots⟩ argsL.toArray) :
    (∃ (v : Option Value) (vm₁ : Vm) (B : Pt), s.WarmedH vm₁ ∧ Stand p l e R s m args below meth c B.U B.locs B.cells B.slots ∧ Post ⟨T.setVm vm₁, locs, cells, slots⟩ argsL.toArray v B ∧
      ∀ target, Steps p.tables e below (B.U.setTop { g with pc := g.pc + 3, stack := v.toList ++ rest }) target → Steps p.tables e below (T.setTop g) target) ∨
    (∃ (q : Addr) (vm₁ : Vm) (B : Pt), s.WarmedH vm₁ ∧ Stand p l e R s m args below meth c B.U B.locs B.cells B.slots ∧ PostX ⟨T.setVm vm₁, locs, cells, slots⟩ argsL.toArray q B ∧
      Steps p.tables e below (T.setTop g) ((B.U.setTop { g with stack := rest }).pushFrame (.throwing q))) := by
  obtain ⟨mk, hnamed⟩ := Cond.code_named hcode
  obtain ⟨methM, cM, hmethM, -, -, -, -, -, -, hsigM⟩ := Cond.code_spec hnamed hcode
  have hstatic : methM.isStatic = true := Cond.static_spec hnamed hmethM hstat
  obtain ⟨kP, hkP, -⟩ := className_of_methodNamed hnamed
  have hinitP : kP.init = .initialized := Cond.initialized_spec (findClass_of_methodNamed hnamed) hkP hinit
  obtain ⟨vm₁, X₁, hstep₁⟩ := X.invokestatic hexec hown hlink hnamed hmethM hstatic hkP hinitP hy (g := g) hg (argsL := argsL) (rest := rest) (hlen _ hsigM) hstack hdg
  rcases hK m meth c ⟨T.setVm vm₁, locs, cells, slots⟩ { g with stack := rest } (.invokestatic index) mk argsL.toArray X₁ hg hsize hdg hW (X₁.named hnamed) (hpre vm₁ X₁.warmed) with ⟨v, B, X', hpost, hsteps⟩ | ⟨q, B, X', hpost, hsteps⟩
  · exact Or.inl ⟨v, vm₁, B, X₁.warmed, X', hpost, fun target h => hstep₁ _ fun acts => by rw [doInvoke_state]; exact hsteps.trans h⟩
  · exact Or.inr ⟨q, vm₁, B, X₁.warmed, X', hpost, hstep₁ _ fun acts => by rw [doInvoke_state]; exact hsteps⟩
end Calls
theorem vx_cls {s : State} {T : State} {vm₁ : Vm} {E : String} {k : ClassId} (hW : s.WarmedH vm₁) (h : (T.setVm vm₁).vm.findClass E = some k) : s.vm.findClass E = some k := by
  have h1 : vm₁.findClass E = some k := h
  rw [hW.alike.findClass] at h1
  exact h1
/-- the method's frame g, with q thrown over it -/
def vx_W (p : Program) (l : Launch) (e : Env) (R : Room) (s : State) (m : MethodId) (args : Array Value) (below : List Frame) (meth : Method) (c : Code) (H : Heap) (locs : List Loc) (cells slots : Nat) (Q : State → Prop) (g : JFrame) (q : Addr) : Prop :=
  ∀ T : State, T.heap = H → Stand p l e R s m args below meth c T locs cells slots → ∃ t, Steps p.tables e below ((T.setTop g).pushFrame (.throwing q)) t ∧ Q t
def vx_Run (p : Program) (l : Launch) (e : Env) (R : Room) (s : State) (m : MethodId) (args : Array Value) (below : List Frame) (meth : Method) (c : Code) (H : Heap) (locs : List Loc) (cells slots mc ms : Nat) (g : JFrame) (rest : List Value) (Qa : State → Outcome → State → Prop) (XC : String → State → State → Prop) (free : Addr → Prop) : Prop :=
  ∀ T : State, T.heap = H → Stand p l e R s m args below meth c T locs cells slots →
    (∃ (v : Option Value) (st₀ t T' : State) (L : List Loc), st₀.heap = H ∧ Stand p l e R s m args below meth c T' (locs ++ L) (cells + mc) (slots + ms) ∧ (∀ q ∈ L, free q.base) ∧ T'.heap = t.heap ∧ T'.vm = t.vm ∧ Qa st₀ (.returned v) t ∧
      Goes p e below T g T' { g with pc := g.pc + 3, stack := v.toList ++ rest }) ∨
    (∃ (q : Addr) (st₀ t T' : State) (L : List Loc) (E : String) (ce : Cell), st₀.heap = H ∧ Stand p l e R s m args below meth c T' (locs ++ L) (cells + mc) (slots + ms) ∧ (∀ z ∈ L, free z.base) ∧ T'.heap = t.heap ∧ T'.vm = t.vm ∧ XC E st₀ t ∧ t.heap[q]? = some ce ∧ ce.vm = .none ∧ s.vm.findClass E = some ce.cls ∧
      Steps p.tables e below (T.setTop g) ((T'.setTop { g with stack := rest }).pushFrame (.throwing q)))
def vx_X {S : Type} (px : S → Prop) (B : String → S → State → Prop) (A : Nat → Prop) : String → State → State → Prop := fun E st t => ∃ u : S, px u ∧ B E u t ∧ va_F A st t
section Runs
variable {p : Program} {l : Launch} {e : Env} {R : Room} {s : State} {m : MethodId} {args : Array Value} {below : List Frame} {meth : Method} {c : Code} {H : Heap} {locs : List Loc} {cells slots : Nat}
variable {y : MethodName} {bytes cc : ByteArray} {maxL nL mc ms n index : Nat} {ret : Option FieldType} {ws : List Cond} {rm : Room} {Pc : Array Value → State → Prop} {Qc : Array Value → State → Outcome → State → Prop} {XC : String → State → State → Prop} {free : Addr → Prop} {Ts : List Cond} {own C : String} {b : Addr} {As rest : List Value} {g : JFrame}
theorem vx_callBack (cb : CallB R s args own index y bytes maxL ret ws rm mc ms n) (hM : vx_Met l y ws rm Pc Qc XC mc ms free) (hbl : FrameBlind Pc) : vx_Back l R p e below s args y 3 8 (PreOf R mc ms Pc) (PostOf Qc mc ms free) (vx_Post XC mc ms free) := by
  obtain ⟨hrc, hrs, hfr, hlo, hws, hcw, -, hini, -⟩ := cb
  exact vx_back (bytes := bytes) (maxL := maxL) (ret := ret) hM hbl hrc hrs hfr hlo hws hcw (fun a' U hW => word_at hW (Or.inl (by first | rfl | simp [Cond.onTables, Cond.keeps, Cond.steady])) hini)
theorem vx_runV (S : CallFix p m c cc nL s args Ts own) (hM : vx_Met l y ws rm Pc Qc XC mc ms free) (cw : CallW R s args own C index y bytes maxL ret ws rm mc ms n) (hp : PreV s H C b Pc As)
    (hg : g.method = m) (hn : As.length = n) (hsize : g.locals.size = nL) (hstack : g.stack = As.reverse ++ .ref b :: rest) (hW : 2 * g.monitorRoom + (rest.map fun v => v.category).sum ≤ 8) (hdg : decode cc g.pc = .ok (.invokevirtual index, 3)) (hf : cells + mc ≤ R.cells ∧ slots + ms ≤ R.slots) :
    vx_Run p l e R s m args below meth c H locs cells slots mc ms g rest (Qc (Value.ref b :: As).toArray) XC free := by
  have hK : vx_Back l R p e below s args y 3 8 (PreOf R mc ms Pc) (PostOf Qc mc ms free) (vx_Post XC mc ms free) := vx_callBack cw.1 hM hp.1
  obtain ⟨⟨-, -, -, -, -, -, hcode, -, hy, hlen, hl⟩, hin, hse⟩ := cw
  obtain ⟨hx, hb, hml, ho, -⟩ := S
  obtain ⟨-, ⟨cellB, hcB, hoB, hclB⟩, hPc⟩ := hp
  intro T hT X
  rcases vx_callV X hx (C := C) (bytes := bytes) (maxL := maxL) (ret := ret) ho hl hin hse hcode hy hK (by rw [hT]; exact hcB) hoB hclB hg (hsize.trans hml.symm) (argsL := As) (rest := rest) (fun sig h => hn.trans (hlen sig h)) hstack hW (by rw [hb]; exact hdg)
    (fun vm₁ hW₁ => ⟨hf.1, hf.2, hPc (T.setVm vm₁) hT hW₁⟩) with ⟨v, vm₁, ⟨U', l2, c2, s2⟩, hW₁, X', ⟨g', mk, t, L, e1, e2, hq, h1, hL, h2, h3⟩, st⟩ | ⟨q, vm₁, ⟨U', l2, c2, s2⟩, hW₁, X', ⟨g', mk, t, L, E, ce, e1, e2, hq, hce, hcv, hcl, h1, hL, h2, h3⟩, st⟩
  · dsimp only [Pt.U, Pt.locs, Pt.cells, Pt.slots] at X' e1 e2 h1 h2 h3 st
    subst h1; subst h2; subst h3
    exact Or.inl ⟨v, (T.setVm vm₁).calling g' mk (Value.ref b :: As).toArray, t, U', L, hT, X', hL, e1, e2, hq, st⟩
  · dsimp only [Pt.U, Pt.locs, Pt.cells, Pt.slots] at X' e1 e2 h1 h2 h3 st hcl
    subst h1; subst h2; subst h3
    exact Or.inr ⟨q, (T.setVm vm₁).calling g' mk (Value.ref b :: As).toArray, t, U', L, E, ce, hT, X', hL, e1, e2, hq, hce, hcv, vx_cls hW₁ hcl, st⟩
theorem vx_runS (S : CallFix p m c cc nL s args Ts own) (hM : vx_Met l y ws rm Pc Qc XC mc ms free) (cw : CallB R s args own index y bytes maxL ret ws rm mc ms n ∧ (Cond.static y).before args s = true) (hp : PreS s H Pc As)
    (hg : g.method = m) (hn : As.length = n) (hsize : g.locals.size = nL) (hstack : g.stack = As.reverse ++ rest) (hW : 2 * g.monitorRoom + (rest.map fun v => v.category).sum ≤ 8) (hdg : decode cc g.pc = .ok (.invokestatic index, 3)) (hf : cells + mc ≤ R.cells ∧ slots + ms ≤ R.slots) :
    vx_Run p l e R s m args below meth c H locs cells slots mc ms g rest (Qc As.toArray) XC free := by
  have hK : vx_Back l R p e below s args y 3 8 (PreOf R mc ms Pc) (PostOf Qc mc ms free) (vx_Post XC mc ms free) := vx_callBack cw.1 hM hp.1
  obtain ⟨⟨-, -, -, -, -, -, hcode, hini, hy, hlen, hl⟩, hstt⟩ := cw
  obtain ⟨hx, hb, hml, ho, -⟩ := S
  intro T hT X
  rcases vx_callS X hx (bytes := bytes) (maxL := maxL) (ret := ret) ho hl hstt hini hcode hy hK hg (hsize.trans hml.symm) (argsL := As) (rest := rest) (fun sig h => hn.trans (hlen sig h)) hstack hW (by rw [hb]; exact hdg)
    (fun vm₁ hW₁ => ⟨hf.1, hf.2, hp.2 (T.setVm vm₁) hT hW₁⟩) with ⟨v, vm₁, ⟨U', l2, c2, s2⟩, hW₁, X', ⟨g', mk, t, L, e1, e2, hq, h1, hL, h2, h3⟩, st⟩ | ⟨q, vm₁, ⟨U', l2, c2, s2⟩, hW₁, X', ⟨g', mk, t, L, E, ce, e1, e2, hq, hce, hcv, hcl, h1, hL, h2, h3⟩, st⟩
  · dsimp only [Pt.U, Pt.locs, Pt.cells, Pt.slots] at X' e1 e2 h1 h2 h3 st
    subst h1; subst h2; subst h3
    exact Or.inl ⟨v, (T.setVm vm₁).calling g' mk As.toArray, t, U', L, hT, X', hL, e1, e2, hq, st⟩
  · dsimp only [Pt.U, Pt.locs, Pt.cells, Pt.slots] at X' e1 e2 h1 h2 h3 st hcl
    subst h1; subst h2; subst h3
    exact Or.inr ⟨q, (T.setVm vm₁).calling g' mk As.toArray, t, U', L, E, ce, hT, X', hL, e1, e2, hq, hce, hcv, vx_cls hW₁ hcl, st⟩
end Runs
section Rows
variable {p : Program} {l : Launch} {e : Env} {R : Room} {s : State} {m : MethodId} {args : Array Value} {below : List Frame} {meth : Method} {c : Code} {H : Heap} {locs : List Loc} {cells slots : Nat} {Q : State → Prop}
variable {mc ms : Nat} {free : Addr → Prop} {A0 A1 : Nat → Prop} {H0 : Heap} {a : Array Value} {pc : Nat} {ls : Array Slot} {st0 rest : List Value}
theorem vx_keep {st₀ t T' : State} {L : List Loc} (h0 : st₀.heap = H) (e1 : T'.heap = t.heap) (hS : va_S A0 H0 H locs) (hA : ∀ q, q < H.size → A1 q → A0 q) (hf : ∀ q, free q → A0 q) (hL : ∀ q ∈ L, free q.base) (hF : va_F A1 st₀ t) :
    H.size ≤ T'.heap.size ∧ (∀ q : Nat, q < H.size → ¬ A1 q → T'.heap[q]? = H[q]?) ∧ va_S A0 H0 T'.heap (locs ++ L) := by
  obtain ⟨hz, hk⟩ := hF
  rw [h0] at hz hk
  exact ⟨by rw [e1]; exact hz, fun q h1 h2 => by rw [e1]; exact hk q h1 h2,
    ⟨Nat.le_trans hS.1 (by rw [e1]; exact hz), fun q h1 h2 => by rw [e1, hk q (Nat.lt_of_lt_of_le h1 hS.1) (fun z => h2 (hA q (Nat.lt_of_lt_of_le h1 hS.1) z))]; exact hS.2.1 q h1 h2, fun q hq => by
      rcases List.mem_append.mp hq with h | h
      · exact hS.2.2 q h
      · exact hf _ (hL q h)⟩⟩
theorem vx_calli {S SX : Type} {post : Int32 → S → Prop} {px : SX → Prop} {B : S → State → Prop} {BX : String → SX → State → Prop} {AX : Nat → Prop} (hr : vx_Run p l e R s m args below meth c H locs cells slots mc ms (F0 m pc ls st0) rest (va_Qi post B A1 a) (vx_X px BX AX) free) (hS : va_S A0 H0 H locs) (hA : ∀ q, q < H.size → A1 q → A0 q) (hf : ∀ q, free q → A0 q) (hAX : ∀ q, q < H.size → AX q → A0 q)
    (kx : ∀ (E : String) (ce : Cell) (q9 : Addr) (u : SX) (t : State) (H1 : Heap) (locs1 : List Loc), t.heap = H1 → s.vm.Alike t.vm → px u → BX E u t → H.size ≤ H1.size → (∀ q : Nat, q < H.size → ¬ AX q → H1[q]? = H[q]?) → va_S A0 H0 H1 locs1 → H1[q9]? = some ce → ce.vm = .none → s.vm.findClass E = some ce.cls → vx_W p l e R s m args below meth c H1 locs1 (cells + mc) (slots + ms) Q (F0 m pc ls rest) q9)
    (kk : ∀ (r : Int32) (u : S) (t : State) (H1 : Heap) (locs1 : List Loc), t.heap = H1 → s.vm.Alike t.vm → post r u → B u t → H.size ≤ H1.size → (∀ q : Nat, q < H.size → ¬ A1 q → H1[q]? = H[q]?) → va_S A0 H0 H1 locs1 → W p l e R s m args below meth c H1 locs1 (cells + mc) (slots + ms) Q (F0 m (pc + 3) ls (.int r :: rest))) : W p l e R s m args below meth c H locs cells slots Q (F0 m pc ls st0) := by
  intro T hT X
  rcases hr T hT X with ⟨v, st₀, t, T', L, h0, X', hL, e1, e2, ⟨⟨r, u, hv, hp, hb⟩, hF⟩, st⟩ | ⟨q, st₀, t, T', L, E, ce, h0, X', hL, e1, e2, ⟨u, hp, hb, hF⟩, hce, hcv, hcl, st⟩
  · cases hv
    obtain ⟨k1, k2, k3⟩ := vx_keep h0 e1 hS hA hf hL hF
    obtain ⟨t2, a1, b1⟩ := kk r u t T'.heap (locs ++ L) e1.symm (by rw [← e2]; exact X'.warmed.alike) hp hb k1 k2 k3 T' rfl X'
    exact ⟨t2, st t2 a1, b1⟩
  · obtain ⟨k1, k2, k3⟩ := vx_keep h0 e1 hS hAX hf hL hF
    obtain ⟨t2, a1, b1⟩ := kx E ce q u t T'.heap (locs ++ L) e1.symm (by rw [← e2]; exact X'.warmed.alike) hp hb k1 k2 k3 (by rw [e1]; exact hce) hcv hcl T' rfl X'
    exact ⟨t2, st.trans a1, b1⟩
theorem vx_calll {S SX : Type} {post : Int64 → S → Prop} {px : SX → Prop} {B : S → State → Prop} {BX : String → SX → State → Prop} {AX : Nat → Prop} (hr : vx_Run p l e R s m args below meth c H locs cells slots mc ms (F0 m pc ls st0) rest (va_Ql post B A1 a) (vx_X px BX AX) free) (hS : va_S A0 H0 H locs) (hA : ∀ q, q < H.size → A1 q → A0 q) (hf : ∀ q, free q → A0 q) (hAX : ∀ q, q < H.size → AX q → A0 q)
    (kx : ∀ (E : String) (ce : Cell) (q9 : Addr) (u : SX) (t : State) (H1 : Heap) (locs1 : List Loc), t.heap = H1 → s.vm.Alike t.vm → px u → BX E u t → H.size ≤ H1.size → (∀ q : Nat, q < H.size → ¬ AX q → H1[q]? = H[q]?) → va_S A0 H0 H1 locs1 → H1[q9]? = some ce → ce.vm = .none → s.vm.findClass E = some ce.cls → vx_W p l e R s m args below meth c H1 locs1 (cells + mc) (slots + ms) Q (F0 m pc ls rest) q9)
    (kk : ∀ (r : Int64) (u : S) (t : State) (H1 : Heap) (locs1 : List Loc), t.heap = H1 → s.vm.Alike t.vm → post r u → B u t → H.size ≤ H1.size → (∀ q : Nat, q < H.size → ¬ A1 q → H1[q]? = H[q]?) → va_S A0 H0 H1 locs1 → W p l e R s m args below meth c H1 locs1 (cells + mc) (slots + ms) Q (F0 m (pc + 3) ls (.long r :: rest))) : W p l e R s m args below meth c H locs cells slots Q (F0 m pc ls st0) := by
  intro T hT X
  rcases hr T hT X with ⟨v, st₀, t, T', L, h0, X', hL, e1, e2, ⟨⟨r, u, hv, hp, hb⟩, hF⟩, st⟩ | ⟨q, st₀, t, T', L, E, ce, h0, X', hL, e1, e2, ⟨u, hp, hb, hF⟩, hce, hcv, hcl, st⟩
  · cases hv
    obtain ⟨k1, k2, k3⟩ := vx_keep h0 e1 hS hA hf hL hF
    obtain ⟨t2, a1, b1⟩ := kk r u t T'.heap (locs ++ L) e1.symm (by rw [← e2]; exact X'.warmed.alike) hp hb k1 k2 k3 T' rfl X'
    exact ⟨t2, st t2 a1, b1⟩
  · obtain ⟨k1, k2, k3⟩ := vx_keep h0 e1 hS hAX hf hL hF
    obtain ⟨t2, a1, b1⟩ := kx E ce q u t T'.heap (locs ++ L) e1.symm (by rw [← e2]; exact X'.warmed.alike) hp hb k1 k2 k3 (by rw [e1]; exact hce) hcv hcl T' rfl X'
    exact ⟨t2, st.trans a1, b1⟩
theorem vx_callf {S SX : Type} {post : UInt32 → S → Prop} {px : SX → Prop} {B : S → State → Prop} {BX : String → SX → State → Prop} {AX : Nat → Prop} (hr : vx_Run p l e R s m args below meth c H locs cells slots mc ms (F0 m pc ls st0) rest (va_Qf post B A1 a) (vx_X px BX AX) free) (hS : va_S A0 H0 H locs) (hA : ∀ q, q < H.size → A1 q → A0 q) (hf : ∀ q, free q → A0 q) (hAX : ∀ q, q < H.size → AX q → A0 q)
    (kx : ∀ (E : String) (ce : Cell) (q9 : Addr) (u : SX) (t : State) (H1 : Heap) (locs1 : List Loc), t.heap = H1 → s.vm.Alike t.vm → px u → BX E u t → H.size ≤ H1.size → (∀ q : Nat, q < H.size → ¬ AX q → H1[q]? = H[q]?) → va_S A0 H0 H1 locs1 → H1[q9]? = some ce → ce.vm = .none → s.vm.findClass E = some ce.cls → vx_W p l e R s m args below meth c H1 locs1 (cells + mc) (slots + ms) Q (F0 m pc ls rest) q9)
    (kk : ∀ (r : UInt32) (u : S) (t : State) (H1 : Heap) (locs1 : List Loc), t.heap = H1 → s.vm.Alike t.vm → post r u → B u t → H.size ≤ H1.size → (∀ q : Nat, q < H.size → ¬ A1 q → H1[q]? = H[q]?) → va_S A0 H0 H1 locs1 → W p l e R s m args below meth c H1 locs1 (cells + mc) (slots + ms) Q (F0 m (pc + 3) ls (.float r :: rest))) : W p l e R s m args below meth c H locs cells slots Q (F0 m pc ls st0) := by
  intro T hT X
  rcases hr T hT X with ⟨v, st₀, t, T', L, h0, X', hL, e1, e2, ⟨⟨r, u, hv, hp, hb⟩, hF⟩, st⟩ | ⟨q, st₀, t, T', L, E, ce, h0, X', hL, e1, e2, ⟨u, hp, hb, hF⟩, hce, hcv, hcl, st⟩
  · cases hv
    obtain ⟨k1, k2, k3⟩ := vx_keep h0 e1 hS hA hf hL hF
    obtain ⟨t2, a1, b1⟩ := kk r u t T'.heap (locs ++ L) e1.symm (by rw [← e2]; exact X'.warmed.alike) hp hb k1 k2 k3 T' rfl X'
    exact ⟨t2, st t2 a1, b1⟩
  · obtain ⟨k1, k2, k3⟩ := vx_keep h0 e1 hS hAX hf hL hF
    obtain ⟨t2, a1, b1⟩ := kx E ce q u t T'.heap (locs ++ L) e1.symm (by rw [← e2]; exact X'.warmed.alike) hp hb k1 k2 k3 (by rw [e1]; exact hce) hcv hcl T' rfl X'
    exact ⟨t2, st.trans a1, b1⟩
theorem vx_calld {S SX : Type} {post : UInt64 → S → Prop} {px : SX → Prop} {B : S → State → Prop} {BX : String → SX → State → Prop} {AX : Nat → Prop} (hr : vx_Run p l e R s m args below meth c H locs cells slots mc ms (F0 m pc ls st0) rest (va_Qd post B A1 a) (vx_X px BX AX) free) (hS : va_S A0 H0 H locs) (hA : ∀ q, q < H.size → A1 q → A0 q) (hf : ∀ q, free q → A0 q) (hAX : ∀ q, q < H.size → AX q → A0 q)
    (kx : ∀ (E : String) (ce : Cell) (q9 : Addr) (u : SX) (t : State) (H1 : Heap) (locs1 : List Loc), t.heap = H1 → s.vm.Alike t.vm → px u → BX E u t → H.size ≤ H1.size → (∀ q : Nat, q < H.size → ¬ AX q → H1[q]? = H[q]?) → va_S A0 H0 H1 locs1 → H1[q9]? = some ce → ce.vm = .none → s.vm.findClass E = some ce.cls → vx_W p l e R s m args below meth c H1 locs1 (cells + mc) (slots + ms) Q (F0 m pc ls rest) q9)
    (kk : ∀ (r : UInt64) (u : S) (t : State) (H1 : Heap) (locs1 : List Loc), t.heap = H1 → s.vm.Alike t.vm → post r u → B u t → H.size ≤ H1.size → (∀ q : Nat, q < H.size → ¬ A1 q → H1[q]? = H[q]?) → va_S A0 H0 H1 locs1 → W p l e R s m args below meth c H1 locs1 (cells + mc) (slots + ms) Q (F0 m (pc + 3) ls (.double r :: rest))) : W p l e R s m args below meth c H locs cells slots Q (F0 m pc ls st0) := by
  intro T hT X
  rcases hr T hT X with ⟨v, st₀, t, T', L, h0, X', hL, e1, e2, ⟨⟨r, u, hv, hp, hb⟩, hF⟩, st⟩ | ⟨q, st₀, t, T', L, E, ce, h0, X', hL, e1, e2, ⟨u, hp, hb, hF⟩, hce, hcv, hcl, st⟩
  · cases hv
    obtain ⟨k1, k2, k3⟩ := vx_keep h0 e1 hS hA hf hL hF
    obtain ⟨t2, a1, b1⟩ := kk r u t T'.heap (locs ++ L) e1.symm (by rw [← e2]; exact X'.warmed.alike) hp hb k1 k2 k3 T' rfl X'
    exact ⟨t2, st t2 a1, b1⟩
  · obtain ⟨k1, k2, k3⟩ := vx_keep h0 e1 hS hAX hf hL hF
    obtain ⟨t2, a1, b1⟩ := kx E ce q u t T'.heap (locs ++ L) e1.symm (by rw [← e2]; exact X'.warmed.alike) hp hb k1 k2 k3 (by rw [e1]; exact hce) hcv hcl T' rfl X'
    exact ⟨t2, st.trans a1, b1⟩
theorem vx_callv {S SX : Type} {post : S → Prop} {px : SX → Prop} {B : S → State → Prop} {BX : String → SX → State → Prop} {AX : Nat → Prop} (hr : vx_Run p l e R s m args below meth c H locs cells slots mc ms (F0 m pc ls st0) rest (va_Qv post B A1 a) (vx_X px BX AX) free) (hS : va_S A0 H0 H locs) (hA : ∀ q, q < H.size → A1 q → A0 q) (hf : ∀ q, free q → A0 q) (hAX : ∀ q, q < H.size → AX q → A0 q)
    (kx : ∀ (E : String) (ce : Cell) (q9 : Addr) (u : SX) (t : State) (H1 : Heap) (locs1 : List Loc), t.heap = H1 → s.vm.Alike t.vm → px u → BX E u t → H.size ≤ H1.size → (∀ q : Nat, q < H.size → ¬ AX q → H1[q]? = H[q]?) → va_S A0 H0 H1 locs1 → H1[q9]? = some ce → ce.vm = .none → s.vm.findClass E = some ce.cls → vx_W p l e R s m args below meth c H1 locs1 (cells + mc) (slots + ms) Q (F0 m pc ls rest) q9)
    (kk : ∀ (u : S) (t : State) (H1 : Heap) (locs1 : List Loc), t.heap = H1 → s.vm.Alike t.vm → post u → B u t → H.size ≤ H1.size → (∀ q : Nat, q < H.size → ¬ A1 q → H1[q]? = H[q]?) → va_S A0 H0 H1 locs1 → W p l e R s m args below meth c H1 locs1 (cells + mc) (slots + ms) Q (F0 m (pc + 3) ls (rest))) : W p l e R s m args below meth c H locs cells slots Q (F0 m pc ls st0) := by
  intro T hT X
  rcases hr T hT X with ⟨v, st₀, t, T', L, h0, X', hL, e1, e2, ⟨⟨u, hv, hp, hb⟩, hF⟩, st⟩ | ⟨q, st₀, t, T', L, E, ce, h0, X', hL, e1, e2, ⟨u, hp, hb, hF⟩, hce, hcv, hcl, st⟩
  · cases hv
    obtain ⟨k1, k2, k3⟩ := vx_keep h0 e1 hS hA hf hL hF
    obtain ⟨t2, a1, b1⟩ := kk u t T'.heap (locs ++ L) e1.symm (by rw [← e2]; exact X'.warmed.alike) hp hb k1 k2 k3 T' rfl X'
    exact ⟨t2, st t2 a1, b1⟩
  · obtain ⟨k1, k2, k3⟩ := vx_keep h0 e1 hS hAX hf hL hF
    obtain ⟨t2, a1, b1⟩ := kx E ce q u t T'.heap (locs ++ L) e1.symm (by rw [← e2]; exact X'.warmed.alike) hp hb k1 k2 k3 (by rw [e1]; exact hce) hcv hcl T' rfl X'
    exact ⟨t2, st.trans a1, b1⟩
/-- caught by the row x of this method's table; the rows ahead don't take it -/
theorem vx_catch {own name : String} {E : String} {ce : Cell} {q : Addr} (hown : s.vm.findClass own = some m.cls) (pre : List ExceptionTableEntry) (x : ExceptionTableEntry) (suf : List ExceptionTableEntry) (hsplit : c.exceptionTable.toList = pre ++ x :: suf)
    (hpass : ∀ z ∈ pre, covers z pc = false ∨ (z.catchType ≠ 0 ∧ ∃ nm : String, (Cond.classLink own z.catchType nm).before args s = true ∧ va_Nc E nm s)) (hx : covers x pc = true) (h0 : x.catchType ≠ 0)
    (hlink : (Cond.classLink own x.catchType name).before args s = true) (hcast : (Cond.castable E name).before args s = true) (hcell : H[q]? = some ce) (hv : ce.vm = .none) (hcl : s.vm.findClass E = some ce.cls)
    (kk : W p l e R s m args below meth c H locs cells slots Q (F0 m x.handlerPc ls [.ref q])) : vx_W p l e R s m args below meth c H locs cells slots Q (F0 m pc ls rest) q := by
  intro T hT X
  have hpl : e.platform.magicAccessors = ({} : Platform).magicAccessors := by rw [X.admits.platform]
  obtain ⟨c3, c4, hc3, hc4, hasg⟩ := Cond.castable_spec hcast
  cases Option.some.inj (hc3.symm.trans hcl)
  obtain ⟨c5, hc5, hcl5⟩ := Cond.classLink_spec hown hlink e.platform hpl
  cases Option.some.inj (hc4.symm.trans hc5)
  obtain ⟨vm', X', st⟩ := X.thenCaughtThrough q (g := F0 m pc ls rest) rfl (Steps.refl _) (by rw [hT]; exact hcell) (by rw [hv]; rfl) (by obtain ⟨k9, h9, -⟩ := Vm.findClass_spec hcl; exact ⟨k9, h9⟩) pre x suf hsplit
    (fun z hz => by
      rcases hpass z hz with h | ⟨hz0, nm, hl1, hn1⟩
      · exact Or.inl h
      · obtain ⟨c6, hc6, hcl6⟩ := Cond.classLink_spec hown hl1 e.platform hpl
        obtain ⟨a8, b8, h1, h2, h3⟩ := hn1
        cases Option.some.inj (h1.symm.trans hcl)
        cases Option.some.inj (h2.symm.trans hc6)
        exact Or.inr ⟨hz0, _, hcl6, h3⟩) hx (Or.inr ⟨h0, c4, hcl5, hasg⟩)
  obtain ⟨t, a1, b1⟩ := kk (T.setVm vm') hT X'
  exact ⟨t, st.trans a1, b1⟩
end Rows
section Ends
variable {p : Program} {l : Launch} {e : Env} {R : Room} {s : State} {m : MethodId} {args : Array Value} {below : List Frame} {meth : Method} {c : Code} {H : Heap} {locs : List Loc} {cells slots : Nat} {Q : State → Prop}
variable {mc ms : Nat} {free : Addr → Prop} {A0 A1 : Nat → Prop} {H0 : Heap} {a : Array Value} {ls : Array Slot} {st0 rest : List Value}
variable {Qc : Array Value → State → Outcome → State → Prop} {XC : String → State → State → Prop}
/-- what a body that may throw owes at its end -/
def vx_MQ (below : List Frame) (Qc : Array Value → State → Outcome → State → Prop) (XC : String → State → State → Prop) (a : Array Value) (s : State) (mc ms : Nat) (free : Addr → Prop) : State → Prop := fun t =>
  ∃ o, t.status = .running ∧ Ended t below o ∧ vx_Q Qc XC mc ms free a s o t
theorem vx_ret {g : JFrame} {mc ms : Nat} (k : W p l e R s m args below meth c H locs cells slots (MQ below Qc args s mc ms free) g) : W p l e R s m args below meth c H locs cells slots (vx_MQ below Qc XC args s mc ms free) g := by
  intro T hT X
  obtain ⟨t, a1, o, b1, b2, b3, b4⟩ := k T hT X
  exact ⟨t, a1, o, b1, b2, Or.inl ⟨b3, b4⟩⟩
/-- not caught here: it goes on to the caller -/
theorem vx_widen {g : JFrame} {q : Addr} {k n : Nat} (h1 : cells ≤ k) (h2 : slots ≤ n) (kk : vx_W p l e R s m args below meth c H locs k n Q g q) : vx_W p l e R s m args below meth c H locs cells slots Q g q := fun T hT X => kk T hT (stand_widen X h1 h2)
theorem vx_out {pc : Nat} {E : String} {ce : Cell} {q : Addr} {mc ms : Nat} (hout : ∀ x ∈ c.exceptionTable.toList, covers x pc = false) (hlocks : meth.locks = false) (hcell : H[q]? = some ce) (hv : ce.vm = .none) (hcl : s.vm.findClass E = some ce.cls)
    (hx : ∀ t : State, t.heap = H → s.vm.Alike t.vm → XC E s t) (hf : ∀ z ∈ locs, free z.base) (hc : cells ≤ mc) (hs : slots ≤ ms) :
    vx_W p l e R s m args below meth c H locs cells slots (vx_MQ below Qc XC args s mc ms free) (F0 m pc ls rest) q := by
  intro T hT X
  obtain ⟨st1, hrun, hend, hW, hsm⟩ := X.leaveThrown q (g := F0 m pc ls rest) rfl rfl rfl hout hlocks
  have hcell9 : (T.setFrames (.throwing q :: below)).heap[q]? = some ce := by
    show T.heap[q]? = some ce
    rw [hT]; exact hcell
  exact ⟨_, st1, .threw q, hrun, hend, Or.inr ⟨q, rfl, E, ce, locs, hx _ hT hW.alike, hcell9, hv, hcl, hW, hsm.mono hc hs, hf⟩⟩
theorem vx_frame {U : State} {k n : Nat} (h : s.sameButNew ({ U with vm := s.vm } : State) locs k n) : s.heap.size ≤ U.heap.size ∧ ∀ q : Nat, q < s.heap.size → (∀ z ∈ locs, z.base ≠ q) → U.heap[q]? = s.heap[q]? := by
  obtain ⟨-, h2, -, -, -, h6⟩ := h
  refine ⟨h2, fun q hq hz => ?_⟩
  obtain ⟨c9, e1, e2, e3, e4⟩ := h6 q _ (Array.getElem?_eq_getElem hq)
  have hs : c9.slots = (s.heap[q]).slots := Array.ext_getElem? fun i => e4 i fun hm => hz _ hm rfl
  have h9 : c9 = s.heap[q] := by
    rw [hs] at e2
    exact e2
  have e5 : U.heap[q]? = some c9 := e1
  rw [e5, h9, Array.getElem?_eq_getElem hq]
/-- the words of a throw but the four that speak of the heap -/
def vx_no (w : Cond) : Bool := decide (w ≠ .isRef (.static Bundle.tN "UNASSIGNED_STACK" Bundle.steD)) && decide (w ≠ .isRef (.static Bundle.tN "SUPPRESSED_SENTINEL" Bundle.listD)) && decide (w ≠ .laysStatic Bundle.tN "UNASSIGNED_STACK" Bundle.steD) && decide (w ≠ .laysStatic Bundle.tN "SUPPRESSED_SENTINEL" Bundle.listD)
def vx_at0 (own : String) (ic : Nat) (X : String) (names : List String) : List Cond := (Bundle.ownAtoms0 own ic X names).filter vx_no
def vx_atS (own : String) (ic : Nat) (X : String) (names : List String) : List Cond := (Bundle.ownAtoms own ic X names).filter vx_no
/-- a word that the tables alone decide, or a good one -/
def vx_ot (w : Cond) : Bool := w.onTables || goodWord w
theorem vx_ot_at {args a' : Array Value} {s U : State} {w : Cond} (hW : s.WarmedH U.vm) (hvm : s.vm = U.vm) (hg : vx_ot w = true) (h : w.before args s = true) : w.before a' U = true := by
  simp only [vx_ot, Bool.or_eq_true] at hg
  rcases hg with hg | hg
  · exact va_tabs hg hvm h
  · exact word_at hW (good_of_word hg) h
/-- a list's words: the good ones out of the method's own list, the others by premises of their own -/
theorem vx_hat {args : Array Value} {s : State} {L B : List Cond} (h1 : ∀ w ∈ L.filter goodWord, w.before args s = true) (h2 : ∀ w ∈ L.filter (fun w => !goodWord w), w ∈ B) (h3 : ∀ w ∈ B, w.before args s = true) : ∀ w ∈ L, w.before args s = true := by
  intro w hw
  by_cases g : goodWord w = true
  · exact h1 w (List.mem_filter.mpr ⟨hw, g⟩)
  · refine h3 w (h2 w (List.mem_filter.mpr ⟨hw, ?_⟩))
    show (!goodWord w) = true
    cases hgw : goodWord w
    · rfl
    · exact absurd hgw g
theorem vx_c {args : Array Value} {s : State} {w : Cond} {B : List Cond} (h : w.before args s = true) (t : ∀ w ∈ B, w.before args s = true) : ∀ w' ∈ w :: B, w'.before args s = true := fun w' h' => (List.mem_cons.mp h').elim (fun e => by rw [e]; exact h) (t w')
theorem vx_n {args : Array Value} {s : State} : ∀ w ∈ ([] : List Cond), w.before args s = true := fun _ h => nomatch h
theorem vx_own {args : Array Value} {s : State} {L : List Cond} (h1 : ∀ w ∈ L.filter vx_no, w.before args s = true)
    (hU : (Cond.isRef (.static Bundle.tN "UNASSIGNED_STACK" Bundle.steD)).before args s = true) (hN : (Cond.isRef (.static Bundle.tN "SUPPRESSED_SENTINEL" Bundle.listD)).before args s = true)
    (lU : (Cond.laysStatic Bundle.tN "UNASSIGNED_STACK" Bundle.steD).before args s = true) (lN : (Cond.laysStatic Bundle.tN "SUPPRESSED_SENTINEL" Bundle.listD).before args s = true) : ∀ w ∈ L, w.before args s = true := by
  intro w hw
  by_cases e1 : w = .isRef (.static Bundle.tN "UNASSIGNED_STACK" Bundle.steD)
  · rw [e1]; exact hU
  · by_cases e2 : w = .isRef (.static Bundle.tN "SUPPRESSED_SENTINEL" Bundle.listD)
    · rw [e2]; exact hN
    · by_cases e3 : w = .laysStatic Bundle.tN "UNASSIGNED_STACK" Bundle.steD
      · rw [e3]; exact lU
      · by_cases e4 : w = .laysStatic Bundle.tN "SUPPRESSED_SENTINEL" Bundle.listD
        · rw [e4]; exact lN
        · exact h1 w (List.mem_filter.mpr ⟨hw, by unfold vx_no; rw [decide_eq_true e1, decide_eq_true e2, decide_eq_true e3, decide_eq_true e4]; rfl⟩)
/-- where a static field lies, its class's statics cell in H -/
def vx_L (C n d : String) (A : Nat → Prop) (U : State) (H : Heap) : Prop := ∃ (c : ClassId) (k : Class) (i : Nat) (f : Field) (a : Nat) (cell : Cell), U.vm.findClass C = some c ∧ U.fieldFound? C n d = some (c, k, i, f) ∧ f.isStatic = true ∧ k.statics = some a ∧ H[a]? = some cell ∧ cell.vm.isStatics = true ∧ cell.cls = c ∧ f.slot < cell.slots.size ∧ k.staticTypes[f.slot]? = some f.type ∧ ¬ A a
theorem vx_L.moved {C n d : String} {A : Nat → Prop} {u U : State} {H : Heap} (hvm : u.vm.Alike U.vm) (h : vx_L C n d A u H) : vx_L C n d A U H := by
  obtain ⟨c, k, i, f, a, cell, h1, h2, h3, h4, h5, h6, h7, h8, h9, h10⟩ := h
  obtain ⟨k', hi', he⟩ := State.fieldFound?_setVm hvm h2
  exact ⟨c, k', i, f, a, cell, by rw [hvm.findClass]; exact h1, hi', h3, by rw [he]; exact h4, h5, h6, h7, h8, by rw [he]; exact h9, h10⟩
theorem vx_L.kept {C n d : String} {A : Nat → Prop} {U : State} {H H1 : Heap} (h : vx_L C n d A U H) (hq : ∀ a : Nat, a < H.size → ¬ A a → H1[a]? = H[a]?) : vx_L C n d A U H1 := by
  obtain ⟨c, k, i, f, a, cell, h1, h2, h3, h4, h5, h6, h7, h8, h9, h10⟩ := h
  exact ⟨c, k, i, f, a, cell, h1, h2, h3, h4, by rw [hq a (Array.getElem?_eq_some_iff.mp h5).1 h10]; exact h5, h6, h7, h8, h9, h10⟩
theorem vx_L.narrow {C n d : String} {A B : Nat → Prop} {U : State} {H : Heap} (h : vx_L C n d A U H) (hAB : ∀ q, B q → A q) : vx_L C n d B U H := by
  obtain ⟨c, k, i, f, a, cell, h1, h2, h3, h4, h5, h6, h7, h8, h9, h10⟩ := h
  exact ⟨c, k, i, f, a, cell, h1, h2, h3, h4, h5, h6, h7, h8, h9, fun z => h10 (hAB _ z)⟩
theorem vx_L.word {C n d : String} {A : Nat → Prop} {s : State} {args : Array Value} (h : vx_L C n d A s s.heap) : (Cond.laysStatic C n d).before args s = true := by
  obtain ⟨c, k, i, f, a, cell, h1, h2, h3, h4, h5, h6, h7, h8, h9, -⟩ := h
  show (Cond.laysStatic C n d).holds args s none s [] = true
  exact Cond.laysStatic_of h1 h2 h3 h4 h5 h6 h7 h8 h9
/-- .. and what it holds: null or some reference -/
def vx_Zq (C n d : String) (A : Nat → Prop) (U : State) (H : Heap) : Prop := va_Zq C n d A U H ∧ vx_L C n d A U H
theorem vx_Zq.moved {C n d : String} {A : Nat → Prop} {u U : State} {H : Heap} (hvm : u.vm.Alike U.vm) (h : vx_Zq C n d A u H) : vx_Zq C n d A U H := ⟨va_Zq.moved hvm h.1, vx_L.moved hvm h.2⟩
theorem vx_Zq.kept {C n d : String} {A : Nat → Prop} {U : State} {H H1 : Heap} (h : vx_Zq C n d A U H) (hq : ∀ a : Nat, a < H.size → ¬ A a → H1[a]? = H[a]?) : vx_Zq C n d A U H1 := ⟨va_Zq.kept h.1 hq, vx_L.kept h.2 hq⟩
theorem vx_Zq.narrow {C n d : String} {A B : Nat → Prop} {U : State} {H : Heap} (h : vx_Zq C n d A U H) (hAB : ∀ q, B q → A q) : vx_Zq C n d B U H := ⟨va_Zq.narrow h.1 hAB, vx_L.narrow h.2 hAB⟩
theorem vx_Zqof {args : Array Value} {s : State} {C n d : String} {A : Nat → Prop} (hl : (Cond.laysStatic C n d).before args s = true) (hini : (Cond.initialized C).before args s = true) (h : (Cond.isRef (.static C n d)).before args s = true) (hA : ∀ a : Nat, a < s.heap.size → ¬ A a) : vx_Zq C n d A s s.heap := by
  refine ⟨va_Zqof hl hini h hA, ?_⟩
  obtain ⟨c, k, i, f, a, cell, h1, h2, h3, h4, h5, h6, h7, h8, h9⟩ := Cond.laysStatic_spec hl
  exact ⟨c, k, i, f, a, cell, h1, h2, h3, h4, h5, h6, h7, h8, h9, hA a (Array.getElem?_eq_some_iff.mp h5).1⟩
theorem vx_isRef {C n d : String} {v : Value} {A : Nat → Prop} {s : State} {args : Array Value} (h : va_Z C n d v A s s.heap) (hv : v.isRef = true) : (Cond.isRef (.static C n d)).before args s = true := by
  obtain ⟨cf, kf, fi, f, a, cell, h1, h2, h3, h4, h5, h6, h7, -⟩ := h
  have he : (Term.static C n d).eval args s none [] s = some v := by
    simp [Term.eval, State.fieldNamed?, h1, h2, h4, h5, h6, h7]
  simp only [Cond.before, Cond.holds, Cond.value, he]
  cases v <;> simp_all [Value.isRef]
theorem vx_isRefq {C n d : String} {A : Nat → Prop} {s : State} {args : Array Value} (h : va_Zq C n d A s s.heap) : (Cond.isRef (.static C n d)).before args s = true := by
  rcases h with h | ⟨t, h⟩
  · exact vx_isRef h rfl
  · exact vx_isRef h rfl
/-- the same frame, seen from here: as if the method were called anew in this heap -/
theorem vx_rebase {T : State} (X : Stand p l e R s m args below meth c T locs cells slots) {R' : Room} (hf : R'.frames ≤ R.frames) (hl : R'.locals ≤ R.locals) (hc : cells + R'.cells ≤ R.cells) (hs : slots + R'.slots ≤ R.slots) :
    Stand p l e R' ((T.setVm s.vm).setFrames (.invoking m args :: below)) m args below meth c T [] 0 0 := by
  have htop : (T.setVm s.vm).topJava?.isSome := X.here.top
  have hF : ((T.setVm s.vm).setFrames (.invoking m args :: below)).frames = .invoking m args :: below := State.frames_setFrames _ (State.cur_lt_of_top htop)
  obtain ⟨g₀, hg0⟩ := Option.isSome_iff_exists.mp htop
  obtain ⟨r, hr⟩ := State.topJava?_eq_some.mp hg0
  have hl9 : e.platform.stackLimits (T.setVm s.vm).me = e.platform.stackLimits s.me := X.limits
  have hb9 : (T.setVm s.vm).me.stackBytes = s.me.stackBytes := X.bytes
  refine ⟨X.admits, X.cas, X.clock, hF, ?_, X.hears, X.method, X.code, X.here, X.tail, X.warmed, ?_, ?_, ?_⟩
  · have h := X.room
    have hU : ((T.setVm s.vm).setFrames (.invoking m args :: below)).localsInUse = s.localsInUse := by
      rw [State.localsInUse_invoking hF (meth := meth) (c := c) X.method X.code, State.localsInUse_invoking X.frames X.method X.code]
    simp only [State.hasRoom, Bool.and_eq_true, decide_eq_true_eq] at h ⊢
    obtain ⟨⟨⟨⟨h1, h2, h3, h4, h5, h6⟩, h7⟩, h8⟩, h9⟩ := h
    rw [X.frames, List.length_cons] at h2 h3
    have q1 := X.heapSize
    have q2 := X.used
    simp only [hF, hU, List.length_cons, State.stackLimits_setFrames, State.stackBytes_setFrames, hl9, hb9]
    refine ⟨⟨⟨⟨by omega, by omega, by omega, by omega, by omega, h6⟩, ?_⟩, ?_⟩, X.book⟩
    · show T.heap.size + R'.cells ≤ e.platform.maxCells
      omega
    · show T.slotsUsed + R'.slots ≤ e.platform.maxSlots
      omega
  · rw [State.stackLimits_setFrames]; rfl
  · rw [State.stackBytes_setFrames]; rfl
  · refine ⟨?_, Nat.le_refl _, Nat.le_refl _, ?_, ?_, fun a c9 h9 => ⟨c9, h9, rfl, rfl, fun _ _ => rfl⟩⟩
    · obtain ⟨t, ht, -⟩ := State.frames_cons hr
      show T.setVm s.vm = { ((T.setVm s.vm).setFrames (.invoking m args :: below)).setFrames (T.setVm s.vm).frames with heap := T.heap, slotsUsed := T.slotsUsed }
      rw [State.setFrames_setFrames, State.setFrames_self ht]
      rfl
    · show T.slotsUsed = T.slotsUsed + ((T.heap.toList.drop T.heap.size).map (·.slots.size)).sum
      rw [List.drop_eq_nil_of_le (Nat.le_of_eq Array.length_toList)]
      rfl
    · show ((T.heap.toList.drop T.heap.size).map (·.slots.size)).sum ≤ 0
      rw [List.drop_eq_nil_of_le (Nat.le_of_eq Array.length_toList)]
      exact Nat.le_refl _
/-- 'throw new E()': new; dup; invokespecial; athrow -/
theorem vx_throw0 {cc : ByteArray} {pc : Nat} (hexec : p.tables.exec = Jvm.exec) (hb : c.code = cc) (hl : l.stackTraces = false) {own cls : String} {names : List String} {ik ic mc ms : Nat} {A : Nat → Prop}
    (hown : s.vm.findClass own = some m.cls) (hcls : Bundle.fit cls = true) (hnames : ∀ n ∈ names, Bundle.fit n = true)
    (hk : (Cond.classLink own ik cls).before args s = true) (hini : (Cond.initialized cls).before args s = true) (hat : ∀ w ∈ vx_at0 own ic cls names, w.before args s = true)
    (hgood : ∀ w ∈ Cond.classLink own ik cls :: Cond.initialized cls :: vx_at0 own ic cls names, vx_ot w = true)
    (hU : vx_Zq Bundle.tN "UNASSIGNED_STACK" Bundle.steD A s s.heap) (hN : vx_Zq Bundle.tN "SUPPRESSED_SENTINEL" Bundle.listD A s s.heap) (hS : va_S A s.heap H locs) (hsize : ls.size = c.maxLocals)
    (d0 : decode cc pc = .ok (.new ik, 3)) (d3 : decode cc (pc + 3) = .ok (.dup, 1)) (d4 : decode cc (pc + 4) = .ok (.invokespecial ic, 3)) (d7 : decode cc (pc + 7) = .ok (.athrow, 1))
    (hout : ∀ x ∈ c.exceptionTable.toList, covers x (pc + 7) = false)
    (hRframes : names.length + 3 < R.frames) (hRlocals : (rest.map fun v => v.category).sum + (13 * (names.length + 1) + 42) ≤ R.locals) (hRcells : cells + 1 ≤ R.cells) (hRslots : slots + 6 ≤ R.slots) (hlocks : meth.locks = false)
    (hx : ∀ t : State, s.vm.Alike t.vm → H.size ≤ t.heap.size → (∀ q : Nat, q < H.size → t.heap[q]? = H[q]?) → XC cls s t)
    (hf : ∀ z ∈ locs, free z.base) (hc : cells + 1 ≤ mc) (hs : slots + 6 ≤ ms) :
    W p l e R s m args below meth c H locs cells slots (vx_MQ below Qc XC args s mc ms free) (F0 m pc ls rest) := by
  intro T hT X
  have htr : e.platform.stackTraces = false := (show e.platform.stackTraces = l.stackTraces by rw [X.admits.platform]).trans hl
  have Y := vx_rebase X (R' := { frames := R.frames, locals := R.locals, cells := 1, slots := 6 }) (Nat.le_refl _) (Nat.le_refl _) hRcells hRslots
  obtain ⟨s', hA⟩ : ∃ z, z = (T.setVm s.vm).setFrames (.invoking m args :: below) := ⟨_, rfl⟩
  rw [← hA] at Y
  have hvm : s'.vm = s.vm := by rw [hA]; rfl
  have hhp : s'.heap = H := by rw [hA]; exact hT
  have hW0 : s.WarmedH s'.vm := by rw [hvm]; exact State.WarmedH.refl s
  have hat' : ∀ w ∈ vx_at0 own ic cls names, w.before args s' = true := fun w hw => vx_ot_at hW0 hvm.symm (hgood w (List.mem_cons_of_mem _ (List.mem_cons_of_mem _ hw))) (hat w hw)
  have hk' : (Cond.classLink own ik cls).before args s' = true := vx_ot_at hW0 hvm.symm (hgood _ List.mem_cons_self) hk
  have hini' : (Cond.initialized cls).before args s' = true := vx_ot_at hW0 hvm.symm (hgood _ (List.mem_cons_of_mem _ List.mem_cons_self)) hini
  have hU' : vx_Zq Bundle.tN "UNASSIGNED_STACK" Bundle.steD A s' s'.heap := by rw [hhp]; exact vx_Zq.moved hW0.alike (hU.kept hS.2.1)
  have hN' : vx_Zq Bundle.tN "SUPPRESSED_SENTINEL" Bundle.listD A s' s'.heap := by rw [hhp]; exact vx_Zq.moved hW0.alike (hN.kept hS.2.1)
  have h : ∀ w ∈ Bundle.ownAtoms0 own ic cls names, w.before args s' = true := vx_own hat' (vx_isRefq hU'.1) (vx_isRefq hN'.1) hU'.2.word hN'.2.word
  have hown' : s'.vm.findClass own = some m.cls := by rw [hvm]; exact hown
  have hins : (Cond.instantiable cls 6).before args s' = true := h _ (by simp [Bundle.ownAtoms0])
  obtain ⟨vm₁, cX, kX, hfX, hkX, -, -, X₁, st1⟩ := Y.newCold hexec (own := own) (C := cls) (index := ik) (n := 6) hown' hk' hins hini'
    (g := F0 m pc ls rest) rfl (by rw [hb]; exact d0) (Nat.le_refl _) (Nat.le_refl _)
  generalize hT1 : (T.setVm vm₁).pushCell { cls := cX, slots := kX.instanceTypes.map defaultValue, vm := .none } = T1 at X₁ st1
  have hcat : (Value.ref T.heap.size).category = 1 := rfl
  have hcellA : T1.heap[T.heap.size]? = some (freshCell cX kX) := by rw [← hT1]; exact State.heap_pushCell_size _ _
  have d3' : decode c.code (pc + 3) = .ok (.dup, 1) := by rw [hb]; exact d3
  obtain ⟨U, hsteps, hrun, hend, hW, hsame, ce, hce, hO⟩ := X₁.ctorThrow0 hexec htr (own := own) (cls := cls) (names := names) (ic := ic) hown' hcls hnames h (fun x hx => nomatch hx) hfX hkX hcellA (by rw [hhp, hT]; exact Nat.le_refl _)
    (g := { method := m, pc := pc + 4, locals := ls, stack := .ref T.heap.size :: .ref T.heap.size :: rest, locked := none }) rfl hsize rfl rfl (rest := rest) rfl
    (by rw [hb]; exact d4) (by rw [hb]; exact d7) hout hRframes (by simp only [List.map_cons, List.sum_cons, hcat]; omega) hlocks
  obtain ⟨f1, f2⟩ := vx_frame hsame
  rw [hhp] at f1 f2
  have hWs : s.WarmedH U.vm := State.WarmedH.trans hW0 hW
  have hcl : s.vm.findClass cls = some ce.cls := by
    have h9 := hO.cls
    rw [hvm] at h9
    exact h9
  have hall : s.sameButNew ({ U with vm := s.vm } : State) locs mc ms := by
    subst hA
    obtain ⟨e1, e2⟩ := hsame
    rw [State.setFrames_setFrames] at e1
    have h2 : (T.setVm s.vm).sameButNew ({ U with vm := s.vm } : State) [] (0 + 1) (0 + 6) := ⟨e1, e2⟩
    have h3 := X.same.trans h2
    rw [List.append_nil] at h3
    exact h3.mono hc hs
  refine ⟨U, ?_, .threw T.heap.size, hrun, hend, Or.inr ⟨T.heap.size, rfl, cls, ce, locs, hx U hWs.alike f1 (fun q hq => f2 q hq (fun z hz => nomatch hz)), hce, hO.vm, hcl, hWs, hall, hf⟩⟩
  refine st1 _ ?_
  show Steps p.tables e below (T1.setTop { method := m, pc := pc + 3, locals := ls, stack := .ref T.heap.size :: rest, locked := none }) _
  jvm_step X₁.here [X₁.here.top, hexec, d3', Value.category]
  exact hsteps
/-- 'throw new E("text")': new; dup; ldc; invokespecial; athrow -/
theorem vx_throwS {cc : ByteArray} {pc : Nat} (hexec : p.tables.exec = Jvm.exec) (hb : c.code = cc) (hl : l.stackTraces = false) {own cls text : String} {names : List String} {ik is ic mc ms sa : Nat} {A : Nat → Prop}
    (hown : s.vm.findClass own = some m.cls) (hcls : Bundle.fit cls = true) (hnames : ∀ n ∈ names, Bundle.fit n = true)
    (hk : (Cond.classLink own ik cls).before args s = true) (hini : (Cond.initialized cls).before args s = true) (hstr : vk_R own is text sa s) (hat : ∀ w ∈ vx_atS own ic cls names, w.before args s = true)
    (hgood : ∀ w ∈ Cond.classLink own ik cls :: Cond.initialized cls :: vx_atS own ic cls names, vx_ot w = true)
    (hU : vx_Zq Bundle.tN "UNASSIGNED_STACK" Bundle.steD A s s.heap) (hN : vx_Zq Bundle.tN "SUPPRESSED_SENTINEL" Bundle.listD A s s.heap) (hS : va_S A s.heap H locs) (hsize : ls.size = c.maxLocals)
    (d0 : decode cc pc = .ok (.new ik, 3)) (d3 : decode cc (pc + 3) = .ok (.dup, 1)) (d4 : decode cc (pc + 4) = .ok (.ldc is, 2)) (d6 : decode cc (pc + 6) = .ok (.invokespecial ic, 3)) (d9 : decode cc (pc + 9) = .ok (.athrow, 1))
    (hout : ∀ x ∈ c.exceptionTable.toList, covers x (pc + 9) = false)
    (hRframes : names.length + 3 < R.frames) (hRlocals : (rest.map fun v => v.category).sum + (13 * (names.length + 1) + 43) ≤ R.locals) (hRcells : cells + 1 ≤ R.cells) (hRslots : slots + 6 ≤ R.slots) (hlocks : meth.locks = false)
    (hx : ∀ t : State, s.vm.Alike t.vm → H.size ≤ t.heap.size → (∀ q : Nat, q < H.size → t.heap[q]? = H[q]?) → XC cls s t)
    (hf : ∀ z ∈ locs, free z.base) (hc : cells + 1 ≤ mc) (hs : slots + 6 ≤ ms) :
    W p l e R s m args below meth c H locs cells slots (vx_MQ below Qc XC args s mc ms free) (F0 m pc ls rest) := by
  intro T hT X
  have htr : e.platform.stackTraces = false := (show e.platform.stackTraces = l.stackTraces by rw [X.admits.platform]).trans hl
  have Y := vx_rebase X (R' := { frames := R.frames, locals := R.locals, cells := 1, slots := 6 }) (Nat.le_refl _) (Nat.le_refl _) hRcells hRslots
  obtain ⟨s', hA⟩ : ∃ z, z = (T.setVm s.vm).setFrames (.invoking m args :: below) := ⟨_, rfl⟩
  rw [← hA] at Y
  have hvm : s'.vm = s.vm := by rw [hA]; rfl
  have hhp : s'.heap = H := by rw [hA]; exact hT
  have hW0 : s.WarmedH s'.vm := by rw [hvm]; exact State.WarmedH.refl s
  have hat' : ∀ w ∈ vx_atS own ic cls names, w.before args s' = true := fun w hw => vx_ot_at hW0 hvm.symm (hgood w (List.mem_cons_of_mem _ (List.mem_cons_of_mem _ hw))) (hat w hw)
  have hk' : (Cond.classLink own ik cls).before args s' = true := vx_ot_at hW0 hvm.symm (hgood _ List.mem_cons_self) hk
  have hini' : (Cond.initialized cls).before args s' = true := vx_ot_at hW0 hvm.symm (hgood _ (List.mem_cons_of_mem _ List.mem_cons_self)) hini
  have hU' : vx_Zq Bundle.tN "UNASSIGNED_STACK" Bundle.steD A s' s'.heap := by rw [hhp]; exact vx_Zq.moved hW0.alike (hU.kept hS.2.1)
  have hN' : vx_Zq Bundle.tN "SUPPRESSED_SENTINEL" Bundle.listD A s' s'.heap := by rw [hhp]; exact vx_Zq.moved hW0.alike (hN.kept hS.2.1)
  have h : ∀ w ∈ Bundle.ownAtoms own ic cls names, w.before args s' = true := vx_own hat' (vx_isRefq hU'.1) (vx_isRefq hN'.1) hU'.2.word hN'.2.word
  have hown' : s'.vm.findClass own = some m.cls := by rw [hvm]; exact hown
  have hins : (Cond.instantiable cls 6).before args s' = true := h _ (by simp [Bundle.ownAtoms])
  obtain ⟨vm₁, cX, kX, hfX, hkX, -, -, X₁, st1⟩ := Y.newCold hexec (own := own) (C := cls) (index := ik) (n := 6) hown' hk' hins hini'
    (g := F0 m pc ls rest) rfl (by rw [hb]; exact d0) (Nat.le_refl _) (Nat.le_refl _)
  generalize hT1 : (T.setVm vm₁).pushCell { cls := cX, slots := kX.instanceTypes.map defaultValue, vm := .none } = T1 at X₁ st1
  have hcat : (Value.ref T.heap.size).category = 1 := rfl
  have hcellA : T1.heap[T.heap.size]? = some (freshCell cX kX) := by rw [← hT1]; exact State.heap_pushCell_size _ _
  have d3' : decode c.code (pc + 3) = .ok (.dup, 1) := by rw [hb]; exact d3
  have d4' : decode c.code (pc + 4) = .ok (.ldc is, 2) := by rw [hb]; exact d4
  have hstr' : vk_R own is text sa s' := vk_R.warm hW0 hstr
  obtain ⟨U, hsteps, hrun, hend, hW, hsame, ce, hce, hO⟩ := X₁.ctorThrowS hexec htr (own := own) (cls := cls) (names := names) (ic := ic) hown' hcls hnames h (fun x hx => nomatch hx) hfX hkX hcellA (by rw [hhp, hT]; exact Nat.le_refl _) (msg := .ref sa) rfl
    (g := { method := m, pc := pc + 6, locals := ls, stack := .ref sa :: .ref T.heap.size :: .ref T.heap.size :: rest, locked := none }) rfl hsize rfl rfl (rest := rest) rfl
    (by rw [hb]; exact d6) (by rw [hb]; exact d9) hout hRframes (by simp only [List.map_cons, List.sum_cons, hcat]; omega) hlocks
  obtain ⟨f1, f2⟩ := vx_frame hsame
  rw [hhp] at f1 f2
  have hWs : s.WarmedH U.vm := State.WarmedH.trans hW0 hW
  have hcl : s.vm.findClass cls = some ce.cls := by
    have h9 := hO.cls
    rw [hvm] at h9
    exact h9
  have hall : s.sameButNew ({ U with vm := s.vm } : State) locs mc ms := by
    subst hA
    obtain ⟨e1, e2⟩ := hsame
    rw [State.setFrames_setFrames] at e1
    have h2 : (T.setVm s.vm).sameButNew ({ U with vm := s.vm } : State) [] (0 + 1) (0 + 6) := ⟨e1, e2⟩
    have h3 := X.same.trans h2
    rw [List.append_nil] at h3
    exact h3.mono hc hs
  refine ⟨U, ?_, .threw T.heap.size, hrun, hend, Or.inr ⟨T.heap.size, rfl, cls, ce, locs, hx U hWs.alike f1 (fun q hq => f2 q hq (fun z hz => nomatch hz)), hce, hO.vm, hcl, hWs, hall, hf⟩⟩
  refine st1 _ ?_
  show Steps p.tables e below (T1.setTop { method := m, pc := pc + 3, locals := ls, stack := .ref T.heap.size :: rest, locked := none }) _
  jvm_step X₁.here [X₁.here.top, hexec, d3', Value.category]
  exact X₁.ldcString hexec (own := own) (text := text) (index := is) (a := sa) hown' hstr'.1 hstr'.2
    (g := { method := m, pc := pc + 4, locals := ls, stack := .ref T.heap.size :: .ref T.heap.size :: rest, locked := none }) rfl d4' _ hsteps
/-- 'throw new E("text")', the text by a wide index -/
theorem vx_throwSW {cc : ByteArray} {pc : Nat} (hexec : p.tables.exec = Jvm.exec) (hb : c.code = cc) (hl : l.stackTraces = false) {own cls text : String} {names : List String} {ik is ic mc ms sa : Nat} {A : Nat → Prop}
    (hown : s.vm.findClass own = some m.cls) (hcls : Bundle.fit cls = true) (hnames : ∀ n ∈ names, Bundle.fit n = true)
    (hk : (Cond.classLink own ik cls).before args s = true) (hini : (Cond.initialized cls).before args s = true) (hstr : vk_R own is text sa s) (hat : ∀ w ∈ vx_atS own ic cls names, w.before args s = true)
    (hgood : ∀ w ∈ Cond.classLink own ik cls :: Cond.initialized cls :: vx_atS own ic cls names, vx_ot w = true)
    (hU : vx_Zq Bundle.tN "UNASSIGNED_STACK" Bundle.steD A s s.heap) (hN : vx_Zq Bundle.tN "SUPPRESSED_SENTINEL" Bundle.listD A s s.heap) (hS : va_S A s.heap H locs) (hsize : ls.size = c.maxLocals)
    (d0 : decode cc pc = .ok (.new ik, 3)) (d3 : decode cc (pc + 3) = .ok (.dup, 1)) (d4 : decode cc (pc + 4) = .ok (.ldc_w is, 3)) (d7 : decode cc (pc + 7) = .ok (.invokespecial ic, 3)) (d10 : decode cc (pc + 10) = .ok (.athrow, 1))
    (hout : ∀ x ∈ c.exceptionTable.toList, covers x (pc + 10) = false)
    (hRframes : names.length + 3 < R.frames) (hRlocals : (rest.map fun v => v.category).sum + (13 * (names.length + 1) + 43) ≤ R.locals) (hRcells : cells + 1 ≤ R.cells) (hRslots : slots + 6 ≤ R.slots) (hlocks : meth.locks = false)
    (hx : ∀ t : State, s.vm.Alike t.vm → H.size ≤ t.heap.size → (∀ q : Nat, q < H.size → t.heap[q]? = H[q]?) → XC cls s t)
    (hf : ∀ z ∈ locs, free z.base) (hc : cells + 1 ≤ mc) (hs : slots + 6 ≤ ms) :
    W p l e R s m args below meth c H locs cells slots (vx_MQ below Qc XC args s mc ms free) (F0 m pc ls rest) := by
  intro T hT X
  have htr : e.platform.stackTraces = false := (show e.platform.stackTraces = l.stackTraces by rw [X.admits.platform]).trans hl
  have Y := vx_rebase X (R' := { frames := R.frames, locals := R.locals, cells := 1, slots := 6 }) (Nat.le_refl _) (Nat.le_refl _) hRcells hRslots
  obtain ⟨s', hA⟩ : ∃ z, z = (T.setVm s.vm).setFrames (.invoking m args :: below) := ⟨_, rfl⟩
  rw [← hA] at Y
  have hvm : s'.vm = s.vm := by rw [hA]; rfl
  have hhp : s'.heap = H := by rw [hA]; exact hT
  have hW0 : s.WarmedH s'.vm := by rw [hvm]; exact State.WarmedH.refl s
  have hat' : ∀ w ∈ vx_atS own ic cls names, w.before args s' = true := fun w hw => vx_ot_at hW0 hvm.symm (hgood w (List.mem_cons_of_mem _ (List.mem_cons_of_mem _ hw))) (hat w hw)
  have hk' : (Cond.classLink own ik cls).before args s' = true := vx_ot_at hW0 hvm.symm (hgood _ List.mem_cons_self) hk
  have hini' : (Cond.initialized cls).before args s' = true := vx_ot_at hW0 hvm.symm (hgood _ (List.mem_cons_of_mem _ List.mem_cons_self)) hini
  have hU' : vx_Zq Bundle.tN "UNASSIGNED_STACK" Bundle.steD A s' s'.heap := by rw [hhp]; exact vx_Zq.moved hW0.alike (hU.kept hS.2.1)
  have hN' : vx_Zq Bundle.tN "SUPPRESSED_SENTINEL" Bundle.listD A s' s'.heap := by rw [hhp]; exact vx_Zq.moved hW0.alike (hN.kept hS.2.1)
  have h : ∀ w ∈ Bundle.ownAtoms own ic cls names, w.before args s' = true := vx_own hat' (vx_isRefq hU'.1) (vx_isRefq hN'.1) hU'.2.word hN'.2.word
  have hown' : s'.vm.findClass own = some m.cls := by rw [hvm]; exact hown
  have hins : (Cond.instantiable cls 6).before args s' = true := h _ (by simp [Bundle.ownAtoms])
  obtain ⟨vm₁, cX, kX, hfX, hkX, -, -, X₁, st1⟩ := Y.newCold hexec (own := own) (C := cls) (index := ik) (n := 6) hown' hk' hins hini'
    (g := F0 m pc ls rest) rfl (by rw [hb]; exact d0) (Nat.le_refl _) (Nat.le_refl _)
  generalize hT1 : (T.setVm vm₁).pushCell { cls := cX, slots := kX.instanceTypes.map defaultValue, vm := .none } = T1 at X₁ st1
  have hcat : (Value.ref T.heap.size).category = 1 := rfl
  have hcellA : T1.heap[T.heap.size]? = some (freshCell cX kX) := by rw [← hT1]; exact State.heap_pushCell_size _ _
  have d3' : decode c.code (pc + 3) = .ok (.dup, 1) := by rw [hb]; exact d3
  have d4' : decode c.code (pc + 4) = .ok (.ldc_w is, 3) := by rw [hb]; exact d4
  have hstr' : vk_R own is text sa s' := vk_R.warm hW0 hstr
  obtain ⟨U, hsteps, hrun, hend, hW, hsame, ce, hce, hO⟩ := X₁.ctorThrowS hexec htr (own := own) (cls := cls) (names := names) (ic := ic) hown' hcls hnames h (fun x hx => nomatch hx) hfX hkX hcellA (by rw [hhp, hT]; exact Nat.le_refl _) (msg := .ref sa) rfl
    (g := { method := m, pc := pc + 7, locals := ls, stack := .ref sa :: .ref T.heap.size :: .ref T.heap.size :: rest, locked := none }) rfl hsize rfl rfl (rest := rest) rfl
    (by rw [hb]; exact d7) (by rw [hb]; exact d10) hout hRframes (by simp only [List.map_cons, List.sum_cons, hcat]; omega) hlocks
  obtain ⟨f1, f2⟩ := vx_frame hsame
  rw [hhp] at f1 f2
  have hWs : s.WarmedH U.vm := State.WarmedH.trans hW0 hW
  have hcl : s.vm.findClass cls = some ce.cls := by
    have h9 := hO.cls
    rw [hvm] at h9
    exact h9
  have hall : s.sameButNew ({ U with vm := s.vm } : State) locs mc ms := by
    subst hA
    obtain ⟨e1, e2⟩ := hsame
    rw [State.setFrames_setFrames] at e1
    have h2 : (T.setVm s.vm).sameButNew ({ U with vm := s.vm } : State) [] (0 + 1) (0 + 6) := ⟨e1, e2⟩
    have h3 := X.same.trans h2
    rw [List.append_nil] at h3
    exact h3.mono hc hs
  refine ⟨U, ?_, .threw T.heap.size, hrun, hend, Or.inr ⟨T.heap.size, rfl, cls, ce, locs, hx U hWs.alike f1 (fun q hq => f2 q hq (fun z hz => nomatch hz)), hce, hO.vm, hcl, hWs, hall, hf⟩⟩
  refine st1 _ ?_
  show Steps p.tables e below (T1.setTop { method := m, pc := pc + 3, locals := ls, stack := .ref T.heap.size :: rest, locked := none }) _
  jvm_step X₁.here [X₁.here.top, hexec, d3', Value.category]
  exact X₁.ldcStringW hexec (own := own) (text := text) (index := is) (a := sa) hown' hstr'.1 hstr'.2
    (g := { method := m, pc := pc + 4, locals := ls, stack := .ref T.heap.size :: .ref T.heap.size :: rest, locked := none }) rfl d4' _ hsteps
end Ends
section Bodies
variable {l : Launch}
theorem vx_ofW {y : MethodName} {ws ws' : List Cond} {rm : Room} {Pc : Array Value → State → Prop} {Qc : Array Value → State → Outcome → State → Prop} {XC : String → State → State → Prop} {mc ms : Nat} {free : Addr → Prop} {cc : ByteArray} {maxL : Nat} {ret : Option FieldType}
    (hy : plainName y.cls = true) (hw : ws = Cond.code y cc maxL ret :: ws')
    (body : ∀ p e s m args below meth c s₁, BodyLoose p l y (headSpec ws rm) cc maxL ret e s m args below meth c s₁ → c.maxLocals = maxL → (∀ x ∈ c.exceptionTable.toList, False) → Pc args s →
      W p l e (headSpec ws rm).room s m args below meth c s.heap [] 0 0 (vx_MQ below Qc XC args s mc ms free) (entryFrame m args maxL)) : vx_Met l y ws rm Pc Qc XC mc ms free := by
  refine MetFree.of_bodyS (code := cc) (maxLocals := maxL) (ret := ret) hy ?_ ?_
  · intro args s m h hn
    obtain ⟨meth, c, h1, h2, h3, h4, h5, h6, -, -⟩ := Cond.code_spec hn (atoms_spec (ws := ws) h _ (by rw [hw]; exact List.mem_cons_self))
    exact ⟨meth, c, h1, h2, h3, h4, h5, h6⟩
  · intro p e s m args below meth c s₁ B hml hP _
    have hh0 : s₁.heap = s.heap := by rw [B.state]; rfl
    have ht : ∀ x ∈ c.exceptionTable.toList, False := by
      obtain ⟨meth9, c9, h1, h2, -, -, -, -, h7, -⟩ := Cond.code_spec B.named (atoms_spec (ws := ws) B.pre _ (by rw [hw]; exact List.mem_cons_self))
      cases Option.some.inj (h1.symm.trans B.method)
      cases Option.some.inj (h2.symm.trans (Stand.of_body B).code)
      intro x hx
      rw [Array.isEmpty_iff.mp h7] at hx
      cases hx
    obtain ⟨t, a1, o, b1, b2, b3⟩ := body p e s m args below meth c s₁ B hml ht hP s₁ hh0 (Stand.of_body B)
    exact ⟨t, o, a1, b1, b2, b3⟩
/-- the table of a body with handlers -/
theorem vx_table {p : Program} {x y : MethodName} {S : Spec} {cc bytes : ByteArray} {maxL maxL' : Nat} {ret ret' : Option FieldType} {e : Env} {s s₁ : State} {m : MethodId} {args : Array Value} {below : List Frame} {meth : Method} {c : Code} {hh : List (Nat × Nat × Nat × Nat)}
    (B : BodyLoose p l y S cc maxL ret e s m args below meth c s₁) (h : (Cond.codeWith y bytes maxL' ret' hh).before args s = true) : c.exceptionTable.toList = tableOf hh := by
  obtain ⟨m9, meth9, c9, hn9, h1, h2, -, -, h6, -⟩ := Cond.codeWith_spec h
  cases Option.some.inj (hn9.symm.trans B.named)
  cases Option.some.inj (h1.symm.trans B.method)
  cases Option.some.inj (h2.symm.trans (Stand.of_body B).code)
  rw [← h6, table_eq]
end Bodies
end VXA
/-! ===== END ===== -/
/-! ===== BEGIN a static call of a method with an exception table ===== -/
section VXS
variable {p : Program} {l : Launch} {e : Env} {R : Room} {s : State} {m : MethodId} {args : Array Value} {below : List Frame} {meth : Method} {c : Code} {T : State} {H : Heap} {locs : List Loc} {cells slots : Nat}
abbrev vx_CSW (R : Room) (s : State) (args : Array Value) (own : String) (index : Nat) (y : MethodName) (bytes : ByteArray) (maxL : Nat) (ret : Option FieldType) (hh : List (Nat × Nat × Nat × Nat)) (ws : List Cond) (rm : Room) (mc ms n : Nat) : Prop :=
  (rm.cells = mc ∧ rm.slots = ms ∧ rm.frames + 1 ≤ R.frames ∧ 8 + (maxL + 11) + rm.locals ≤ R.locals ∧ (∀ w ∈ ws, ∀ (a' : Array Value) (U : State), s.WarmedH U.vm → w.before a' U = true) ∧ Cond.codeWith y bytes maxL ret hh ∈ ws) ∧
  (Cond.codeWith y bytes maxL ret hh).before args s = true ∧ (Cond.initialized y.cls).before args s = true ∧ (y.cls ≠ "java/lang/invoke/MethodHandle" ∧ y.cls ≠ "java/lang/invoke/VarHandle") ∧
  (∀ sig, parseMethodDescriptor y.desc = some sig → n = sig.parameters.length) ∧ (Cond.methodLink own index y).before args s = true ∧ (Cond.static y).before args s = true
theorem vx_cwSW {own : String} {index maxL mc ms : Nat} {y : MethodName} {bytes : ByteArray} {ret : Option FieldType} {hh : List (Nat × Nat × Nat × Nat)} {Ts ws ws' : List Cond} {rm : Room} (n : Nat) (ht : ∀ w ∈ Ts, w.before args s = true) (hT : GoodIn Ts (va_wsS own index y ws)) (hw : ws = Cond.codeWith y bytes maxL ret hh :: ws') (hrc : rm.cells = mc) (hrs : rm.slots = ms)
    (hd : y.cls ≠ "java/lang/invoke/MethodHandle" ∧ y.cls ≠ "java/lang/invoke/VarHandle" ∧ (parseMethodDescriptor y.desc).map (fun d => d.parameters.length) = some n) (hR : rm.frames + 1 ≤ R.frames ∧ 8 + (maxL + 11) + rm.locals ≤ R.locals) :
    vx_CSW R s args own index y bytes maxL ret hh ws rm mc ms n := by
  have ok : ∀ w ∈ va_wsS own index y ws, w.before args s = true := fun w h => ht w (hT w h).1
  have hG : GoodIn Ts ws := fun w h => hT w (by unfold va_wsS; exact List.mem_append_right _ h)
  have hc : Cond.codeWith y bytes maxL ret hh ∈ ws := by rw [hw]; exact List.mem_cons_self
  refine ⟨⟨hrc, hrs, hR.1, hR.2, pay_in ht hG, hc⟩, ht _ (hG _ hc).1, ok _ (by simp [va_wsS]), ⟨hd.1, hd.2.1⟩, fun sig h => ?_, ok _ (by simp [va_wsS]), ok _ (by simp [va_wsS])⟩
  have h2 := hd.2.2
  rw [h] at h2
  exact (Option.some.inj h2).symm
theorem vx_callSW (X : Stand p l e R s m args below meth c T locs cells slots) (hexec : p.tables.exec = Jvm.exec) {own : String} {index : Nat} {y : MethodName} {bytes : ByteArray} {maxL : Nat} {ret : Option FieldType} {hh : List (Nat × Nat × Nat × Nat)}
    (hown : s.vm.findClass own = some m.cls) (hlink : (Cond.methodLink own index y).before args s = true) (hstat : (Cond.static y).before args s = true) (hinit : (Cond.initialized y.cls).before args s = true)
    (hcode : (Cond.codeWith y bytes maxL ret hh).before args s = true) (hy : y.cls ≠ "java/lang/invoke/MethodHandle" ∧ y.cls ≠ "java/lang/invoke/VarHandle")
    {W9 : Nat} {Pre : Pt → Array Value → Prop} {Post : Pt → Array Value → Option Value → Pt → Prop} (hK : Back l R p e below s args y 3 W9 Pre Post)
    {g : JFrame} (hg : g.method = m) (hsize : g.locals.size = c.maxLocals) {argsL rest : List Value} (hlen : ∀ sig, parseMethodDescriptor y.desc = some sig → argsL.length = sig.parameters.length)
    (hstack : g.stack = argsL.reverse ++ rest) (hW : 2 * g.monitorRoom + (rest.map fun v => v.category).sum ≤ W9) (hdg : decode c.code g.pc = .ok (.invokestatic index, 3))
    (hpre : ∀ vm₁, s.WarmedH vm₁ → Pre ⟨T.setVm vm₁, locs, cells, slots⟩ argsL.toArray) :
    ∃ (v : Option Value) (vm₁ : Vm) (B : Pt), s.WarmedH vm₁ ∧ Stand p l e R s m args below meth c B.U B.locs B.cells B.slots ∧ Post ⟨T.setVm vm₁, locs, cells, slots⟩ argsL.toArray v B ∧
      ∀ target, Steps p.tables e below (B.U.setTop { g with pc := g.pc + 3, stack := v.toList ++ rest }) target → Steps p.tables e below (T.setTop g) target := by
  obtain ⟨mk, methM, cM, hnamed, hmethM, -, -, -, -, -, -, hsigM⟩ := Cond.codeWith_spec hcode
  have hstatic : methM.isStatic = true := Cond.static_spec hnamed hmethM hstat
  obtain ⟨kP, hkP, -⟩ := className_of_methodNamed hnamed
  have hinitP : kP.init = .initialized := Cond.initialized_spec (findClass_of_methodNamed hnamed) hkP hinit
  obtain ⟨vm₁, X₁, hstep₁⟩ := X.invokestatic hexec hown hlink hnamed hmethM hstatic hkP hinitP hy (g := g) hg (argsL := argsL) (rest := rest) (hlen _ hsigM) hstack hdg
  obtain ⟨v, B, X', hpost, hsteps⟩ := hK m meth c ⟨T.setVm vm₁, locs, cells, slots⟩ { g with stack := rest } (.invokestatic index) mk argsL.toArray X₁ hg hsize hdg hW (X₁.named hnamed) (hpre vm₁ X₁.warmed)
  exact ⟨v, vm₁, B, X₁.warmed, X', hpost, fun target h => hstep₁ _ fun acts => by rw [doInvoke_state]; exact hsteps.trans h⟩
theorem vx_runSW {y : MethodName} {bytes cc : ByteArray} {maxL nL mc ms n index : Nat} {ret : Option FieldType} {hh : List (Nat × Nat × Nat × Nat)} {ws : List Cond} {rm : Room} {Pc : Array Value → State → Prop} {Qc : Array Value → State → Outcome → State → Prop} {free : Addr → Prop} {Ts : List Cond} {own : String} {As rest : List Value} {g : JFrame}
    (S : CallFix p m c cc nL s args Ts own) (hM : Met l y ws rm Pc Qc mc ms free) (cw : vx_CSW R s args own index y bytes maxL ret hh ws rm mc ms n) (hp : PreS s H Pc As)
    (hg : g.method = m) (hn : As.length = n) (hsize : g.locals.size = nL) (hstack : g.stack = As.reverse ++ rest) (hW : 2 * g.monitorRoom + (rest.map fun v => v.category).sum ≤ 8) (hdg : decode cc g.pc = .ok (.invokestatic index, 3)) (hf : cells + mc ≤ R.cells ∧ slots + ms ≤ R.slots) :
    va_Run p l e R s m args below meth c H locs cells slots mc ms g rest (Qc As.toArray) (free) := by
  obtain ⟨⟨hrc, hrs, hfr, hlo, hws, hcw⟩, hcode, hini, hy, hlen, hl, hstt⟩ := cw
  have hK : Back l R p e below s args y 3 8 (PreOf R mc ms Pc) (PostOf Qc mc ms free) := va_backW (hh := hh) (bytes := bytes) (maxL := maxL) (ret := ret) hM hp.1 hrc hrs hfr hlo hws hcw (fun a' U hW => word_at hW (Or.inl (by first | rfl | simp [Cond.onTables, Cond.keeps, Cond.steady])) hini)
  obtain ⟨hx, hb, hml, ho, -⟩ := S
  intro T hT X
  obtain ⟨v, vm₁, ⟨U', l2, c2, s2⟩, hW₁, X', ⟨g', mk, t, L, e1, e2, hq, h1, hL, h2, h3⟩, st⟩ := vx_callSW X hx (hh := hh) (bytes := bytes) (maxL := maxL) (ret := ret) ho hl hstt hini hcode hy hK hg (hsize.trans hml.symm) (argsL := As) (rest := rest) (fun sig h => hn.trans (hlen sig h)) hstack hW (by rw [hb]; exact hdg)
    (fun vm₁ hW₁ => ⟨hf.1, hf.2, hp.2 (T.setVm vm₁) hT hW₁⟩)
  dsimp only [Pt.U, Pt.locs, Pt.cells, Pt.slots] at X' e1 e2 h1 h2 h3 st
  subst h1; subst h2; subst h3
  exact ⟨v, (T.setVm vm₁).calling g' mk As.toArray, t, U', L, hT, X', hL, e1, e2, hq, st⟩
/-- not caught here, past rows that name other classes: it goes on to the caller -/
theorem vx_outP {p : Program} {l : Launch} {e : Env} {R : Room} {s : State} {m : MethodId} {args : Array Value} {below : List Frame} {meth : Method} {c : Code} {H : Heap} {locs : List Loc} {cells slots : Nat} {free : Addr → Prop} {ls : Array Slot} {rest : List Value} {Qc : Array Value → State → Outcome → State → Prop} {XC : String → State → State → Prop}
    {pc : Nat} {own E : String} {ce : Cell} {q : Addr} {mc ms : Nat} (hown : s.vm.findClass own = some m.cls) (hlocks : meth.locks = false)
    (hpass : ∀ z ∈ c.exceptionTable.toList, covers z pc = false ∨ (z.catchType ≠ 0 ∧ ∃ nm : String, (Cond.classLink own z.catchType nm).before args s = true ∧ va_Nc E nm s)) (hcell : H[q]? = some ce) (hv : ce.vm = .none) (hcl : s.vm.findClass E = some ce.cls)
    (hx : ∀ t : State, t.heap = H → s.vm.Alike t.vm → XC E s t) (hf : ∀ z ∈ locs, free z.base) (hc : cells ≤ mc) (hs : slots ≤ ms) :
    vx_W p l e R s m args below meth c H locs cells slots (vx_MQ below Qc XC args s mc ms free) (F0 m pc ls rest) q := by
  intro T hT X
  have hpl : e.platform.magicAccessors = ({} : Platform).magicAccessors := by rw [X.admits.platform]
  obtain ⟨vm', hW', X', st⟩ := X.outThrough hlocks q (g := F0 m pc ls rest) rfl rfl rfl (cell := ce) (by rw [hT]; exact hcell) (by rw [hv]; rfl)
    (by obtain ⟨k9, h9, -⟩ := Vm.findClass_spec hcl; exact ⟨k9, h9⟩) (fun z hz => by
      rcases hpass z hz with h | ⟨hz0, nm, hl1, hn1⟩
      · exact Or.inl h
      · obtain ⟨c6, hc6, hcl6⟩ := Cond.classLink_spec hown hl1 e.platform hpl
        obtain ⟨a8, b8, h1, h2, h3⟩ := hn1
        cases Option.some.inj (h1.symm.trans hcl)
        cases Option.some.inj (h2.symm.trans hc6)
        exact Or.inr ⟨hz0, _, hcl6, h3⟩)
  obtain ⟨g₀, hfr⟩ := X'.frames_eq
  have hcell9 : ((T.setVm vm').setFrames (.throwing q :: below)).heap[q]? = some ce := by
    show T.heap[q]? = some ce
    rw [hT]; exact hcell
  have hend : Ended ((T.setVm vm').setFrames (.throwing q :: below)) below (.threw q) := State.frames_setFrames _ (State.cur_lt_of_frames hfr)
  refine ⟨(T.setVm vm').setFrames (.throwing q :: below), ?_, .threw q, X'.here.running, hend, Or.inr ⟨q, rfl, E, ce, locs, hx _ hT (X'.ends _).1.alike, hcell9, hv, hcl, (X'.ends _).1, (X'.ends _).2.mono hc hs, hf⟩⟩
  rw [X.pushThrowing_eq]
  exact st
/-- a thing of a world lies in the heap -/
theorem vx_lt {D : va_G} {cl : List vw_C} {ws : va_W} {H1 : Heap} (h : va_P D cl ws H1) {k : Nat} {q : Nat × va_E} (hk : ws[k]? = some q) : q.1 < H1.size := (h k q hk).lt
end VXS
/-! ===== END ===== -/
/-! ===== BEGIN methods with a table of their own: called by a name, returning or throwing ===== -/
section VXH
/-! vx_backW, vx_callVX, vx_callSX, vx_callVW, vx_runVW, vx_runVX, vx_runSX, vx_ofWH follow the same proofs as their sisters above (Free/Laws.lean, Shelf42/LK1.lean); vx_outP calls Shelf42/NT130.lean (outThrough). -/
section
variable {l : Launch} {R : Room} {p : Program} {e : Env} {below : List Frame} {s : State} {sargs : Array Value} {y : MethodName} {len W9 : Nat}
theorem vx_backW {ws : List Cond} {rm : Room} {Pc : Array Value → State → Prop} {Qc : Array Value → State → Outcome → State → Prop} {XC : String → State → State → Prop} {mc ms : Nat} {free : Addr → Prop} {bytes : ByteArray} {maxL : Nat} {ret : Option FieldType} {hh : List (Nat × Nat × Nat × Nat)}
    (hM : vx_Met l y ws rm Pc Qc XC mc ms free) (hblind : FrameBlind Pc) (hrc : rm.cells = mc) (hrs : rm.slots = ms)
    (hframes : rm.frames + 1 ≤ R.frames) (hlocals : W9 + (maxL + 11) + rm.locals ≤ R.locals)
    (hws : ∀ w ∈ ws, ∀ a' U, s.WarmedH U.vm → w.before a' U = true) (hcode : Cond.codeWith y bytes maxL ret hh ∈ ws) (hinit : ∀ a' U, s.WarmedH U.vm → (Cond.initialized y.cls).before a' U = true) :
    vx_Back l R p e below s sargs y len W9 (PreOf R mc ms Pc) (PostOf Qc mc ms free) (vx_Post XC mc ms free) := by
  intro m meth c A g ig mk a X hg hsize hdg hW hn hp
  have h1 : (headSpec ws rm).pre.before a A.U = true := atoms_intro fun w hw => hws w hw _ _ X.warmed
  have h2 : (Cond.codeWith y bytes maxL ret hh).before a A.U = true := hws _ hcode _ _ X.warmed
  have h3 : (Cond.initialized y.cls).before a A.U = true := hinit _ _ X.warmed
  have h4 : A.cells + (headSpec ws rm).room.cells ≤ R.cells := by rw [show (headSpec ws rm).room.cells = mc from hrc]; exact hp.1
  have h5 : A.slots + (headSpec ws rm).room.slots ≤ R.slots := by rw [show (headSpec ws rm).room.slots = ms from hrs]; exact hp.2.1
  have hPc : Pc a (A.U.calling g mk a) := hblind _ _ _ _ hp.2.2
  obtain ⟨U, Ls, c0, s0⟩ := A
  dsimp only [Pt.U, Pt.locs, Pt.cells, Pt.slots] at h1 h2 h3 h4 h5 X hn hPc ⊢
  obtain ⟨m9, methY, cY, hn9, hmY, hcY, -, hlY, -⟩ := Cond.codeWith_spec h2
  cases Option.some.inj (hn9.symm.trans hn)
  obtain ⟨kY, hkY, -⟩ := className_of_methodNamed hn
  have hinitY : kY.init = .initialized := Cond.initialized_spec (findClass_of_methodNamed hn) hkY h3
  have h : At U g.method c below := by rw [hg]; exact X.here
  have hlocals9 : W9 + (maxL + 11) + (headSpec ws rm).room.locals ≤ R.locals := hlocals
  have happ : (headSpec ws rm).appliesLoose y e.platform (U.calling g mk a) = true :=
    Spec.appliesLoose_calling (g := g) h hdg hn hkY hinitY
      (X.room_calling (g := g) (R' := (headSpec ws rm).room) hsize hmY hcY hframes (by rw [hlY]; omega) h4 h5) h1
  obtain ⟨mid, hmid⟩ := h.above
  have hfr : (U.setTop g).frames = (.java g :: mid) ++ below := by rw [State.frames_setTop' g h.top, hmid]; rfl
  obtain ⟨o, s₂, hsteps, -, hend, hq⟩ := Steps.callFree hM p X.admits X.cas X.clock (acts := []) hfr happ hPc trivial
  have hq' : vx_Q Qc XC mc ms free a (U.calling g mk a) o s₂ := hq
  rw [State.frames_setTop' g h.top] at hend
  obtain ⟨g₀, hg0⟩ := Option.isSome_iff_exists.mp h.top
  obtain ⟨r, hr⟩ := State.topJava?_eq_some.mp hg0
  have hr' : (({ U with heap := s₂.heap, slotsUsed := s₂.slotsUsed } : State).setVm s₂.vm).frames = .java g₀ :: r := hr
  rcases hq' with ⟨hqc, L, hfe, hL⟩ | ⟨q, rfl, E, ce, L, hx, hce, hcv, hcl, hW₂, hsm, hL⟩
  · obtain ⟨⟨v, rfl⟩, hW₂, e2, q2, q3, q4, q5, q6⟩ := id hfe
    have e3 : s₂ = ({ (U.calling g mk a).setFrames s₂.frames with heap := s₂.heap, slotsUsed := s₂.slotsUsed } : State).setVm s₂.vm := by
      have : s₂ = ({ s₂ with vm := (U.calling g mk a).vm } : State).setVm s₂.vm := rfl
      rw [e2] at this
      exact this
    obtain ⟨c₂, i₂, len₂, hc₂, hd₂, hf₂⟩ := hend
    have hW' : U.WarmedH s₂.vm := hW₂
    have hcc : c₂ = c := by
      have h1 : s₂.code? g.method = U.code? g.method := by
        rw [State.code?_eq, State.code?_eq, hW'.alike.method?]
      exact Option.some.inj (hc₂.symm.trans (h1.trans h.code))
    subst hcc
    have hlen : len₂ = len := by rw [hdg] at hd₂; cases hd₂; rfl
    subst hlen
    have hs₂ : s₂ = (({ U with heap := s₂.heap, slotsUsed := s₂.slotsUsed } : State).setVm s₂.vm).setTop { g with pc := g.pc + len₂, stack := v.toList ++ g.stack } := by
      refine e3.trans ?_
      rw [hf₂, State.calling_eq h.top, State.setFrames_setFrames, State.setTop_of_frames _ hr', hr]
      rfl
    have hsame : U.sameButNew ({ U with heap := s₂.heap, slotsUsed := s₂.slotsUsed } : State) L mc ms := by
      refine ⟨?_, q2, q3, q4, q5, q6⟩
      obtain ⟨t, ht, -⟩ := State.frames_cons hr
      show ({ U with heap := s₂.heap, slotsUsed := s₂.slotsUsed } : State) = { U.setFrames U.frames with heap := s₂.heap, slotsUsed := s₂.slotsUsed }
      rw [State.setFrames_self ht]
    subst hg
    refine Or.inl ⟨v, ⟨(({ U with heap := s₂.heap, slotsUsed := s₂.slotsUsed } : State).setVm s₂.vm), Ls ++ L, c0 + mc, s0 + ms⟩,
      ⟨X.admits, X.cas, X.clock, X.frames, X.room, X.hears, X.method, X.code, (X.here.setHeapUsed s₂.heap s₂.slotsUsed).setVm hW'.alike, X.tail, State.WarmedH.trans X.warmed hW', X.limits, X.bytes, X.same.trans (hsame.setVm s.vm)⟩,
      ⟨g, mk, s₂, L, rfl, rfl, hqc, rfl, hL, rfl, rfl⟩, ?_⟩
    show Steps p.tables e below _ ((({ U with heap := s₂.heap, slotsUsed := s₂.slotsUsed } : State).setVm s₂.vm).setTop { g with pc := g.pc + len₂, stack := v.toList ++ g.stack })
    rw [← hs₂]
    exact hsteps
  · obtain ⟨e2, q2, q3, q4, q5, q6⟩ := id hsm
    have e3 : s₂ = ({ (U.calling g mk a).setFrames s₂.frames with heap := s₂.heap, slotsUsed := s₂.slotsUsed } : State).setVm s₂.vm := by
      have : s₂ = ({ s₂ with vm := (U.calling g mk a).vm } : State).setVm s₂.vm := rfl
      rw [e2] at this
      exact this
    have hf₂ : s₂.frames = .throwing q :: .java g :: U.frames.tail := hend
    have hW' : U.WarmedH s₂.vm := hW₂
    have hs₂ : s₂ = ((({ U with heap := s₂.heap, slotsUsed := s₂.slotsUsed } : State).setVm s₂.vm).setTop g).pushFrame (.throwing q) := by
      refine e3.trans ?_
      rw [hf₂, State.calling_eq h.top, State.setFrames_setFrames, State.pushFrame, State.frames_setTop _ hr', State.setTop_of_frames _ hr', State.setFrames_setFrames, hr]
      rfl
    have hsame : U.sameButNew ({ U with heap := s₂.heap, slotsUsed := s₂.slotsUsed } : State) L mc ms := by
      refine ⟨?_, q2, q3, q4, q5, q6⟩
      obtain ⟨t, ht, -⟩ := State.frames_cons hr
      show ({ U with heap := s₂.heap, slotsUsed := s₂.slotsUsed } : State) = { U.setFrames U.frames with heap := s₂.heap, slotsUsed := s₂.slotsUsed }
      rw [State.setFrames_self ht]
    subst hg
    refine Or.inr ⟨q, ⟨(({ U with heap := s₂.heap, slotsUsed := s₂.slotsUsed } : State).setVm s₂.vm), Ls ++ L, c0 + mc, s0 + ms⟩,
      ⟨X.admits, X.cas, X.clock, X.frames, X.room, X.hears, X.method, X.code, (X.here.setHeapUsed s₂.heap s₂.slotsUsed).setVm hW'.alike, X.tail, State.WarmedH.trans X.warmed hW', X.limits, X.bytes, X.same.trans (hsame.setVm s.vm)⟩,
      ⟨g, mk, s₂, L, E, ce, rfl, rfl, hx, hce, hcv, hcl, rfl, hL, rfl, rfl⟩, ?_⟩
    show Steps p.tables e below _ (((({ U with heap := s₂.heap, slotsUsed := s₂.slotsUsed } : State).setVm s₂.vm).setTop g).pushFrame (.throwing q))
    rw [← hs₂]
    exact hsteps
end
variable {p : Program} {l : Launch} {e : Env} {R : Room} {s : State} {m : MethodId} {args : Array Value} {below : List Frame} {meth : Method} {c : Code} {T : State} {H : Heap} {locs : List Loc} {cells slots : Nat}
theorem vx_callVX (X : Stand p l e R s m args below meth c T locs cells slots) (hexec : p.tables.exec = Jvm.exec) {own C : String} {index : Nat} {y : MethodName} {bytes : ByteArray} {maxL : Nat} {ret : Option FieldType} {hh : List (Nat × Nat × Nat × Nat)}
    (hown : s.vm.findClass own = some m.cls) (hlink : (Cond.methodLink own index y).before args s = true) (hinst : (Cond.instanceMethod y).before args s = true) (hsel : (Cond.selects C y y).before args s = true)
    (hcode : (Cond.codeWith y bytes maxL ret hh).before args s = true) (hy : y.cls ≠ "java/lang/invoke/MethodHandle" ∧ y.cls ≠ "java/lang/invoke/VarHandle")
    {W9 : Nat} {Pre : Pt → Array Value → Prop} {Post : Pt → Array Value → Option Value → Pt → Prop} {PostX : Pt → Array Value → Addr → Pt → Prop} (hK : vx_Back l R p e below s args y 3 W9 Pre Post PostX)
    {b : Addr} {cellB : Cell} (hcell : T.heap[b]? = some cellB) (hobj : cellB.vm.isStatics = false) (hcls : s.vm.findClass C = some cellB.cls)
    {g : JFrame} (hg : g.method = m) (hsize : g.locals.size = c.maxLocals) {argsL rest : List Value} (hlen : ∀ sig, parseMethodDescriptor y.desc = some sig → argsL.length = sig.parameters.length)
    (hstack : g.stack = argsL.reverse ++ .ref b :: rest) (hW : 2 * g.monitorRoom + (rest.map fun v => v.category).sum ≤ W9) (hdg : decode c.code g.pc = .ok (.invokevirtual index, 3))
    (hpre : ∀ vm₁, s.WarmedH vm₁ → Pre ⟨T.setVm vm₁, locs, cells, slots⟩ (Value.ref b :: argsL).toArray) :
    (∃ (v : Option Value) (vm₁ : Vm) (B : Pt), s.WarmedH vm₁ ∧ Stand p l e R s m args below meth c B.U B.locs B.cells B.slots ∧ Post ⟨T.setVm vm₁, locs, cells, slots⟩ (Value.ref b :: argsL).toArray v B ∧
      ∀ target, Steps p.tables e below (B.U.setTop { g with pc := g.pc + 3, stack := v.toList ++ rest }) target → Steps p.tables e below (T.setTop g) target) ∨
    (∃ (q : Addr) (vm₁ : Vm) (B : Pt), s.WarmedH vm₁ ∧ Stand p l e R s m args below meth c B.U B.locs B.cells B.slots ∧ PostX ⟨T.setVm vm₁, locs, cells, slots⟩ (Value.ref b :: argsL).toArray q B ∧
      Steps p.tables e below (T.setTop g) ((B.U.setTop { g with stack := rest }).pushFrame (.throwing q))) := by
  obtain ⟨mk, methM, hnamed, hmethM, hstM, habM⟩ := Cond.instanceMethod_spec hinst
  obtain ⟨m8, methM', cM, hn8, hmethM', -, -, -, -, -, -, hsigM⟩ := Cond.codeWith_spec hcode
  cases Option.some.inj (hn8.symm.trans hnamed)
  cases hmethM.symm.trans hmethM'
  obtain ⟨c2, r2, m2, q1, q2, q3, q4, kP, hkP, hkPi⟩ := Cond.selects_spec hsel
  cases hcls.symm.trans q1
  cases (State.methodFound?_of_named hnamed hy).symm.trans q2
  cases hnamed.symm.trans q3
  have hselP : selectMethod e.platform s.vm cellB.cls mk = .method mk := by rw [Launch.admits_selectMethod X.admits]; exact q4
  obtain ⟨vm₁, X₁, hstep₁⟩ := X.invokevirtual hexec hown hlink hnamed hmethM hstM hkP hkPi hy (a := b) (cell := cellB) hcell
    (fun z h => by rw [h] at hobj; cases hobj) hselP hmethM habM hkP hkPi (g := g) hg (argsL := argsL) (rest := rest) (hlen _ hsigM) hstack hdg
  rcases hK m meth c ⟨T.setVm vm₁, locs, cells, slots⟩ { g with stack := rest } (.invokevirtual index) mk (Value.ref b :: argsL).toArray X₁ hg hsize hdg hW (X₁.named hnamed) (hpre vm₁ X₁.warmed) with ⟨v, B, X', hpost, hsteps⟩ | ⟨q, B, X', hpost, hsteps⟩
  · exact Or.inl ⟨v, vm₁, B, X₁.warmed, X', hpost, fun target h => hstep₁ _ fun acts => by rw [doInvoke_state]; exact hsteps.trans h⟩
  · exact Or.inr ⟨q, vm₁, B, X₁.warmed, X', hpost, hstep₁ _ fun acts => by rw [doInvoke_state]; exact hsteps⟩
theorem vx_callSX (X : Stand p l e R s m args below meth c T locs cells slots) (hexec : p.tables.exec = Jvm.exec) {own : String} {index : Nat} {y : MethodName} {bytes : ByteArray} {maxL : Nat} {ret : Option FieldType} {hh : List (Nat × Nat × Nat × Nat)}
    (hown : s.vm.findClass own = some m.cls) (hlink : (Cond.methodLink own index y).before args s = true) (hstat : (Cond.static y).before args s = true) (hinit : (Cond.initialized y.cls).before args s = true)
    (hcode : (Cond.codeWith y bytes maxL ret hh).before args s = true) (hy : y.cls ≠ "java/lang/invoke/MethodHandle" ∧ y.cls ≠ "java/lang/invoke/VarHandle")
    {W9 : Nat} {Pre : Pt → Array Value → Prop} {Post : Pt → Array Value → Option Value → Pt → Prop} {PostX : Pt → Array Value → Addr → Pt → Prop} (hK : vx_Back l R p e below s args y 3 W9 Pre Post PostX)
    {g : JFrame} (hg : g.method = m) (hsize : g.locals.size = c.maxLocals) {argsL rest : List Value} (hlen : ∀ sig, parseMethodDescriptor y.desc = some sig → argsL.length = sig.parameters.length)
    (hstack : g.stack = argsL.reverse ++ rest) (hW : 2 * g.monitorRoom + (rest.map fun v => v.category).sum ≤ W9) (hdg : decode c.code g.pc = .ok (.invokestatic index, 3))
    (hpre : ∀ vm₁, s.WarmedH vm₁ → Pre ⟨T.setVm vm₁, locs, cells, slots⟩ argsL.toArray) :
    (∃ (v : Option Value) (vm₁ : Vm) (B : Pt), s.WarmedH vm₁ ∧ Stand p l e R s m args below meth c B.U B.locs B.cells B.slots ∧ Post ⟨T.setVm vm₁, locs, cells, slots⟩ argsL.toArray v B ∧
      ∀ target, Steps p.tables e below (B.U.setTop { g with pc := g.pc + 3, stack := v.toList ++ rest }) target → Steps p.tables e below (T.setTop g) target) ∨
    (∃ (q : Addr) (vm₁ : Vm) (B : Pt), s.WarmedH vm₁ ∧ Stand p l e R s m args below meth c B.U B.locs B.cells B.slots ∧ PostX ⟨T.setVm vm₁, locs, cells, slots⟩ argsL.toArray q B ∧
      Steps p.tables e below (T.setTop g) ((B.U.setTop { g with stack := rest }).pushFrame (.throwing q))) := by
  obtain ⟨mk, methM, cM, hnamed, hmethM, -, -, -, -, -, -, hsigM⟩ := Cond.codeWith_spec hcode
  have hstatic : methM.isStatic = true := Cond.static_spec hnamed hmethM hstat
  obtain ⟨kP, hkP, -⟩ := className_of_methodNamed hnamed
  have hinitP : kP.init = .initialized := Cond.initialized_spec (findClass_of_methodNamed hnamed) hkP hinit
  obtain ⟨vm₁, X₁, hstep₁⟩ := X.invokestatic hexec hown hlink hnamed hmethM hstatic hkP hinitP hy (g := g) hg (argsL := argsL) (rest := rest) (hlen _ hsigM) hstack hdg
  rcases hK m meth c ⟨T.setVm vm₁, locs, cells, slots⟩ { g with stack := rest } (.invokestatic index) mk argsL.toArray X₁ hg hsize hdg hW (X₁.named hnamed) (hpre vm₁ X₁.warmed) with ⟨v, B, X', hpost, hsteps⟩ | ⟨q, B, X', hpost, hsteps⟩
  · exact Or.inl ⟨v, vm₁, B, X₁.warmed, X', hpost, fun target h => hstep₁ _ fun acts => by rw [doInvoke_state]; exact hsteps.trans h⟩
  · exact Or.inr ⟨q, vm₁, B, X₁.warmed, X', hpost, hstep₁ _ fun acts => by rw [doInvoke_state]; exact hsteps⟩
theorem vx_callVW (X : Stand p l e R s m args below meth c T locs cells slots) (hexec : p.tables.exec = Jvm.exec) {own C : String} {index : Nat} {y : MethodName} {bytes : ByteArray} {maxL : Nat} {ret : Option FieldType} {hh : List (Nat × Nat × Nat × Nat)}
    (hown : s.vm.findClass own = some m.cls) (hlink : (Cond.methodLink own index y).before args s = true) (hinst : (Cond.instanceMethod y).before args s = true) (hsel : (Cond.selects C y y).before args s = true)
    (hcode : (Cond.codeWith y bytes maxL ret hh).before args s = true) (hy : y.cls ≠ "java/lang/invoke/MethodHandle" ∧ y.cls ≠ "java/lang/invoke/VarHandle")
    {W9 : Nat} {Pre : Pt → Array Value → Prop} {Post : Pt → Array Value → Option Value → Pt → Prop} (hK : Back l R p e below s args y 3 W9 Pre Post)
    {b : Addr} {cellB : Cell} (hcell : T.heap[b]? = some cellB) (hobj : cellB.vm.isStatics = false) (hcls : s.vm.findClass C = some cellB.cls)
    {g : JFrame} (hg : g.method = m) (hsize : g.locals.size = c.maxLocals) {argsL rest : List Value} (hlen : ∀ sig, parseMethodDescriptor y.desc = some sig → argsL.length = sig.parameters.length)
    (hstack : g.stack = argsL.reverse ++ .ref b :: rest) (hW : 2 * g.monitorRoom + (rest.map fun v => v.category).sum ≤ W9) (hdg : decode c.code g.pc = .ok (.invokevirtual index, 3))
    (hpre : ∀ vm₁, s.WarmedH vm₁ → Pre ⟨T.setVm vm₁, locs, cells, slots⟩ (Value.ref b :: argsL).toArray) :
    ∃ (v : Option Value) (vm₁ : Vm) (B : Pt), s.WarmedH vm₁ ∧ Stand p l e R s m args below meth c B.U B.locs B.cells B.slots ∧ Post ⟨T.setVm vm₁, locs, cells, slots⟩ (Value.ref b :: argsL).toArray v B ∧
      ∀ target, Steps p.tables e below (B.U.setTop { g with pc := g.pc + 3, stack := v.toList ++ rest }) target → Steps p.tables e below (T.setTop g) target := by
  obtain ⟨mk, methM, hnamed, hmethM, hstM, habM⟩ := Cond.instanceMethod_spec hinst
  obtain ⟨m8, methM', cM, hn8, hmethM', -, -, -, -, -, -, hsigM⟩ := Cond.codeWith_spec hcode
  cases Option.some.inj (hn8.symm.trans hnamed)
  cases hmethM.symm.trans hmethM'
  obtain ⟨c2, r2, m2, q1, q2, q3, q4, kP, hkP, hkPi⟩ := Cond.selects_spec hsel
  cases hcls.symm.trans q1
  cases (State.methodFound?_of_named hnamed hy).symm.trans q2
  cases hnamed.symm.trans q3
  have hselP : selectMethod e.platform s.vm cellB.cls mk = .method mk := by rw [Launch.admits_selectMethod X.admits]; exact q4
  obtain ⟨vm₁, X₁, hstep₁⟩ := X.invokevirtual hexec hown hlink hnamed hmethM hstM hkP hkPi hy (a := b) (cell := cellB) hcell
    (fun z h => by rw [h] at hobj; cases hobj) hselP hmethM habM hkP hkPi (g := g) hg (argsL := argsL) (rest := rest) (hlen _ hsigM) hstack hdg
  obtain ⟨v, B, X', hpost, hsteps⟩ := hK m meth c ⟨T.setVm vm₁, locs, cells, slots⟩ { g with stack := rest } (.invokevirtual index) mk (Value.ref b :: argsL).toArray X₁ hg hsize hdg hW (X₁.named hnamed) (hpre vm₁ X₁.warmed)
  exact ⟨v, vm₁, B, X₁.warmed, X', hpost, fun target h => hstep₁ _ fun acts => by rw [doInvoke_state]; exact hsteps.trans h⟩
abbrev vx_CVW (R : Room) (s : State) (args : Array Value) (own C : String) (index : Nat) (y : MethodName) (bytes : ByteArray) (maxL : Nat) (ret : Option FieldType) (hh : List (Nat × Nat × Nat × Nat)) (ws : List Cond) (rm : Room) (mc ms n : Nat) : Prop :=
  (rm.cells = mc ∧ rm.slots = ms ∧ rm.frames + 1 ≤ R.frames ∧ 8 + (maxL + 11) + rm.locals ≤ R.locals ∧ (∀ w ∈ ws, ∀ (a' : Array Value) (U : State), s.WarmedH U.vm → w.before a' U = true) ∧ Cond.codeWith y bytes maxL ret hh ∈ ws) ∧
  (Cond.codeWith y bytes maxL ret hh).before args s = true ∧ (Cond.initialized y.cls).before args s = true ∧ (y.cls ≠ "java/lang/invoke/MethodHandle" ∧ y.cls ≠ "java/lang/invoke/VarHandle") ∧
  (∀ sig, parseMethodDescriptor y.desc = some sig → n = sig.parameters.length) ∧ (Cond.methodLink own index y).before args s = true ∧ (Cond.instanceMethod y).before args s = true ∧ (Cond.selects C y y).before args s = true
theorem vx_cwVW {own C : String} {index maxL mc ms : Nat} {y : MethodName} {bytes : ByteArray} {ret : Option FieldType} {hh : List (Nat × Nat × Nat × Nat)} {Ts ws ws' : List Cond} {rm : Room} (n : Nat) (ht : ∀ w ∈ Ts, w.before args s = true) (hT : GoodIn Ts (wsV own index C y ws)) (hw : ws = Cond.codeWith y bytes maxL ret hh :: ws') (hrc : rm.cells = mc) (hrs : rm.slots = ms)
    (hd : y.cls = C ∧ y.cls ≠ "java/lang/invoke/MethodHandle" ∧ y.cls ≠ "java/lang/invoke/VarHandle" ∧ (parseMethodDescriptor y.desc).map (fun d => d.parameters.length) = some n) (hR : rm.frames + 1 ≤ R.frames ∧ 8 + (maxL + 11) + rm.locals ≤ R.locals) :
    vx_CVW R s args own C index y bytes maxL ret hh ws rm mc ms n := by
  obtain ⟨hC, hd⟩ := hd
  subst hC
  have ok : ∀ w ∈ wsV own index y.cls y ws, w.before args s = true := fun w h => ht w (hT w h).1
  have hG : GoodIn Ts ws := fun w h => hT w (by unfold wsV; exact List.mem_append_right _ h)
  have hc : Cond.codeWith y bytes maxL ret hh ∈ ws := by rw [hw]; exact List.mem_cons_self
  refine ⟨⟨hrc, hrs, hR.1, hR.2, pay_in ht hG, hc⟩, ht _ (hG _ hc).1, ok _ (by simp [wsV]), ⟨hd.1, hd.2.1⟩, fun sig h => ?_, ok _ (by simp [wsV]), ok _ (by simp [wsV]), ok _ (by simp [wsV])⟩
  have h2 := hd.2.2
  rw [h] at h2
  exact (Option.some.inj h2).symm
theorem vx_runVW {y : MethodName} {bytes cc : ByteArray} {maxL nL mc ms n index : Nat} {ret : Option FieldType} {hh : List (Nat × Nat × Nat × Nat)} {ws : List Cond} {rm : Room} {Pc : Array Value → State → Prop} {Qc : Array Value → State → Outcome → State → Prop} {free : Addr → Prop} {Ts : List Cond} {own C : String} {b : Addr} {As rest : List Value} {g : JFrame}
    (S : CallFix p m c cc nL s args Ts own) (hM : Met l y ws rm Pc Qc mc ms free) (cw : vx_CVW R s args own C index y bytes maxL ret hh ws rm mc ms n) (hp : PreV s H C b Pc As)
    (hg : g.method = m) (hn : As.length = n) (hsize : g.locals.size = nL) (hstack : g.stack = As.reverse ++ .ref b :: rest) (hW : 2 * g.monitorRoom + (rest.map fun v => v.category).sum ≤ 8) (hdg : decode cc g.pc = .ok (.invokevirtual index, 3)) (hf : cells + mc ≤ R.cells ∧ slots + ms ≤ R.slots) :
    va_Run p l e R s m args below meth c H locs cells slots mc ms g rest (Qc (Value.ref b :: As).toArray) free := by
  obtain ⟨⟨hrc, hrs, hfr, hlo, hws, hcw⟩, hcode, hini, hy, hlen, hl, hin, hse⟩ := cw
  have hK : Back l R p e below s args y 3 8 (PreOf R mc ms Pc) (PostOf Qc mc ms free) := va_backW (hh := hh) (bytes := bytes) (maxL := maxL) (ret := ret) hM hp.1 hrc hrs hfr hlo hws hcw (fun a' U hW => word_at hW (Or.inl (by first | rfl | simp [Cond.onTables, Cond.keeps, Cond.steady])) hini)
  obtain ⟨hx, hb, hml, ho, -⟩ := S
  obtain ⟨-, ⟨cellB, hcB, hoB, hclB⟩, hPc⟩ := hp
  intro T hT X
  obtain ⟨v, vm₁, ⟨U', l2, c2, s2⟩, hW₁, X', ⟨g', mk, t, L, e1, e2, hq, h1, hL, h2, h3⟩, st⟩ := vx_callVW X hx (C := C) (hh := hh) (bytes := bytes) (maxL := maxL) (ret := ret) ho hl hin hse hcode hy hK (by rw [hT]; exact hcB) hoB hclB hg (hsize.trans hml.symm) (argsL := As) (rest := rest) (fun sig h => hn.trans (hlen sig h)) hstack hW (by rw [hb]; exact hdg)
    (fun vm₁ hW₁ => ⟨hf.1, hf.2, hPc (T.setVm vm₁) hT hW₁⟩)
  dsimp only [Pt.U, Pt.locs, Pt.cells, Pt.slots] at X' e1 e2 h1 h2 h3 st
  subst h1; subst h2; subst h3
  exact ⟨v, (T.setVm vm₁).calling g' mk (Value.ref b :: As).toArray, t, U', L, hT, X', hL, e1, e2, hq, st⟩
section
variable {y : MethodName} {bytes cc : ByteArray} {maxL nL mc ms n index : Nat} {ret : Option FieldType} {ws : List Cond} {rm : Room} {Pc : Array Value → State → Prop} {Qc : Array Value → State → Outcome → State → Prop} {XC : String → State → State → Prop} {free : Addr → Prop} {Ts : List Cond} {own C : String} {b : Addr} {As rest : List Value} {g : JFrame}
theorem vx_runVX {hh : List (Nat × Nat × Nat × Nat)} (S : CallFix p m c cc nL s args Ts own) (hM : vx_Met l y ws rm Pc Qc XC mc ms free) (cw : vx_CVW R s args own C index y bytes maxL ret hh ws rm mc ms n) (hp : PreV s H C b Pc As)
    (hg : g.method = m) (hn : As.length = n) (hsize : g.locals.size = nL) (hstack : g.stack = As.reverse ++ .ref b :: rest) (hW : 2 * g.monitorRoom + (rest.map fun v => v.category).sum ≤ 8) (hdg : decode cc g.pc = .ok (.invokevirtual index, 3)) (hf : cells + mc ≤ R.cells ∧ slots + ms ≤ R.slots) :
    vx_Run p l e R s m args below meth c H locs cells slots mc ms g rest (Qc (Value.ref b :: As).toArray) XC free := by
  obtain ⟨⟨hrc, hrs, hfr, hlo, hws, hcw⟩, hcode, hini, hy, hlen, hl, hin, hse⟩ := cw
  have hK : vx_Back l R p e below s args y 3 8 (PreOf R mc ms Pc) (PostOf Qc mc ms free) (vx_Post XC mc ms free) := vx_backW (hh := hh) (bytes := bytes) (maxL := maxL) (ret := ret) hM hp.1 hrc hrs hfr hlo hws hcw (fun a' U hW => word_at hW (Or.inl (by first | rfl | simp [Cond.onTables, Cond.keeps, Cond.steady])) hini)
  obtain ⟨hx, hb, hml, ho, -⟩ := S
  obtain ⟨-, ⟨cellB, hcB, hoB, hclB⟩, hPc⟩ := hp
  intro T hT X
  rcases vx_callVX X hx (C := C) (hh := hh) (bytes := bytes) (maxL := maxL) (ret := ret) ho hl hin hse hcode hy hK (by rw [hT]; exact hcB) hoB hclB hg (hsize.trans hml.symm) (argsL := As) (rest := rest) (fun sig h => hn.trans (hlen sig h)) hstack hW (by rw [hb]; exact hdg)
    (fun vm₁ hW₁ => ⟨hf.1, hf.2, hPc (T.setVm vm₁) hT hW₁⟩) with ⟨v, vm₁, ⟨U', l2, c2, s2⟩, hW₁, X', ⟨g', mk, t, L, e1, e2, hq, h1, hL, h2, h3⟩, st⟩ | ⟨q, vm₁, ⟨U', l2, c2, s2⟩, hW₁, X', ⟨g', mk, t, L, E, ce, e1, e2, hq, hce, hcv, hcl, h1, hL, h2, h3⟩, st⟩
  · dsimp only [Pt.U, Pt.locs, Pt.cells, Pt.slots] at X' e1 e2 h1 h2 h3 st
    subst h1; subst h2; subst h3
    exact Or.inl ⟨v, (T.setVm vm₁).calling g' mk (Value.ref b :: As).toArray, t, U', L, hT, X', hL, e1, e2, hq, st⟩
  · dsimp only [Pt.U, Pt.locs, Pt.cells, Pt.slots] at X' e1 e2 h1 h2 h3 st hcl
    subst h1; subst h2; subst h3
    exact Or.inr ⟨q, (T.setVm vm₁).calling g' mk (Value.ref b :: As).toArray, t, U', L, E, ce, hT, X', hL, e1, e2, hq, hce, hcv, vx_cls hW₁ hcl, st⟩
theorem vx_runSX {hh : List (Nat × Nat × Nat × Nat)} (S : CallFix p m c cc nL s args Ts own) (hM : vx_Met l y ws rm Pc Qc XC mc ms free) (cw : vx_CSW R s args own index y bytes maxL ret hh ws rm mc ms n) (hp : PreS s H Pc As)
    (hg : g.method = m) (hn : As.length = n) (hsize : g.locals.size = nL) (hstack : g.stack = As.reverse ++ rest) (hW : 2 * g.monitorRoom + (rest.map fun v => v.category).sum ≤ 8) (hdg : decode cc g.pc = .ok (.invokestatic index, 3)) (hf : cells + mc ≤ R.cells ∧ slots + ms ≤ R.slots) :
    vx_Run p l e R s m args below meth c H locs cells slots mc ms g rest (Qc As.toArray) XC free := by
  obtain ⟨⟨hrc, hrs, hfr, hlo, hws, hcw⟩, hcode, hini, hy, hlen, hl, hstt⟩ := cw
  have hK : vx_Back l R p e below s args y 3 8 (PreOf R mc ms Pc) (PostOf Qc mc ms free) (vx_Post XC mc ms free) := vx_backW (hh := hh) (bytes := bytes) (maxL := maxL) (ret := ret) hM hp.1 hrc hrs hfr hlo hws hcw (fun a' U hW => word_at hW (Or.inl (by first | rfl | simp [Cond.onTables, Cond.keeps, Cond.steady])) hini)
  obtain ⟨hx, hb, hml, ho, -⟩ := S
  intro T hT X
  rcases vx_callSX X hx (hh := hh) (bytes := bytes) (maxL := maxL) (ret := ret) ho hl hstt hini hcode hy hK hg (hsize.trans hml.symm) (argsL := As) (rest := rest) (fun sig h => hn.trans (hlen sig h)) hstack hW (by rw [hb]; exact hdg)
    (fun vm₁ hW₁ => ⟨hf.1, hf.2, hp.2 (T.setVm vm₁) hT hW₁⟩) with ⟨v, vm₁, ⟨U', l2, c2, s2⟩, hW₁, X', ⟨g', mk, t, L, e1, e2, hq, h1, hL, h2, h3⟩, st⟩ | ⟨q, vm₁, ⟨U', l2, c2, s2⟩, hW₁, X', ⟨g', mk, t, L, E, ce, e1, e2, hq, hce, hcv, hcl, h1, hL, h2, h3⟩, st⟩
  · dsimp only [Pt.U, Pt.locs, Pt.cells, Pt.slots] at X' e1 e2 h1 h2 h3 st
    subst h1; subst h2; subst h3
    exact Or.inl ⟨v, (T.setVm vm₁).calling g' mk As.toArray, t, U', L, hT, X', hL, e1, e2, hq, st⟩
  · dsimp only [Pt.U, Pt.locs, Pt.cells, Pt.slots] at X' e1 e2 h1 h2 h3 st hcl
    subst h1; subst h2; subst h3
    exact Or.inr ⟨q, (T.setVm vm₁).calling g' mk As.toArray, t, U', L, E, ce, hT, X', hL, e1, e2, hq, hce, hcv, vx_cls hW₁ hcl, st⟩
end
end VXH
theorem vx_ofWH {l : Launch} {y : MethodName} {ws ws' : List Cond} {rm : Room} {Pc : Array Value → State → Prop} {Qc : Array Value → State → Outcome → State → Prop} {XC : String → State → State → Prop} {mc ms : Nat} {free : Addr → Prop} {cc : ByteArray} {maxL : Nat} {ret : Option FieldType} {hh : List (Nat × Nat × Nat × Nat)}
    (hy : plainName y.cls = true) (hw : ws = Cond.codeWith y cc maxL ret hh :: ws')
    (body : ∀ p e s m args below meth c s₁, BodyLoose p l y (headSpec ws rm) cc maxL ret e s m args below meth c s₁ → c.maxLocals = maxL → Pc args s →
      W p l e (headSpec ws rm).room s m args below meth c s.heap [] 0 0 (vx_MQ below Qc XC args s mc ms free) (entryFrame m args maxL)) : vx_Met l y ws rm Pc Qc XC mc ms free := by
  refine MetFree.of_bodyS (code := cc) (maxLocals := maxL) (ret := ret) hy ?_ ?_
  · intro args s m h hn
    obtain ⟨m9, meth, c, hn9, h1, h2, h3, h4, -, h5, h6, -⟩ := Cond.codeWith_spec (atoms_spec (ws := ws) h _ (by rw [hw]; exact List.mem_cons_self))
    cases hn.symm.trans hn9
    exact ⟨meth, c, h1, h2, h3, h4, h5, h6⟩
  · intro p e s m args below meth c s₁ B hml hP _
    have hh0 : s₁.heap = s.heap := by rw [B.state]; rfl
    obtain ⟨t, a1, o, b1, b2, b3⟩ := body p e s m args below meth c s₁ B hml hP s₁ hh0 (Stand.of_body B)
    exact ⟨t, o, a1, b1, b2, b3⟩
/-! ===== END ===== -/
end
section
def RX0 : String := "RopeTackle$Ledger"
def TX0 : u_T := fun k => match k with
  | 0 => ("RopeTackle$Ledger", "parts", "[I", true)
  | 1 => ("RopeTackle$Ledger", "latest", "I", false)
  | 2 => ("RopeTackle$Ledger", "kept", "I", false)
  | 3 => ("RopeTackle$Ledger", "rises", "I", false)
  | 4 => ("RopeTackle$Ledger", "sinkings", "I", false)
  | 5 => ("RopeTackle$Ledger", "workPut", "J", false)
  | _ => ("RopeTackle$Ledger", "workGot", "J", false)
def tyX0 : Nat → FieldType := fun k => match k with
  | 0 => .array .int
  | 1 => .int
  | 2 => .int
  | 3 => .int
  | 4 => .int
  | 5 => .long
  | _ => .long
abbrev wsX00 : List Cond := u_ws RX0 TX0 7
theorem nmX0 : ∀ a, a < 7 → ∀ b, b < 7 → a ≠ b → (TX0 a).2.1 ≠ (TX0 b).2.1 := by decide +kernel
theorem tyX0_ok : ∀ k, k < 7 → parseFieldDescriptor (TX0 k).2.2.1 = some (tyX0 k) := by decide +kernel
abbrev cX0_init : ByteArray := prog_2_method_1_code
def yX0_init : MethodName := ⟨RX0, "<init>", "()V"⟩
abbrev cX0_copyFrom : ByteArray := prog_2_method_2_code
def yX0_copyFrom : MethodName := ⟨RX0, "copyFrom", "(LRopeTackle$Ledger;)V"⟩
abbrev cX0_note : ByteArray := prog_2_method_3_code
def yX0_note : MethodName := ⟨RX0, "note", "(III)V"⟩
abbrev cX0_part : ByteArray := prog_2_method_4_code
def yX0_part : MethodName := ⟨RX0, "part", "(II)I"⟩
def RX1 : String := "RopeTackle$Reeving"
def TX1 : u_T := fun k => match k with
  | 0 => ("RopeTackle$Reeving", "row", "[I", true)
  | 1 => ("RopeTackle$Reeving", "pulleys", "I", false)
  | 2 => ("RopeTackle$Reeving", "end", "I", false)
  | _ => ("RopeTackle$Reeving", "friction", "I", false)
def tyX1 : Nat → FieldType := fun k => match k with
  | 0 => .array .int
  | 1 => .int
  | 2 => .int
  | _ => .int
abbrev wsX10 : List Cond := u_ws RX1 TX1 4
theorem nmX1 : ∀ a, a < 4 → ∀ b, b < 4 → a ≠ b → (TX1 a).2.1 ≠ (TX1 b).2.1 := by decide +kernel
theorem tyX1_ok : ∀ k, k < 4 → parseFieldDescriptor (TX1 k).2.2.1 = some (tyX1 k) := by decide +kernel
abbrev cX1_init : ByteArray := prog_3_method_1_code
def yX1_init : MethodName := ⟨RX1, "<init>", "()V"⟩
abbrev cX1_copyFrom : ByteArray := prog_3_method_2_code
def yX1_copyFrom : MethodName := ⟨RX1, "copyFrom", "(LRopeTackle$Reeving;)V"⟩
abbrev cX1_unreeve : ByteArray := prog_3_method_3_code
def yX1_unreeve : MethodName := ⟨RX1, "unreeve", "()V"⟩
abbrev cX1_hang : ByteArray := prog_3_method_4_code
def yX1_hang : MethodName := ⟨RX1, "hang", "(I)V"⟩
abbrev cX1_unhang : ByteArray := prog_3_method_5_code
def yX1_unhang : MethodName := ⟨RX1, "unhang", "()I"⟩
abbrev cX1_swap : ByteArray := prog_3_method_6_code
def yX1_swap : MethodName := ⟨RX1, "swap", "(II)V"⟩
abbrev cX1_pulleysOn : ByteArray := prog_3_method_7_code
def yX1_pulleysOn : MethodName := ⟨RX1, "pulleysOn", "(I)I"⟩
abbrev cX1_strandsOf : ByteArray := prog_3_method_8_code
def yX1_strandsOf : MethodName := ⟨RX1, "strandsOf", "(I)I"⟩
abbrev cX1_passes : ByteArray := prog_3_method_9_code
def yX1_passes : MethodName := ⟨RX1, "passes", "()I"⟩
abbrev cX1_behindOne : ByteArray := prog_3_method_10_code
def yX1_behindOne : MethodName := ⟨RX1, "behindOne", "(JZ)J"⟩
abbrev cX1_forceBehind : ByteArray := prog_3_method_11_code
def yX1_forceBehind : MethodName := ⟨RX1, "forceBehind", "(IIZ)J"⟩
abbrev cX1_pullOn : ByteArray := prog_3_method_12_code
def yX1_pullOn : MethodName := ⟨RX1, "pullOn", "(IIZ)J"⟩
abbrev cX1_leastForce : ByteArray := prog_3_method_13_code
def yX1_leastForce : MethodName := ⟨RX1, "leastForce", "(IIZ)I"⟩
def RX2 : String := "RopeTackle$State"
def TX2 : u_T := fun k => match k with
  | 0 => ("RopeTackle$State", "reeving", "LRopeTackle$Reeving;", true)
  | 1 => ("RopeTackle$State", "ledger", "LRopeTackle$Ledger;", true)
  | 2 => ("RopeTackle$State", "weights", "[I", true)
  | 3 => ("RopeTackle$State", "heights", "[I", true)
  | 4 => ("RopeTackle$State", "forces", "[I", true)
  | _ => ("RopeTackle$State", "ropeLength", "I", false)
def tyX2 : Nat → FieldType := fun k => match k with
  | 0 => .object "RopeTackle$Reeving"
  | 1 => .object "RopeTackle$Ledger"
  | 2 => .array .int
  | 3 => .array .int
  | 4 => .array .int
  | _ => .int
abbrev wsX20 : List Cond := u_ws RX2 TX2 6
theorem nmX2 : ∀ a, a < 6 → ∀ b, b < 6 → a ≠ b → (TX2 a).2.1 ≠ (TX2 b).2.1 := by decide +kernel
theorem tyX2_ok : ∀ k, k < 6 → parseFieldDescriptor (TX2 k).2.2.1 = some (tyX2 k) := by decide +kernel
abbrev cX2_init : ByteArray := prog_4_method_1_code
def yX2_init : MethodName := ⟨RX2, "<init>", "()V"⟩
abbrev cX2_copyFrom : ByteArray := prog_4_method_2_code
def yX2_copyFrom : MethodName := ⟨RX2, "copyFrom", "(LRopeTackle$State;)V"⟩
abbrev cX2_weightOf : ByteArray := prog_4_method_3_code
def yX2_weightOf : MethodName := ⟨RX2, "weightOf", "(I)I"⟩
abbrev cX2_giveWeight : ByteArray := prog_4_method_4_code
def yX2_giveWeight : MethodName := ⟨RX2, "giveWeight", "(II)V"⟩
abbrev cX2_heightOf : ByteArray := prog_4_method_5_code
def yX2_heightOf : MethodName := ⟨RX2, "heightOf", "(I)I"⟩
abbrev cX2_layAllDown : ByteArray := prog_4_method_6_code
def yX2_layAllDown : MethodName := ⟨RX2, "layAllDown", "()V"⟩
abbrev cX2_inStrands : ByteArray := prog_4_method_7_code
def yX2_inStrands : MethodName := ⟨RX2, "inStrands", "()I"⟩
abbrev cX2_inHand : ByteArray := prog_4_method_8_code
def yX2_inHand : MethodName := ⟨RX2, "inHand", "()I"⟩
abbrev cX2_leastForceFor : ByteArray := prog_4_method_9_code
def yX2_leastForceFor : MethodName := ⟨RX2, "leastForceFor", "(IZ)I"⟩
abbrev cX2_reckonForces : ByteArray := prog_4_method_10_code
def yX2_reckonForces : MethodName := ⟨RX2, "reckonForces", "(Z)V"⟩
abbrev cX2_nextToRise : ByteArray := prog_4_method_11_code
def yX2_nextToRise : MethodName := ⟨RX2, "nextToRise", "(I)I"⟩
abbrev cX2_nextToSink : ByteArray := prog_4_method_12_code
def yX2_nextToSink : MethodName := ⟨RX2, "nextToSink", "(I)I"⟩
abbrev cX2_moveUp : ByteArray := prog_4_method_13_code
def yX2_moveUp : MethodName := ⟨RX2, "moveUp", "(II)I"⟩
abbrev cX2_moveDown : ByteArray := prog_4_method_14_code
def yX2_moveDown : MethodName := ⟨RX2, "moveDown", "(II)I"⟩
abbrev cX2_moveInTurn : ByteArray := prog_4_method_15_code
def yX2_moveInTurn : MethodName := ⟨RX2, "moveInTurn", "(IIZ)I"⟩
abbrev cX2_moveOne : ByteArray := prog_4_method_16_code
def yX2_moveOne : MethodName := ⟨RX2, "moveOne", "(IIZ)I"⟩
def RX3 : String := "RopeTackle$Text"
def TX3 : u_T := fun k => match k with
  | 0 => ("RopeTackle$Text", "bytes", "[I", true)
  | 1 => ("RopeTackle$Text", "length", "I", false)
  | _ => ("RopeTackle$Text", "place", "I", false)
def tyX3 : Nat → FieldType := fun k => match k with
  | 0 => .array .int
  | 1 => .int
  | _ => .int
abbrev wsX30 : List Cond := u_ws RX3 TX3 3
theorem nmX3 : ∀ a, a < 3 → ∀ b, b < 3 → a ≠ b → (TX3 a).2.1 ≠ (TX3 b).2.1 := by decide +kernel
theorem tyX3_ok : ∀ k, k < 3 → parseFieldDescriptor (TX3 k).2.2.1 = some (tyX3 k) := by decide +kernel
abbrev cX3_init : ByteArray := prog_5_method_1_code
def yX3_init : MethodName := ⟨RX3, "<init>", "()V"⟩
abbrev cX3_readInto : ByteArray := prog_5_method_2_code
def yX3_readInto : MethodName := ⟨RX3, "readInto", "(LRopeTackle$State;)I"⟩
abbrev cX3_readWeight : ByteArray := prog_5_method_3_code
def yX3_readWeight : MethodName := ⟨RX3, "readWeight", "(LRopeTackle$State;I)I"⟩
abbrev cX3_nextIsFrom : ByteArray := prog_5_method_4_code
def yX3_nextIsFrom : MethodName := ⟨RX3, "nextIsFrom", "(II)Z"⟩
abbrev cX3_takeDigit : ByteArray := prog_5_method_5_code
def yX3_takeDigit : MethodName := ⟨RX3, "takeDigit", "()I"⟩
def RX4 : String := "RopeTackle"
def TX4 : u_T := fun k => match k with
  | 0 => ("RopeTackle", "now", "LRopeTackle$State;", true)
  | 1 => ("RopeTackle", "trial", "LRopeTackle$State;", true)
  | 2 => ("RopeTackle", "saved", "[LRopeTackle$State;", true)
  | 3 => ("RopeTackle", "savedCount", "I", false)
  | 4 => ("RopeTackle", "nextSlot", "I", false)
  | _ => ("RopeTackle", "text", "LRopeTackle$Text;", true)
def tyX4 : Nat → FieldType := fun k => match k with
  | 0 => .object "RopeTackle$State"
  | 1 => .object "RopeTackle$State"
  | 2 => .array (.object "RopeTackle$State")
  | 3 => .int
  | 4 => .int
  | _ => .object "RopeTackle$Text"
abbrev wsX40 : List Cond := u_ws RX4 TX4 6
theorem nmX4 : ∀ a, a < 6 → ∀ b, b < 6 → a ≠ b → (TX4 a).2.1 ≠ (TX4 b).2.1 := by decide +kernel
theorem tyX4_ok : ∀ k, k < 6 → parseFieldDescriptor (TX4 k).2.2.1 = some (tyX4 k) := by decide +kernel
abbrev cX4_init : ByteArray := prog_1_method_1_code
def yX4_init : MethodName := ⟨RX4, "<init>", "()V"⟩
abbrev cX4_setWeight : ByteArray := prog_1_method_2_code
def yX4_setWeight : MethodName := ⟨RX4, "setWeight", "(II)I"⟩
abbrev cX4_setFriction : ByteArray := prog_1_method_3_code
def yX4_setFriction : MethodName := ⟨RX4, "setFriction", "(I)I"⟩
abbrev cX4_setLength : ByteArray := prog_1_method_4_code
def yX4_setLength : MethodName := ⟨RX4, "setLength", "(I)I"⟩
abbrev cX4_addPulley : ByteArray := prog_1_method_5_code
def yX4_addPulley : MethodName := ⟨RX4, "addPulley", "(I)I"⟩
abbrev cX4_takePulley : ByteArray := prog_1_method_6_code
def yX4_takePulley : MethodName := ⟨RX4, "takePulley", "()I"⟩
abbrev cX4_setEnd : ByteArray := prog_1_method_7_code
def yX4_setEnd : MethodName := ⟨RX4, "setEnd", "(I)I"⟩
abbrev cX4_haul : ByteArray := prog_1_method_8_code
def yX4_haul : MethodName := ⟨RX4, "haul", "(II)I"⟩
abbrev cX4_letOut : ByteArray := prog_1_method_9_code
def yX4_letOut : MethodName := ⟨RX4, "letOut", "(II)I"⟩
abbrev cX4_block : ByteArray := prog_1_method_10_code
def yX4_block : MethodName := ⟨RX4, "block", "(II)I"⟩
abbrev cX4_pulley : ByteArray := prog_1_method_11_code
def yX4_pulley : MethodName := ⟨RX4, "pulley", "(I)I"⟩
abbrev cX4_force : ByteArray := prog_1_method_12_code
def yX4_force : MethodName := ⟨RX4, "force", "(IIZ)J"⟩
abbrev cX4_pull : ByteArray := prog_1_method_13_code
def yX4_pull : MethodName := ⟨RX4, "pull", "(IIZ)J"⟩
abbrev cX4_value : ByteArray := prog_1_method_14_code
def yX4_value : MethodName := ⟨RX4, "value", "(I)I"⟩
abbrev cX4_work : ByteArray := prog_1_method_15_code
def yX4_work : MethodName := ⟨RX4, "work", "(Z)J"⟩
abbrev cX4_entry : ByteArray := prog_1_method_16_code
def yX4_entry : MethodName := ⟨RX4, "entry", "(II)I"⟩
abbrev cX4_first : ByteArray := prog_1_method_17_code
def yX4_first : MethodName := ⟨RX4, "first", "()I"⟩
abbrev cX4_forceForAll : ByteArray := prog_1_method_18_code
def yX4_forceForAll : MethodName := ⟨RX4, "forceForAll", "()I"⟩
abbrev cX4_pulleysFor : ByteArray := prog_1_method_19_code
def yX4_pulleysFor : MethodName := ⟨RX4, "pulleysFor", "(II)I"⟩
abbrev cX4_bestEnd : ByteArray := prog_1_method_20_code
def yX4_bestEnd : MethodName := ⟨RX4, "bestEnd", "(I)I"⟩
abbrev cX4_swapped : ByteArray := prog_1_method_21_code
def yX4_swapped : MethodName := ⟨RX4, "swapped", "(III)I"⟩
abbrev cX4_riseBy : ByteArray := prog_1_method_22_code
def yX4_riseBy : MethodName := ⟨RX4, "riseBy", "(III)I"⟩
abbrev cX4_efficiency : ByteArray := prog_1_method_23_code
def yX4_efficiency : MethodName := ⟨RX4, "efficiency", "()D"⟩
abbrev cX4_append : ByteArray := prog_1_method_24_code
def yX4_append : MethodName := ⟨RX4, "append", "(I)I"⟩
abbrev cX4_clearText : ByteArray := prog_1_method_25_code
def yX4_clearText : MethodName := ⟨RX4, "clearText", "()I"⟩
abbrev cX4_parse : ByteArray := prog_1_method_26_code
def yX4_parse : MethodName := ⟨RX4, "parse", "()I"⟩
abbrev cX4_undo : ByteArray := prog_1_method_27_code
def yX4_undo : MethodName := ⟨RX4, "undo", "()I"⟩
abbrev cX4_digest : ByteArray := prog_1_method_28_code
def yX4_digest : MethodName := ⟨RX4, "digest", "()J"⟩
abbrev cX4_save : ByteArray := prog_1_method_29_code
def yX4_save : MethodName := ⟨RX4, "save", "()V"⟩
abbrev cX4_savedAt : ByteArray := prog_1_method_30_code
def yX4_savedAt : MethodName := ⟨RX4, "savedAt", "(I)LRopeTackle$State;"⟩
abbrev cX4_acceptTrial : ByteArray := prog_1_method_31_code
def yX4_acceptTrial : MethodName := ⟨RX4, "acceptTrial", "()V"⟩
abbrev cX4_checkTrialRope : ByteArray := prog_1_method_32_code
def yX4_checkTrialRope : MethodName := ⟨RX4, "checkTrialRope", "()V"⟩
abbrev cX4_isBlock : ByteArray := prog_1_method_33_code
def yX4_isBlock : MethodName := ⟨RX4, "isBlock", "(I)Z"⟩
abbrev cX4_checkBlock : ByteArray := prog_1_method_34_code
def yX4_checkBlock : MethodName := ⟨RX4, "checkBlock", "(I)V"⟩
abbrev cX4_checkPulley : ByteArray := prog_1_method_35_code
def yX4_checkPulley : MethodName := ⟨RX4, "checkPulley", "(I)V"⟩
abbrev cX4_checkRange : ByteArray := prog_1_method_36_code
def yX4_checkRange : MethodName := ⟨RX4, "checkRange", "(III)V"⟩
abbrev cX4_at : ByteArray := prog_1_method_37_code
def yX4_at : MethodName := ⟨RX4, "at", "([II)I"⟩
abbrev cX4_put : ByteArray := prog_1_method_38_code
def yX4_put : MethodName := ⟨RX4, "put", "([III)V"⟩
abbrev cX4_copyRow : ByteArray := prog_1_method_39_code
def yX4_copyRow : MethodName := ⟨RX4, "copyRow", "([I[I)V"⟩
def RX5 : String := "RopeTackleModel"
def TX5 : u_T := fun k => match k with
  | 0 => ("RopeTackleModel", "s", "[J", true)
  | 1 => ("RopeTackleModel", "past", "[J", true)
  | 2 => ("RopeTackleModel", "aside", "[J", true)
  | 3 => ("RopeTackleModel", "saved", "I", false)
  | 4 => ("RopeTackleModel", "text", "[I", true)
  | 5 => ("RopeTackleModel", "length", "I", false)
  | 6 => ("RopeTackleModel", "thrown", "I", false)
  | 7 => ("RopeTackleModel", "at", "I", false)
  | 8 => ("RopeTackleModel", "readMany", "I", false)
  | 9 => ("RopeTackleModel", "readRow", "[I", true)
  | 10 => ("RopeTackleModel", "readEnd", "I", false)
  | 11 => ("RopeTackleModel", "readWeights", "I", false)
  | 12 => ("RopeTackleModel", "readWeight", "[I", true)
  | _ => ("RopeTackleModel", "h", "J", false)
def tyX5 : Nat → FieldType := fun k => match k with
  | 0 => .array .long
  | 1 => .array .long
  | 2 => .array .long
  | 3 => .int
  | 4 => .array .int
  | 5 => .int
  | 6 => .int
  | 7 => .int
  | 8 => .int
  | 9 => .array .int
  | 10 => .int
  | 11 => .int
  | 12 => .array .int
  | _ => .long
abbrev wsX50 : List Cond := u_ws RX5 TX5 14
theorem nmX5 : ∀ a, a < 14 → ∀ b, b < 14 → a ≠ b → (TX5 a).2.1 ≠ (TX5 b).2.1 := by decide +kernel
theorem tyX5_ok : ∀ k, k < 14 → parseFieldDescriptor (TX5 k).2.2.1 = some (tyX5 k) := by decide +kernel
abbrev cX5_init : ByteArray := prog_7_method_1_code
def yX5_init : MethodName := ⟨RX5, "<init>", "()V"⟩
abbrev cX5_thrown : ByteArray := prog_7_method_2_code
def yX5_thrown : MethodName := ⟨RX5, "thrown", "()I"⟩
abbrev cX5_in : ByteArray := prog_7_method_3_code
def yX5_in : MethodName := ⟨RX5, "in", "(JJJ)Z"⟩
abbrev cX5_fails : ByteArray := prog_7_method_4_code
def yX5_fails : MethodName := ⟨RX5, "fails", "(I)I"⟩
abbrev cX5_tells : ByteArray := prog_7_method_5_code
def yX5_tells : MethodName := ⟨RX5, "tells", "(I)I"⟩
abbrev cX5_isBlock : ByteArray := prog_7_method_6_code
def yX5_isBlock : MethodName := ⟨RX5, "isBlock", "(I)Z"⟩
abbrev cX5_isForce : ByteArray := prog_7_method_7_code
def yX5_isForce : MethodName := ⟨RX5, "isForce", "(I)Z"⟩
abbrev cX5_saves : ByteArray := prog_7_method_8_code
def yX5_saves : MethodName := ⟨RX5, "saves", "()V"⟩
abbrev cX5_laysAside : ByteArray := prog_7_method_9_code
def yX5_laysAside : MethodName := ⟨RX5, "laysAside", "()V"⟩
abbrev cX5_bringsBack : ByteArray := prog_7_method_10_code
def yX5_bringsBack : MethodName := ⟨RX5, "bringsBack", "()V"⟩
abbrev cX5_pulleysOn : ByteArray := prog_7_method_11_code
def yX5_pulleysOn : MethodName := ⟨RX5, "pulleysOn", "(I)I"⟩
abbrev cX5_strands : ByteArray := prog_7_method_12_code
def yX5_strands : MethodName := ⟨RX5, "strands", "(I)I"⟩
abbrev cX5_hanging : ByteArray := prog_7_method_13_code
def yX5_hanging : MethodName := ⟨RX5, "hanging", "()I"⟩
abbrev cX5_inHand : ByteArray := prog_7_method_14_code
def yX5_inHand : MethodName := ⟨RX5, "inHand", "()I"⟩
abbrev cX5_passes : ByteArray := prog_7_method_15_code
def yX5_passes : MethodName := ⟨RX5, "passes", "()I"⟩
abbrev cX5_behind : ByteArray := prog_7_method_16_code
def yX5_behind : MethodName := ⟨RX5, "behind", "(JZ)J"⟩
abbrev cX5_forceAt : ByteArray := prog_7_method_17_code
def yX5_forceAt : MethodName := ⟨RX5, "forceAt", "(IIZ)J"⟩
abbrev cX5_pullOn : ByteArray := prog_7_method_18_code
def yX5_pullOn : MethodName := ⟨RX5, "pullOn", "(IIZ)J"⟩
abbrev cX5_least : ByteArray := prog_7_method_19_code
def yX5_least : MethodName := ⟨RX5, "least", "(IZ)I"⟩
abbrev cX5_puts : ByteArray := prog_7_method_20_code
def yX5_puts : MethodName := ⟨RX5, "puts", "(II)I"⟩
abbrev cX5_setWeight : ByteArray := prog_7_method_21_code
def yX5_setWeight : MethodName := ⟨RX5, "setWeight", "(II)I"⟩
abbrev cX5_setFriction : ByteArray := prog_7_method_22_code
def yX5_setFriction : MethodName := ⟨RX5, "setFriction", "(I)I"⟩
abbrev cX5_setLength : ByteArray := prog_7_method_23_code
def yX5_setLength : MethodName := ⟨RX5, "setLength", "(I)I"⟩
abbrev cX5_addPulley : ByteArray := prog_7_method_24_code
def yX5_addPulley : MethodName := ⟨RX5, "addPulley", "(I)I"⟩
abbrev cX5_takePulley : ByteArray := prog_7_method_25_code
def yX5_takePulley : MethodName := ⟨RX5, "takePulley", "()I"⟩
abbrev cX5_endStrand : ByteArray := prog_7_method_26_code
def yX5_endStrand : MethodName := ⟨RX5, "endStrand", "(I)I"⟩
abbrev cX5_setEnd : ByteArray := prog_7_method_27_code
def yX5_setEnd : MethodName := ⟨RX5, "setEnd", "(I)I"⟩
abbrev cX5_enters : ByteArray := prog_7_method_28_code
def yX5_enters : MethodName := ⟨RX5, "enters", "(III)V"⟩
abbrev cX5_riser : ByteArray := prog_7_method_29_code
def yX5_riser : MethodName := ⟨RX5, "riser", "(I)I"⟩
abbrev cX5_sinker : ByteArray := prog_7_method_30_code
def yX5_sinker : MethodName := ⟨RX5, "sinker", "(I)I"⟩
abbrev cX5_lesser : ByteArray := prog_7_method_31_code
def yX5_lesser : MethodName := ⟨RX5, "lesser", "(JJ)I"⟩
abbrev cX5_hauls : ByteArray := prog_7_method_32_code
def yX5_hauls : MethodName := ⟨RX5, "hauls", "(II)I"⟩
abbrev cX5_haul : ByteArray := prog_7_method_33_code
def yX5_haul : MethodName := ⟨RX5, "haul", "(II)I"⟩
abbrev cX5_letOut : ByteArray := prog_7_method_34_code
def yX5_letOut : MethodName := ⟨RX5, "letOut", "(II)I"⟩
abbrev cX5_blockTold : ByteArray := prog_7_method_35_code
def yX5_blockTold : MethodName := ⟨RX5, "blockTold", "(II)I"⟩
abbrev cX5_block : ByteArray := prog_7_method_36_code
def yX5_block : MethodName := ⟨RX5, "block", "(II)I"⟩
abbrev cX5_pulley : ByteArray := prog_7_method_37_code
def yX5_pulley : MethodName := ⟨RX5, "pulley", "(I)I"⟩
abbrev cX5_force : ByteArray := prog_7_method_38_code
def yX5_force : MethodName := ⟨RX5, "force", "(IIZ)J"⟩
abbrev cX5_pull : ByteArray := prog_7_method_39_code
def yX5_pull : MethodName := ⟨RX5, "pull", "(IIZ)J"⟩
abbrev cX5_valueTold : ByteArray := prog_7_method_40_code
def yX5_valueTold : MethodName := ⟨RX5, "valueTold", "(I)I"⟩
abbrev cX5_value : ByteArray := prog_7_method_41_code
def yX5_value : MethodName := ⟨RX5, "value", "(I)I"⟩
abbrev cX5_work : ByteArray := prog_7_method_42_code
def yX5_work : MethodName := ⟨RX5, "work", "(Z)J"⟩
abbrev cX5_entry : ByteArray := prog_7_method_43_code
def yX5_entry : MethodName := ⟨RX5, "entry", "(II)I"⟩
abbrev cX5_first : ByteArray := prog_7_method_44_code
def yX5_first : MethodName := ⟨RX5, "first", "()I"⟩
abbrev cX5_forceForAll : ByteArray := prog_7_method_45_code
def yX5_forceForAll : MethodName := ⟨RX5, "forceForAll", "()I"⟩
abbrev cX5_pulleysFor : ByteArray := prog_7_method_46_code
def yX5_pulleysFor : MethodName := ⟨RX5, "pulleysFor", "(II)I"⟩
abbrev cX5_bestEnd : ByteArray := prog_7_method_47_code
def yX5_bestEnd : MethodName := ⟨RX5, "bestEnd", "(I)I"⟩
abbrev cX5_changes : ByteArray := prog_7_method_48_code
def yX5_changes : MethodName := ⟨RX5, "changes", "(II)V"⟩
abbrev cX5_swapped : ByteArray := prog_7_method_49_code
def yX5_swapped : MethodName := ⟨RX5, "swapped", "(III)I"⟩
abbrev cX5_riseBy : ByteArray := prog_7_method_50_code
def yX5_riseBy : MethodName := ⟨RX5, "riseBy", "(III)I"⟩
abbrev cX5_efficiency : ByteArray := prog_7_method_51_code
def yX5_efficiency : MethodName := ⟨RX5, "efficiency", "()D"⟩
abbrev cX5_append : ByteArray := prog_7_method_52_code
def yX5_append : MethodName := ⟨RX5, "append", "(I)I"⟩
abbrev cX5_clearText : ByteArray := prog_7_method_53_code
def yX5_clearText : MethodName := ⟨RX5, "clearText", "()I"⟩
abbrev cX5_isAt : ByteArray := prog_7_method_54_code
def yX5_isAt : MethodName := ⟨RX5, "isAt", "(II)Z"⟩
abbrev cX5_readsWeight : ByteArray := prog_7_method_55_code
def yX5_readsWeight : MethodName := ⟨RX5, "readsWeight", "()Z"⟩
abbrev cX5_reads : ByteArray := prog_7_method_56_code
def yX5_reads : MethodName := ⟨RX5, "reads", "()Z"⟩
abbrev cX5_parse : ByteArray := prog_7_method_57_code
def yX5_parse : MethodName := ⟨RX5, "parse", "()I"⟩
abbrev cX5_undo : ByteArray := prog_7_method_58_code
def yX5_undo : MethodName := ⟨RX5, "undo", "()I"⟩
abbrev cX5_mix : ByteArray := prog_7_method_59_code
def yX5_mix : MethodName := ⟨RX5, "mix", "(J)V"⟩
abbrev cX5_digest : ByteArray := prog_7_method_60_code
def yX5_digest : MethodName := ⟨RX5, "digest", "()J"⟩
def RJ9 : String := "java/lang/Math"
def TJ9 : u_T := fun k => match k with
  | _ => ("", "", "", false)
def tyJ9 : Nat → FieldType := fun k => match k with
  | _ => .int
abbrev wsJ90 : List Cond := u_ws RJ9 TJ9 0
theorem nmJ9 : ∀ a, a < 0 → ∀ b, b < 0 → a ≠ b → (TJ9 a).2.1 ≠ (TJ9 b).2.1 := by decide +kernel
theorem tyJ9_ok : ∀ k, k < 0 → parseFieldDescriptor (TJ9 k).2.2.1 = some (tyJ9 k) := by decide +kernel
abbrev cJ9_floorMod_7cf53 : ByteArray := prog_12_method_50_code
def yJ9_floorMod_7cf53 : MethodName := ⟨RJ9, "floorMod", "(II)I"⟩
abbrev cJ9_max_7cf53 : ByteArray := prog_12_method_65_code
def yJ9_max_7cf53 : MethodName := ⟨RJ9, "max", "(II)I"⟩
abbrev cJ9_min_7cf53 : ByteArray := prog_12_method_69_code
def yJ9_min_7cf53 : MethodName := ⟨RJ9, "min", "(II)I"⟩
def RJ0 : String := "java/lang/String"
def TJ0 : u_T := fun k => match k with
  | _ => ("", "", "", false)
def tyJ0 : Nat → FieldType := fun k => match k with
  | _ => .int
abbrev wsJ00 : List Cond := u_ws RJ0 TJ0 0
theorem nmJ0 : ∀ a, a < 0 → ∀ b, b < 0 → a ≠ b → (TJ0 a).2.1 ≠ (TJ0 b).2.1 := by decide +kernel
theorem tyJ0_ok : ∀ k, k < 0 → parseFieldDescriptor (TJ0 k).2.2.1 = some (tyJ0 k) := by decide +kernel
def RL : String := "RopeTackleLaw"
abbrev cL_setWeight : ByteArray := method_3_code
def yL_setWeight : MethodName := ⟨RL, "setWeight", "(LRopeTackle;II[J)I"⟩
abbrev cL_setFriction : ByteArray := method_4_code
def yL_setFriction : MethodName := ⟨RL, "setFriction", "(LRopeTackle;I[J)I"⟩
abbrev cL_setLength : ByteArray := method_5_code
def yL_setLength : MethodName := ⟨RL, "setLength", "(LRopeTackle;I[J)I"⟩
abbrev cL_addPulley : ByteArray := method_6_code
def yL_addPulley : MethodName := ⟨RL, "addPulley", "(LRopeTackle;I[J)I"⟩
abbrev cL_takePulley : ByteArray := method_7_code
def yL_takePulley : MethodName := ⟨RL, "takePulley", "(LRopeTackle;[J)I"⟩
abbrev cL_setEnd : ByteArray := method_8_code
def yL_setEnd : MethodName := ⟨RL, "setEnd", "(LRopeTackle;I[J)I"⟩
abbrev cL_haul : ByteArray := method_9_code
def yL_haul : MethodName := ⟨RL, "haul", "(LRopeTackle;II[J)I"⟩
abbrev cL_letOut : ByteArray := method_10_code
def yL_letOut : MethodName := ⟨RL, "letOut", "(LRopeTackle;II[J)I"⟩
abbrev cL_block : ByteArray := method_11_code
def yL_block : MethodName := ⟨RL, "block", "(LRopeTackle;II[J)I"⟩
abbrev cL_pulley : ByteArray := method_12_code
def yL_pulley : MethodName := ⟨RL, "pulley", "(LRopeTackle;I[J)I"⟩
abbrev cL_force : ByteArray := method_13_code
def yL_force : MethodName := ⟨RL, "force", "(LRopeTackle;IIZ[J)I"⟩
abbrev cL_pull : ByteArray := method_14_code
def yL_pull : MethodName := ⟨RL, "pull", "(LRopeTackle;IIZ[J)I"⟩
abbrev cL_value : ByteArray := method_15_code
def yL_value : MethodName := ⟨RL, "value", "(LRopeTackle;I[J)I"⟩
abbrev cL_entry : ByteArray := method_16_code
def yL_entry : MethodName := ⟨RL, "entry", "(LRopeTackle;II[J)I"⟩
abbrev cL_pulleysFor : ByteArray := method_17_code
def yL_pulleysFor : MethodName := ⟨RL, "pulleysFor", "(LRopeTackle;II[J)I"⟩
abbrev cL_bestEnd : ByteArray := method_18_code
def yL_bestEnd : MethodName := ⟨RL, "bestEnd", "(LRopeTackle;I[J)I"⟩
abbrev cL_swapped : ByteArray := method_19_code
def yL_swapped : MethodName := ⟨RL, "swapped", "(LRopeTackle;III[J)I"⟩
abbrev cL_riseBy : ByteArray := method_20_code
def yL_riseBy : MethodName := ⟨RL, "riseBy", "(LRopeTackle;III[J)I"⟩
abbrev cL_append : ByteArray := method_21_code
def yL_append : MethodName := ⟨RL, "append", "(LRopeTackle;I[J)I"⟩
abbrev cL_undo : ByteArray := method_22_code
def yL_undo : MethodName := ⟨RL, "undo", "(LRopeTackle;[J)I"⟩
abbrev cL_law : ByteArray := code
def yL_law : MethodName := ⟨RL, "law", "([I)Z"⟩
abbrev vwCl : List vw_C := [(RX0, TX0, 7), (RX1, TX1, 4), (RX2, TX2, 6), (RX3, TX3, 3), (RX4, TX4, 6), (RX5, TX5, 14)]
end
section
theorem dX0_init_0 : decode cX0_init 0 = .ok (.aload_n 0, 1) := by decide +kernel
theorem dX0_init_1 : decode cX0_init 1 = .ok (.invokespecial 3, 3) := by decide +kernel
theorem dX0_init_4 : decode cX0_init 4 = .ok (.aload_n 0, 1) := by decide +kernel
theorem dX0_init_5 : decode cX0_init 5 = .ok (.bipush 48, 2) := by decide +kernel
theorem dX0_init_7 : decode cX0_init 7 = .ok (.newarray .int, 2) := by decide +kernel
theorem dX0_init_9 : decode cX0_init 9 = .ok (.putfield 9, 3) := by decide +kernel
theorem dX0_init_12 : decode cX0_init 12 = .ok (.aload_n 0, 1) := by decide +kernel
theorem dX0_init_13 : decode cX0_init 13 = .ok (.iconst 0, 1) := by decide +kernel
theorem dX0_init_14 : decode cX0_init 14 = .ok (.putfield 15, 3) := by decide +kernel
theorem dX0_init_17 : decode cX0_init 17 = .ok (.aload_n 0, 1) := by decide +kernel
theorem dX0_init_18 : decode cX0_init 18 = .ok (.iconst 0, 1) := by decide +kernel
theorem dX0_init_19 : decode cX0_init 19 = .ok (.putfield 19, 3) := by decide +kernel
theorem dX0_init_22 : decode cX0_init 22 = .ok (.aload_n 0, 1) := by decide +kernel
theorem dX0_init_23 : decode cX0_init 23 = .ok (.iconst 0, 1) := by decide +kernel
theorem dX0_init_24 : decode cX0_init 24 = .ok (.putfield 22, 3) := by decide +kernel
theorem dX0_init_27 : decode cX0_init 27 = .ok (.aload_n 0, 1) := by decide +kernel
theorem dX0_init_28 : decode cX0_init 28 = .ok (.iconst 0, 1) := by decide +kernel
theorem dX0_init_29 : decode cX0_init 29 = .ok (.putfield 25, 3) := by decide +kernel
theorem dX0_init_32 : decode cX0_init 32 = .ok (.aload_n 0, 1) := by decide +kernel
theorem dX0_init_33 : decode cX0_init 33 = .ok (.lconst 0, 1) := by decide +kernel
theorem dX0_init_34 : decode cX0_init 34 = .ok (.putfield 28, 3) := by decide +kernel
theorem dX0_init_37 : decode cX0_init 37 = .ok (.aload_n 0, 1) := by decide +kernel
theorem dX0_init_38 : decode cX0_init 38 = .ok (.lconst 0, 1) := by decide +kernel
theorem dX0_init_39 : decode cX0_init 39 = .ok (.putfield 32, 3) := by decide +kernel
theorem dX0_init_42 : decode cX0_init 42 = .ok (.return_, 1) := by decide +kernel
theorem dX0_copyFrom_0 : decode cX0_copyFrom 0 = .ok (.aload_n 1, 1) := by decide +kernel
theorem dX0_copyFrom_1 : decode cX0_copyFrom 1 = .ok (.getfield 9, 3) := by decide +kernel
theorem dX0_copyFrom_4 : decode cX0_copyFrom 4 = .ok (.aload_n 0, 1) := by decide +kernel
theorem dX0_copyFrom_5 : decode cX0_copyFrom 5 = .ok (.getfield 9, 3) := by decide +kernel
theorem dX0_copyFrom_8 : decode cX0_copyFrom 8 = .ok (.invokestatic 35, 3) := by decide +kernel
theorem dX0_copyFrom_11 : decode cX0_copyFrom 11 = .ok (.aload_n 0, 1) := by decide +kernel
theorem dX0_copyFrom_12 : decode cX0_copyFrom 12 = .ok (.aload_n 1, 1) := by decide +kernel
theorem dX0_copyFrom_13 : decode cX0_copyFrom 13 = .ok (.getfield 15, 3) := by decide +kernel
theorem dX0_copyFrom_16 : decode cX0_copyFrom 16 = .ok (.putfield 15, 3) := by decide +kernel
theorem dX0_copyFrom_19 : decode cX0_copyFrom 19 = .ok (.aload_n 0, 1) := by decide +kernel
theorem dX0_copyFrom_20 : decode cX0_copyFrom 20 = .ok (.aload_n 1, 1) := by decide +kernel
theorem dX0_copyFrom_21 : decode cX0_copyFrom 21 = .ok (.getfield 19, 3) := by decide +kernel
theorem dX0_copyFrom_24 : decode cX0_copyFrom 24 = .ok (.putfield 19, 3) := by decide +kernel
theorem dX0_copyFrom_27 : decode cX0_copyFrom 27 = .ok (.aload_n 0, 1) := by decide +kernel
theorem dX0_copyFrom_28 : decode cX0_copyFrom 28 = .ok (.aload_n 1, 1) := by decide +kernel
theorem dX0_copyFrom_29 : decode cX0_copyFrom 29 = .ok (.getfield 22, 3) := by decide +kernel
theorem dX0_copyFrom_32 : decode cX0_copyFrom 32 = .ok (.putfield 22, 3) := by decide +kernel
theorem dX0_copyFrom_35 : decode cX0_copyFrom 35 = .ok (.aload_n 0, 1) := by decide +kernel
theorem dX0_copyFrom_36 : decode cX0_copyFrom 36 = .ok (.aload_n 1, 1) := by decide +kernel
theorem dX0_copyFrom_37 : decode cX0_copyFrom 37 = .ok (.getfield 25, 3) := by decide +kernel
theorem dX0_copyFrom_40 : decode cX0_copyFrom 40 = .ok (.putfield 25, 3) := by decide +kernel
theorem dX0_copyFrom_43 : decode cX0_copyFrom 43 = .ok (.aload_n 0, 1) := by decide +kernel
theorem dX0_copyFrom_44 : decode cX0_copyFrom 44 = .ok (.aload_n 1, 1) := by decide +kernel
theorem dX0_copyFrom_45 : decode cX0_copyFrom 45 = .ok (.getfield 28, 3) := by decide +kernel
theorem dX0_copyFrom_48 : decode cX0_copyFrom 48 = .ok (.putfield 28, 3) := by decide +kernel
theorem dX0_copyFrom_51 : decode cX0_copyFrom 51 = .ok (.aload_n 0, 1) := by decide +kernel
theorem dX0_copyFrom_52 : decode cX0_copyFrom 52 = .ok (.aload_n 1, 1) := by decide +kernel
theorem dX0_copyFrom_53 : decode cX0_copyFrom 53 = .ok (.getfield 32, 3) := by decide +kernel
theorem dX0_copyFrom_56 : decode cX0_copyFrom 56 = .ok (.putfield 32, 3) := by decide +kernel
theorem dX0_copyFrom_59 : decode cX0_copyFrom 59 = .ok (.return_, 1) := by decide +kernel
theorem dX0_note_0 : decode cX0_note 0 = .ok (.iload_n 2, 1) := by decide +kernel
theorem dX0_note_1 : decode cX0_note 1 = .ok (.ifCond .le 16, 3) := by decide +kernel
theorem dX0_note_4 : decode cX0_note 4 = .ok (.aload_n 0, 1) := by decide +kernel
theorem dX0_note_5 : decode cX0_note 5 = .ok (.dup, 1) := by decide +kernel
theorem dX0_note_6 : decode cX0_note 6 = .ok (.getfield 22, 3) := by decide +kernel
theorem dX0_note_9 : decode cX0_note 9 = .ok (.iconst 1, 1) := by decide +kernel
theorem dX0_note_10 : decode cX0_note 10 = .ok (.iadd, 1) := by decide +kernel
theorem dX0_note_11 : decode cX0_note 11 = .ok (.putfield 22, 3) := by decide +kernel
theorem dX0_note_14 : decode cX0_note 14 = .ok (.goto 13, 3) := by decide +kernel
theorem dX0_note_17 : decode cX0_note 17 = .ok (.aload_n 0, 1) := by decide +kernel
theorem dX0_note_18 : decode cX0_note 18 = .ok (.dup, 1) := by decide +kernel
theorem dX0_note_19 : decode cX0_note 19 = .ok (.getfield 25, 3) := by decide +kernel
theorem dX0_note_22 : decode cX0_note 22 = .ok (.iconst 1, 1) := by decide +kernel
theorem dX0_note_23 : decode cX0_note 23 = .ok (.iadd, 1) := by decide +kernel
theorem dX0_note_24 : decode cX0_note 24 = .ok (.putfield 25, 3) := by decide +kernel
theorem dX0_note_27 : decode cX0_note 27 = .ok (.aload_n 0, 1) := by decide +kernel
theorem dX0_note_28 : decode cX0_note 28 = .ok (.aload_n 0, 1) := by decide +kernel
theorem dX0_note_29 : decode cX0_note 29 = .ok (.getfield 15, 3) := by decide +kernel
theorem dX0_note_32 : decode cX0_note 32 = .ok (.iconst 1, 1) := by decide +kernel
theorem dX0_note_33 : decode cX0_note 33 = .ok (.iadd, 1) := by decide +kernel
theorem dX0_note_34 : decode cX0_note 34 = .ok (.bipush 16, 2) := by decide +kernel
theorem dX0_note_36 : decode cX0_note 36 = .ok (.invokestatic 39, 3) := by decide +kernel
theorem dX0_note_39 : decode cX0_note 39 = .ok (.putfield 15, 3) := by decide +kernel
theorem dX0_note_42 : decode cX0_note 42 = .ok (.aload_n 0, 1) := by decide +kernel
theorem dX0_note_43 : decode cX0_note 43 = .ok (.getfield 9, 3) := by decide +kernel
theorem dX0_note_46 : decode cX0_note 46 = .ok (.aload_n 0, 1) := by decide +kernel
theorem dX0_note_47 : decode cX0_note 47 = .ok (.getfield 15, 3) := by decide +kernel
theorem dX0_note_50 : decode cX0_note 50 = .ok (.iconst 3, 1) := by decide +kernel
theorem dX0_note_51 : decode cX0_note 51 = .ok (.imul, 1) := by decide +kernel
theorem dX0_note_52 : decode cX0_note 52 = .ok (.iload_n 1, 1) := by decide +kernel
theorem dX0_note_53 : decode cX0_note 53 = .ok (.invokestatic 45, 3) := by decide +kernel
theorem dX0_note_56 : decode cX0_note 56 = .ok (.aload_n 0, 1) := by decide +kernel
theorem dX0_note_57 : decode cX0_note 57 = .ok (.getfield 9, 3) := by decide +kernel
theorem dX0_note_60 : decode cX0_note 60 = .ok (.aload_n 0, 1) := by decide +kernel
theorem dX0_note_61 : decode cX0_note 61 = .ok (.getfield 15, 3) := by decide +kernel
theorem dX0_note_64 : decode cX0_note 64 = .ok (.iconst 3, 1) := by decide +kernel
theorem dX0_note_65 : decode cX0_note 65 = .ok (.imul, 1) := by decide +kernel
theorem dX0_note_66 : decode cX0_note 66 = .ok (.iconst 1, 1) := by decide +kernel
theorem dX0_note_67 : decode cX0_note 67 = .ok (.iadd, 1) := by decide +kernel
theorem dX0_note_68 : decode cX0_note 68 = .ok (.iload_n 2, 1) := by decide +kernel
theorem dX0_note_69 : decode cX0_note 69 = .ok (.invokestatic 45, 3) := by decide +kernel
theorem dX0_note_72 : decode cX0_note 72 = .ok (.aload_n 0, 1) := by decide +kernel
theorem dX0_note_73 : decode cX0_note 73 = .ok (.getfield 9, 3) := by decide +kernel
theorem dX0_note_76 : decode cX0_note 76 = .ok (.aload_n 0, 1) := by decide +kernel
theorem dX0_note_77 : decode cX0_note 77 = .ok (.getfield 15, 3) := by decide +kernel
theorem dX0_note_80 : decode cX0_note 80 = .ok (.iconst 3, 1) := by decide +kernel
theorem dX0_note_81 : decode cX0_note 81 = .ok (.imul, 1) := by decide +kernel
theorem dX0_note_82 : decode cX0_note 82 = .ok (.iconst 2, 1) := by decide +kernel
theorem dX0_note_83 : decode cX0_note 83 = .ok (.iadd, 1) := by decide +kernel
theorem dX0_note_84 : decode cX0_note 84 = .ok (.iload_n 3, 1) := by decide +kernel
theorem dX0_note_85 : decode cX0_note 85 = .ok (.invokestatic 45, 3) := by decide +kernel
theorem dX0_note_88 : decode cX0_note 88 = .ok (.aload_n 0, 1) := by decide +kernel
theorem dX0_note_89 : decode cX0_note 89 = .ok (.aload_n 0, 1) := by decide +kernel
theorem dX0_note_90 : decode cX0_note 90 = .ok (.getfield 19, 3) := by decide +kernel
theorem dX0_note_93 : decode cX0_note 93 = .ok (.iconst 1, 1) := by decide +kernel
theorem dX0_note_94 : decode cX0_note 94 = .ok (.iadd, 1) := by decide +kernel
theorem dX0_note_95 : decode cX0_note 95 = .ok (.bipush 16, 2) := by decide +kernel
theorem dX0_note_97 : decode cX0_note 97 = .ok (.invokestatic 49, 3) := by decide +kernel
theorem dX0_note_100 : decode cX0_note 100 = .ok (.putfield 19, 3) := by decide +kernel
theorem dX0_note_103 : decode cX0_note 103 = .ok (.return_, 1) := by decide +kernel
theorem dX0_part_0 : decode cX0_part 0 = .ok (.aload_n 0, 1) := by decide +kernel
theorem dX0_part_1 : decode cX0_part 1 = .ok (.getfield 9, 3) := by decide +kernel
theorem dX0_part_4 : decode cX0_part 4 = .ok (.aload_n 0, 1) := by decide +kernel
theorem dX0_part_5 : decode cX0_part 5 = .ok (.getfield 15, 3) := by decide +kernel
theorem dX0_part_8 : decode cX0_part 8 = .ok (.iload_n 1, 1) := by decide +kernel
theorem dX0_part_9 : decode cX0_part 9 = .ok (.isub, 1) := by decide +kernel
theorem dX0_part_10 : decode cX0_part 10 = .ok (.bipush 16, 2) := by decide +kernel
theorem dX0_part_12 : decode cX0_part 12 = .ok (.invokestatic 39, 3) := by decide +kernel
theorem dX0_part_15 : decode cX0_part 15 = .ok (.iconst 3, 1) := by decide +kernel
theorem dX0_part_16 : decode cX0_part 16 = .ok (.imul, 1) := by decide +kernel
theorem dX0_part_17 : decode cX0_part 17 = .ok (.iload_n 2, 1) := by decide +kernel
theorem dX0_part_18 : decode cX0_part 18 = .ok (.iadd, 1) := by decide +kernel
theorem dX0_part_19 : decode cX0_part 19 = .ok (.invokestatic 52, 3) := by decide +kernel
theorem dX0_part_22 : decode cX0_part 22 = .ok (.ireturn, 1) := by decide +kernel
theorem dX1_init_0 : decode cX1_init 0 = .ok (.aload_n 0, 1) := by decide +kernel
theorem dX1_init_1 : decode cX1_init 1 = .ok (.invokespecial 3, 3) := by decide +kernel
theorem dX1_init_4 : decode cX1_init 4 = .ok (.aload_n 0, 1) := by decide +kernel
theorem dX1_init_5 : decode cX1_init 5 = .ok (.bipush 10, 2) := by decide +kernel
theorem dX1_init_7 : decode cX1_init 7 = .ok (.newarray .int, 2) := by decide +kernel
theorem dX1_init_9 : decode cX1_init 9 = .ok (.putfield 9, 3) := by decide +kernel
theorem dX1_init_12 : decode cX1_init 12 = .ok (.aload_n 0, 1) := by decide +kernel
theorem dX1_init_13 : decode cX1_init 13 = .ok (.iconst 1, 1) := by decide +kernel
theorem dX1_init_14 : decode cX1_init 14 = .ok (.putfield 15, 3) := by decide +kernel
theorem dX1_init_17 : decode cX1_init 17 = .ok (.aload_n 0, 1) := by decide +kernel
theorem dX1_init_18 : decode cX1_init 18 = .ok (.iconst 4, 1) := by decide +kernel
theorem dX1_init_19 : decode cX1_init 19 = .ok (.putfield 19, 3) := by decide +kernel
theorem dX1_init_22 : decode cX1_init 22 = .ok (.aload_n 0, 1) := by decide +kernel
theorem dX1_init_23 : decode cX1_init 23 = .ok (.bipush 10, 2) := by decide +kernel
theorem dX1_init_25 : decode cX1_init 25 = .ok (.putfield 22, 3) := by decide +kernel
theorem dX1_init_28 : decode cX1_init 28 = .ok (.return_, 1) := by decide +kernel
theorem dX1_copyFrom_0 : decode cX1_copyFrom 0 = .ok (.aload_n 1, 1) := by decide +kernel
theorem dX1_copyFrom_1 : decode cX1_copyFrom 1 = .ok (.getfield 9, 3) := by decide +kernel
theorem dX1_copyFrom_4 : decode cX1_copyFrom 4 = .ok (.aload_n 0, 1) := by decide +kernel
theorem dX1_copyFrom_5 : decode cX1_copyFrom 5 = .ok (.getfield 9, 3) := by decide +kernel
theorem dX1_copyFrom_8 : decode cX1_copyFrom 8 = .ok (.invokestatic 25, 3) := by decide +kernel
theorem dX1_copyFrom_11 : decode cX1_copyFrom 11 = .ok (.aload_n 0, 1) := by decide +kernel
theorem dX1_copyFrom_12 : decode cX1_copyFrom 12 = .ok (.aload_n 1, 1) := by decide +kernel
theorem dX1_copyFrom_13 : decode cX1_copyFrom 13 = .ok (.getfield 15, 3) := by decide +kernel
theorem dX1_copyFrom_16 : decode cX1_copyFrom 16 = .ok (.putfield 15, 3) := by decide +kernel
theorem dX1_copyFrom_19 : decode cX1_copyFrom 19 = .ok (.aload_n 0, 1) := by decide +kernel
theorem dX1_copyFrom_20 : decode cX1_copyFrom 20 = .ok (.aload_n 1, 1) := by decide +kernel
theorem dX1_copyFrom_21 : decode cX1_copyFrom 21 = .ok (.getfield 19, 3) := by decide +kernel
theorem dX1_copyFrom_24 : decode cX1_copyFrom 24 = .ok (.putfield 19, 3) := by decide +kernel
theorem dX1_copyFrom_27 : decode cX1_copyFrom 27 = .ok (.aload_n 0, 1) := by decide +kernel
theorem dX1_copyFrom_28 : decode cX1_copyFrom 28 = .ok (.aload_n 1, 1) := by decide +kernel
theorem dX1_copyFrom_29 : decode cX1_copyFrom 29 = .ok (.getfield 22, 3) := by decide +kernel
theorem dX1_copyFrom_32 : decode cX1_copyFrom 32 = .ok (.putfield 22, 3) := by decide +kernel
theorem dX1_copyFrom_35 : decode cX1_copyFrom 35 = .ok (.return_, 1) := by decide +kernel
theorem dX1_unreeve_0 : decode cX1_unreeve 0 = .ok (.aload_n 0, 1) := by decide +kernel
theorem dX1_unreeve_1 : decode cX1_unreeve 1 = .ok (.iconst 0, 1) := by decide +kernel
theorem dX1_unreeve_2 : decode cX1_unreeve 2 = .ok (.putfield 15, 3) := by decide +kernel
theorem dX1_unreeve_5 : decode cX1_unreeve 5 = .ok (.aload_n 0, 1) := by decide +kernel
theorem dX1_unreeve_6 : decode cX1_unreeve 6 = .ok (.iconst 4, 1) := by decide +kernel
theorem dX1_unreeve_7 : decode cX1_unreeve 7 = .ok (.putfield 19, 3) := by decide +kernel
theorem dX1_unreeve_10 : decode cX1_unreeve 10 = .ok (.return_, 1) := by decide +kernel
theorem dX1_hang_0 : decode cX1_hang 0 = .ok (.aload_n 0, 1) := by decide +kernel
theorem dX1_hang_1 : decode cX1_hang 1 = .ok (.getfield 15, 3) := by decide +kernel
theorem dX1_hang_4 : decode cX1_hang 4 = .ok (.bipush 10, 2) := by decide +kernel
theorem dX1_hang_6 : decode cX1_hang 6 = .ok (.if_icmp .ge 25, 3) := by decide +kernel
theorem dX1_hang_9 : decode cX1_hang 9 = .ok (.aload_n 0, 1) := by decide +kernel
theorem dX1_hang_10 : decode cX1_hang 10 = .ok (.getfield 9, 3) := by decide +kernel
theorem dX1_hang_13 : decode cX1_hang 13 = .ok (.aload_n 0, 1) := by decide +kernel
theorem dX1_hang_14 : decode cX1_hang 14 = .ok (.getfield 15, 3) := by decide +kernel
theorem dX1_hang_17 : decode cX1_hang 17 = .ok (.iload_n 1, 1) := by decide +kernel
theorem dX1_hang_18 : decode cX1_hang 18 = .ok (.invokestatic 29, 3) := by decide +kernel
theorem dX1_hang_21 : decode cX1_hang 21 = .ok (.aload_n 0, 1) := by decide +kernel
theorem dX1_hang_22 : decode cX1_hang 22 = .ok (.dup, 1) := by decide +kernel
theorem dX1_hang_23 : decode cX1_hang 23 = .ok (.getfield 15, 3) := by decide +kernel
theorem dX1_hang_26 : decode cX1_hang 26 = .ok (.iconst 1, 1) := by decide +kernel
theorem dX1_hang_27 : decode cX1_hang 27 = .ok (.iadd, 1) := by decide +kernel
theorem dX1_hang_28 : decode cX1_hang 28 = .ok (.putfield 15, 3) := by decide +kernel
theorem dX1_hang_31 : decode cX1_hang 31 = .ok (.return_, 1) := by decide +kernel
theorem dX1_unhang_0 : decode cX1_unhang 0 = .ok (.aload_n 0, 1) := by decide +kernel
theorem dX1_unhang_1 : decode cX1_unhang 1 = .ok (.getfield 15, 3) := by decide +kernel
theorem dX1_unhang_4 : decode cX1_unhang 4 = .ok (.ifCond .le 13, 3) := by decide +kernel
theorem dX1_unhang_7 : decode cX1_unhang 7 = .ok (.aload_n 0, 1) := by decide +kernel
theorem dX1_unhang_8 : decode cX1_unhang 8 = .ok (.dup, 1) := by decide +kernel
theorem dX1_unhang_9 : decode cX1_unhang 9 = .ok (.getfield 15, 3) := by decide +kernel
theorem dX1_unhang_12 : decode cX1_unhang 12 = .ok (.iconst 1, 1) := by decide +kernel
theorem dX1_unhang_13 : decode cX1_unhang 13 = .ok (.isub, 1) := by decide +kernel
theorem dX1_unhang_14 : decode cX1_unhang 14 = .ok (.putfield 15, 3) := by decide +kernel
theorem dX1_unhang_17 : decode cX1_unhang 17 = .ok (.aload_n 0, 1) := by decide +kernel
theorem dX1_unhang_18 : decode cX1_unhang 18 = .ok (.getfield 9, 3) := by decide +kernel
theorem dX1_unhang_21 : decode cX1_unhang 21 = .ok (.aload_n 0, 1) := by decide +kernel
theorem dX1_unhang_22 : decode cX1_unhang 22 = .ok (.getfield 15, 3) := by decide +kernel
theorem dX1_unhang_25 : decode cX1_unhang 25 = .ok (.invokestatic 33, 3) := by decide +kernel
theorem dX1_unhang_28 : decode cX1_unhang 28 = .ok (.ireturn, 1) := by decide +kernel
theorem dX1_swap_0 : decode cX1_swap 0 = .ok (.aload_n 0, 1) := by decide +kernel
theorem dX1_swap_1 : decode cX1_swap 1 = .ok (.getfield 9, 3) := by decide +kernel
theorem dX1_swap_4 : decode cX1_swap 4 = .ok (.iload_n 1, 1) := by decide +kernel
theorem dX1_swap_5 : decode cX1_swap 5 = .ok (.invokestatic 33, 3) := by decide +kernel
theorem dX1_swap_8 : decode cX1_swap 8 = .ok (.istore_n 3, 1) := by decide +kernel
theorem dX1_swap_9 : decode cX1_swap 9 = .ok (.aload_n 0, 1) := by decide +kernel
theorem dX1_swap_10 : decode cX1_swap 10 = .ok (.getfield 9, 3) := by decide +kernel
theorem dX1_swap_13 : decode cX1_swap 13 = .ok (.iload_n 1, 1) := by decide +kernel
theorem dX1_swap_14 : decode cX1_swap 14 = .ok (.aload_n 0, 1) := by decide +kernel
theorem dX1_swap_15 : decode cX1_swap 15 = .ok (.getfield 9, 3) := by decide +kernel
theorem dX1_swap_18 : decode cX1_swap 18 = .ok (.iload_n 2, 1) := by decide +kernel
theorem dX1_swap_19 : decode cX1_swap 19 = .ok (.invokestatic 33, 3) := by decide +kernel
theorem dX1_swap_22 : decode cX1_swap 22 = .ok (.invokestatic 29, 3) := by decide +kernel
theorem dX1_swap_25 : decode cX1_swap 25 = .ok (.aload_n 0, 1) := by decide +kernel
theorem dX1_swap_26 : decode cX1_swap 26 = .ok (.getfield 9, 3) := by decide +kernel
theorem dX1_swap_29 : decode cX1_swap 29 = .ok (.iload_n 2, 1) := by decide +kernel
theorem dX1_swap_30 : decode cX1_swap 30 = .ok (.iload_n 3, 1) := by decide +kernel
theorem dX1_swap_31 : decode cX1_swap 31 = .ok (.invokestatic 29, 3) := by decide +kernel
theorem dX1_swap_34 : decode cX1_swap 34 = .ok (.return_, 1) := by decide +kernel
theorem dX1_pulleysOn_0 : decode cX1_pulleysOn 0 = .ok (.iconst 0, 1) := by decide +kernel
theorem dX1_pulleysOn_1 : decode cX1_pulleysOn 1 = .ok (.istore_n 2, 1) := by decide +kernel
theorem dX1_pulleysOn_2 : decode cX1_pulleysOn 2 = .ok (.iconst 0, 1) := by decide +kernel
theorem dX1_pulleysOn_3 : decode cX1_pulleysOn 3 = .ok (.istore_n 3, 1) := by decide +kernel
theorem dX1_pulleysOn_4 : decode cX1_pulleysOn 4 = .ok (.iload_n 3, 1) := by decide +kernel
theorem dX1_pulleysOn_5 : decode cX1_pulleysOn 5 = .ok (.aload_n 0, 1) := by decide +kernel
theorem dX1_pulleysOn_6 : decode cX1_pulleysOn 6 = .ok (.getfield 15, 3) := by decide +kernel
theorem dX1_pulleysOn_9 : decode cX1_pulleysOn 9 = .ok (.if_icmp .ge 31, 3) := by decide +kernel
theorem dX1_pulleysOn_12 : decode cX1_pulleysOn 12 = .ok (.iload_n 3, 1) := by decide +kernel
theorem dX1_pulleysOn_13 : decode cX1_pulleysOn 13 = .ok (.aload_n 0, 1) := by decide +kernel
theorem dX1_pulleysOn_14 : decode cX1_pulleysOn 14 = .ok (.getfield 9, 3) := by decide +kernel
theorem dX1_pulleysOn_17 : decode cX1_pulleysOn 17 = .ok (.arraylength, 1) := by decide +kernel
theorem dX1_pulleysOn_18 : decode cX1_pulleysOn 18 = .ok (.if_icmp .ge 22, 3) := by decide +kernel
theorem dX1_pulleysOn_21 : decode cX1_pulleysOn 21 = .ok (.aload_n 0, 1) := by decide +kernel
theorem dX1_pulleysOn_22 : decode cX1_pulleysOn 22 = .ok (.getfield 9, 3) := by decide +kernel
theorem dX1_pulleysOn_25 : decode cX1_pulleysOn 25 = .ok (.iload_n 3, 1) := by decide +kernel
theorem dX1_pulleysOn_26 : decode cX1_pulleysOn 26 = .ok (.iaload, 1) := by decide +kernel
theorem dX1_pulleysOn_27 : decode cX1_pulleysOn 27 = .ok (.iload_n 1, 1) := by decide +kernel
theorem dX1_pulleysOn_28 : decode cX1_pulleysOn 28 = .ok (.if_icmp .ne 6, 3) := by decide +kernel
theorem dX1_pulleysOn_31 : decode cX1_pulleysOn 31 = .ok (.iinc 2 1, 3) := by decide +kernel
theorem dX1_pulleysOn_34 : decode cX1_pulleysOn 34 = .ok (.iinc 3 1, 3) := by decide +kernel
theorem dX1_pulleysOn_37 : decode cX1_pulleysOn 37 = .ok (.goto (-33), 3) := by decide +kernel
theorem dX1_pulleysOn_40 : decode cX1_pulleysOn 40 = .ok (.iload_n 2, 1) := by decide +kernel
theorem dX1_pulleysOn_41 : decode cX1_pulleysOn 41 = .ok (.ireturn, 1) := by decide +kernel
theorem dX1_strandsOf_0 : decode cX1_strandsOf 0 = .ok (.iconst 2, 1) := by decide +kernel
theorem dX1_strandsOf_1 : decode cX1_strandsOf 1 = .ok (.aload_n 0, 1) := by decide +kernel
theorem dX1_strandsOf_2 : decode cX1_strandsOf 2 = .ok (.iload_n 1, 1) := by decide +kernel
theorem dX1_strandsOf_3 : decode cX1_strandsOf 3 = .ok (.invokevirtual 37, 3) := by decide +kernel
theorem dX1_strandsOf_6 : decode cX1_strandsOf 6 = .ok (.imul, 1) := by decide +kernel
theorem dX1_strandsOf_7 : decode cX1_strandsOf 7 = .ok (.aload_n 0, 1) := by decide +kernel
theorem dX1_strandsOf_8 : decode cX1_strandsOf 8 = .ok (.getfield 19, 3) := by decide +kernel
theorem dX1_strandsOf_11 : decode cX1_strandsOf 11 = .ok (.iload_n 1, 1) := by decide +kernel
theorem dX1_strandsOf_12 : decode cX1_strandsOf 12 = .ok (.if_icmp .ne 7, 3) := by decide +kernel
theorem dX1_strandsOf_15 : decode cX1_strandsOf 15 = .ok (.iconst 1, 1) := by decide +kernel
theorem dX1_strandsOf_16 : decode cX1_strandsOf 16 = .ok (.goto 4, 3) := by decide +kernel
theorem dX1_strandsOf_19 : decode cX1_strandsOf 19 = .ok (.iconst 0, 1) := by decide +kernel
theorem dX1_strandsOf_20 : decode cX1_strandsOf 20 = .ok (.iadd, 1) := by decide +kernel
theorem dX1_strandsOf_21 : decode cX1_strandsOf 21 = .ok (.ireturn, 1) := by decide +kernel
theorem dX1_passes_0 : decode cX1_passes 0 = .ok (.iconst 2, 1) := by decide +kernel
theorem dX1_passes_1 : decode cX1_passes 1 = .ok (.aload_n 0, 1) := by decide +kernel
theorem dX1_passes_2 : decode cX1_passes 2 = .ok (.getfield 15, 3) := by decide +kernel
theorem dX1_passes_5 : decode cX1_passes 5 = .ok (.imul, 1) := by decide +kernel
theorem dX1_passes_6 : decode cX1_passes 6 = .ok (.aload_n 0, 1) := by decide +kernel
theorem dX1_passes_7 : decode cX1_passes 7 = .ok (.getfield 19, 3) := by decide +kernel
theorem dX1_passes_10 : decode cX1_passes 10 = .ok (.iconst 4, 1) := by decide +kernel
theorem dX1_passes_11 : decode cX1_passes 11 = .ok (.if_icmp .ne 7, 3) := by decide +kernel
theorem dX1_passes_14 : decode cX1_passes 14 = .ok (.iconst 0, 1) := by decide +kernel
theorem dX1_passes_15 : decode cX1_passes 15 = .ok (.goto 4, 3) := by decide +kernel
theorem dX1_passes_18 : decode cX1_passes 18 = .ok (.iconst 1, 1) := by decide +kernel
theorem dX1_passes_19 : decode cX1_passes 19 = .ok (.iadd, 1) := by decide +kernel
theorem dX1_passes_20 : decode cX1_passes 20 = .ok (.ireturn, 1) := by decide +kernel
theorem dX1_behindOne_0 : decode cX1_behindOne 0 = .ok (.lload_n 1, 1) := by decide +kernel
theorem dX1_behindOne_1 : decode cX1_behindOne 1 = .ok (.aload_n 0, 1) := by decide +kernel
theorem dX1_behindOne_2 : decode cX1_behindOne 2 = .ok (.getfield 22, 3) := by decide +kernel
theorem dX1_behindOne_5 : decode cX1_behindOne 5 = .ok (.i2l, 1) := by decide +kernel
theorem dX1_behindOne_6 : decode cX1_behindOne 6 = .ok (.lmul, 1) := by decide +kernel
theorem dX1_behindOne_7 : decode cX1_behindOne 7 = .ok (.ldc2_w 41, 3) := by decide +kernel
theorem dX1_behindOne_10 : decode cX1_behindOne 10 = .ok (.ldiv, 1) := by decide +kernel
theorem dX1_behindOne_11 : decode cX1_behindOne 11 = .ok (.lstore 4, 2) := by decide +kernel
theorem dX1_behindOne_13 : decode cX1_behindOne 13 = .ok (.iload_n 3, 1) := by decide +kernel
theorem dX1_behindOne_14 : decode cX1_behindOne 14 = .ok (.ifCond .eq 10, 3) := by decide +kernel
theorem dX1_behindOne_17 : decode cX1_behindOne 17 = .ok (.lload_n 1, 1) := by decide +kernel
theorem dX1_behindOne_18 : decode cX1_behindOne 18 = .ok (.lload 4, 2) := by decide +kernel
theorem dX1_behindOne_20 : decode cX1_behindOne 20 = .ok (.lsub, 1) := by decide +kernel
theorem dX1_behindOne_21 : decode cX1_behindOne 21 = .ok (.goto 7, 3) := by decide +kernel
theorem dX1_behindOne_24 : decode cX1_behindOne 24 = .ok (.lload_n 1, 1) := by decide +kernel
theorem dX1_behindOne_25 : decode cX1_behindOne 25 = .ok (.lload 4, 2) := by decide +kernel
theorem dX1_behindOne_27 : decode cX1_behindOne 27 = .ok (.ladd, 1) := by decide +kernel
theorem dX1_behindOne_28 : decode cX1_behindOne 28 = .ok (.lreturn, 1) := by decide +kernel
theorem dX1_forceBehind_0 : decode cX1_forceBehind 0 = .ok (.iload_n 1, 1) := by decide +kernel
theorem dX1_forceBehind_1 : decode cX1_forceBehind 1 = .ok (.i2l, 1) := by decide +kernel
theorem dX1_forceBehind_2 : decode cX1_forceBehind 2 = .ok (.lstore 4, 2) := by decide +kernel
theorem dX1_forceBehind_4 : decode cX1_forceBehind 4 = .ok (.iconst 0, 1) := by decide +kernel
theorem dX1_forceBehind_5 : decode cX1_forceBehind 5 = .ok (.istore 6, 2) := by decide +kernel
theorem dX1_forceBehind_7 : decode cX1_forceBehind 7 = .ok (.iload 6, 2) := by decide +kernel
theorem dX1_forceBehind_9 : decode cX1_forceBehind 9 = .ok (.iload_n 2, 1) := by decide +kernel
theorem dX1_forceBehind_10 : decode cX1_forceBehind 10 = .ok (.if_icmp .ge 18, 3) := by decide +kernel
theorem dX1_forceBehind_13 : decode cX1_forceBehind 13 = .ok (.aload_n 0, 1) := by decide +kernel
theorem dX1_forceBehind_14 : decode cX1_forceBehind 14 = .ok (.lload 4, 2) := by decide +kernel
theorem dX1_forceBehind_16 : decode cX1_forceBehind 16 = .ok (.iload_n 3, 1) := by decide +kernel
theorem dX1_forceBehind_17 : decode cX1_forceBehind 17 = .ok (.invokevirtual 43, 3) := by decide +kernel
theorem dX1_forceBehind_20 : decode cX1_forceBehind 20 = .ok (.lstore 4, 2) := by decide +kernel
theorem dX1_forceBehind_22 : decode cX1_forceBehind 22 = .ok (.iinc 6 1, 3) := by decide +kernel
theorem dX1_forceBehind_25 : decode cX1_forceBehind 25 = .ok (.goto (-18), 3) := by decide +kernel
theorem dX1_forceBehind_28 : decode cX1_forceBehind 28 = .ok (.lload 4, 2) := by decide +kernel
theorem dX1_forceBehind_30 : decode cX1_forceBehind 30 = .ok (.lreturn, 1) := by decide +kernel
theorem dX1_pullOn_0 : decode cX1_pullOn 0 = .ok (.lconst 0, 1) := by decide +kernel
theorem dX1_pullOn_1 : decode cX1_pullOn 1 = .ok (.lstore 4, 2) := by decide +kernel
theorem dX1_pullOn_3 : decode cX1_pullOn 3 = .ok (.iload_n 2, 1) := by decide +kernel
theorem dX1_pullOn_4 : decode cX1_pullOn 4 = .ok (.i2l, 1) := by decide +kernel
theorem dX1_pullOn_5 : decode cX1_pullOn 5 = .ok (.lstore 6, 2) := by decide +kernel
theorem dX1_pullOn_7 : decode cX1_pullOn 7 = .ok (.iconst 0, 1) := by decide +kernel
theorem dX1_pullOn_8 : decode cX1_pullOn 8 = .ok (.istore 8, 2) := by decide +kernel
theorem dX1_pullOn_10 : decode cX1_pullOn 10 = .ok (.iload 8, 2) := by decide +kernel
theorem dX1_pullOn_12 : decode cX1_pullOn 12 = .ok (.aload_n 0, 1) := by decide +kernel
theorem dX1_pullOn_13 : decode cX1_pullOn 13 = .ok (.getfield 15, 3) := by decide +kernel
theorem dX1_pullOn_16 : decode cX1_pullOn 16 = .ok (.if_icmp .ge 58, 3) := by decide +kernel
theorem dX1_pullOn_19 : decode cX1_pullOn 19 = .ok (.iload 8, 2) := by decide +kernel
theorem dX1_pullOn_21 : decode cX1_pullOn 21 = .ok (.aload_n 0, 1) := by decide +kernel
theorem dX1_pullOn_22 : decode cX1_pullOn 22 = .ok (.getfield 9, 3) := by decide +kernel
theorem dX1_pullOn_25 : decode cX1_pullOn 25 = .ok (.arraylength, 1) := by decide +kernel
theorem dX1_pullOn_26 : decode cX1_pullOn 26 = .ok (.if_icmp .ge 48, 3) := by decide +kernel
theorem dX1_pullOn_29 : decode cX1_pullOn 29 = .ok (.aload_n 0, 1) := by decide +kernel
theorem dX1_pullOn_30 : decode cX1_pullOn 30 = .ok (.lload 6, 2) := by decide +kernel
theorem dX1_pullOn_32 : decode cX1_pullOn 32 = .ok (.iload_n 3, 1) := by decide +kernel
theorem dX1_pullOn_33 : decode cX1_pullOn 33 = .ok (.invokevirtual 43, 3) := by decide +kernel
theorem dX1_pullOn_36 : decode cX1_pullOn 36 = .ok (.lstore 9, 2) := by decide +kernel
theorem dX1_pullOn_38 : decode cX1_pullOn 38 = .ok (.aload_n 0, 1) := by decide +kernel
theorem dX1_pullOn_39 : decode cX1_pullOn 39 = .ok (.lload 9, 2) := by decide +kernel
theorem dX1_pullOn_41 : decode cX1_pullOn 41 = .ok (.iload_n 3, 1) := by decide +kernel
theorem dX1_pullOn_42 : decode cX1_pullOn 42 = .ok (.invokevirtual 43, 3) := by decide +kernel
theorem dX1_pullOn_45 : decode cX1_pullOn 45 = .ok (.lstore 6, 2) := by decide +kernel
theorem dX1_pullOn_47 : decode cX1_pullOn 47 = .ok (.aload_n 0, 1) := by decide +kernel
theorem dX1_pullOn_48 : decode cX1_pullOn 48 = .ok (.getfield 9, 3) := by decide +kernel
theorem dX1_pullOn_51 : decode cX1_pullOn 51 = .ok (.iload 8, 2) := by decide +kernel
theorem dX1_pullOn_53 : decode cX1_pullOn 53 = .ok (.iaload, 1) := by decide +kernel
theorem dX1_pullOn_54 : decode cX1_pullOn 54 = .ok (.iload_n 1, 1) := by decide +kernel
theorem dX1_pullOn_55 : decode cX1_pullOn 55 = .ok (.if_icmp .ne 13, 3) := by decide +kernel
theorem dX1_pullOn_58 : decode cX1_pullOn 58 = .ok (.lload 4, 2) := by decide +kernel
theorem dX1_pullOn_60 : decode cX1_pullOn 60 = .ok (.lload 9, 2) := by decide +kernel
theorem dX1_pullOn_62 : decode cX1_pullOn 62 = .ok (.lload 6, 2) := by decide +kernel
theorem dX1_pullOn_64 : decode cX1_pullOn 64 = .ok (.ladd, 1) := by decide +kernel
theorem dX1_pullOn_65 : decode cX1_pullOn 65 = .ok (.ladd, 1) := by decide +kernel
theorem dX1_pullOn_66 : decode cX1_pullOn 66 = .ok (.lstore 4, 2) := by decide +kernel
theorem dX1_pullOn_68 : decode cX1_pullOn 68 = .ok (.iinc 8 1, 3) := by decide +kernel
theorem dX1_pullOn_71 : decode cX1_pullOn 71 = .ok (.goto (-61), 3) := by decide +kernel
theorem dX1_pullOn_74 : decode cX1_pullOn 74 = .ok (.aload_n 0, 1) := by decide +kernel
theorem dX1_pullOn_75 : decode cX1_pullOn 75 = .ok (.getfield 19, 3) := by decide +kernel
theorem dX1_pullOn_78 : decode cX1_pullOn 78 = .ok (.iload_n 1, 1) := by decide +kernel
theorem dX1_pullOn_79 : decode cX1_pullOn 79 = .ok (.if_icmp .ne 16, 3) := by decide +kernel
theorem dX1_pullOn_82 : decode cX1_pullOn 82 = .ok (.lload 4, 2) := by decide +kernel
theorem dX1_pullOn_84 : decode cX1_pullOn 84 = .ok (.aload_n 0, 1) := by decide +kernel
theorem dX1_pullOn_85 : decode cX1_pullOn 85 = .ok (.lload 6, 2) := by decide +kernel
theorem dX1_pullOn_87 : decode cX1_pullOn 87 = .ok (.iload_n 3, 1) := by decide +kernel
theorem dX1_pullOn_88 : decode cX1_pullOn 88 = .ok (.invokevirtual 43, 3) := by decide +kernel
theorem dX1_pullOn_91 : decode cX1_pullOn 91 = .ok (.ladd, 1) := by decide +kernel
theorem dX1_pullOn_92 : decode cX1_pullOn 92 = .ok (.goto 5, 3) := by decide +kernel
theorem dX1_pullOn_95 : decode cX1_pullOn 95 = .ok (.lload 4, 2) := by decide +kernel
theorem dX1_pullOn_97 : decode cX1_pullOn 97 = .ok (.lreturn, 1) := by decide +kernel
theorem dX1_leastForce_0 : decode cX1_leastForce 0 = .ok (.aload_n 0, 1) := by decide +kernel
theorem dX1_leastForce_1 : decode cX1_leastForce 1 = .ok (.iload_n 1, 1) := by decide +kernel
theorem dX1_leastForce_2 : decode cX1_leastForce 2 = .ok (.invokevirtual 47, 3) := by decide +kernel
theorem dX1_leastForce_5 : decode cX1_leastForce 5 = .ok (.ifCond .eq 17, 3) := by decide +kernel
theorem dX1_leastForce_8 : decode cX1_leastForce 8 = .ok (.aload_n 0, 1) := by decide +kernel
theorem dX1_leastForce_9 : decode cX1_leastForce 9 = .ok (.iload_n 1, 1) := by decide +kernel
theorem dX1_leastForce_10 : decode cX1_leastForce 10 = .ok (.ldc 50, 2) := by decide +kernel
theorem dX1_leastForce_12 : decode cX1_leastForce 12 = .ok (.iload_n 3, 1) := by decide +kernel
theorem dX1_leastForce_13 : decode cX1_leastForce 13 = .ok (.invokevirtual 51, 3) := by decide +kernel
theorem dX1_leastForce_16 : decode cX1_leastForce 16 = .ok (.iload_n 2, 1) := by decide +kernel
theorem dX1_leastForce_17 : decode cX1_leastForce 17 = .ok (.i2l, 1) := by decide +kernel
theorem dX1_leastForce_18 : decode cX1_leastForce 18 = .ok (.lcmp, 1) := by decide +kernel
theorem dX1_leastForce_19 : decode cX1_leastForce 19 = .ok (.ifCond .ge 5, 3) := by decide +kernel
theorem dX1_leastForce_22 : decode cX1_leastForce 22 = .ok (.iconst (-1), 1) := by decide +kernel
theorem dX1_leastForce_23 : decode cX1_leastForce 23 = .ok (.ireturn, 1) := by decide +kernel
theorem dX1_leastForce_24 : decode cX1_leastForce 24 = .ok (.iconst 0, 1) := by decide +kernel
theorem dX1_leastForce_25 : decode cX1_leastForce 25 = .ok (.istore 4, 2) := by decide +kernel
theorem dX1_leastForce_27 : decode cX1_leastForce 27 = .ok (.ldc 50, 2) := by decide +kernel
theorem dX1_leastForce_29 : decode cX1_leastForce 29 = .ok (.istore 5, 2) := by decide +kernel
theorem dX1_leastForce_31 : decode cX1_leastForce 31 = .ok (.iconst 0, 1) := by decide +kernel
theorem dX1_leastForce_32 : decode cX1_leastForce 32 = .ok (.istore 6, 2) := by decide +kernel
theorem dX1_leastForce_34 : decode cX1_leastForce 34 = .ok (.iload 6, 2) := by decide +kernel
theorem dX1_leastForce_36 : decode cX1_leastForce 36 = .ok (.bipush 32, 2) := by decide +kernel
theorem dX1_leastForce_38 : decode cX1_leastForce 38 = .ok (.if_icmp .ge 52, 3) := by decide +kernel
theorem dX1_leastForce_41 : decode cX1_leastForce 41 = .ok (.iload 4, 2) := by decide +kernel
theorem dX1_leastForce_43 : decode cX1_leastForce 43 = .ok (.iload 5, 2) := by decide +kernel
theorem dX1_leastForce_45 : decode cX1_leastForce 45 = .ok (.if_icmp .ge 45, 3) := by decide +kernel
theorem dX1_leastForce_48 : decode cX1_leastForce 48 = .ok (.iload 4, 2) := by decide +kernel
theorem dX1_leastForce_50 : decode cX1_leastForce 50 = .ok (.iload 5, 2) := by decide +kernel
theorem dX1_leastForce_52 : decode cX1_leastForce 52 = .ok (.iadd, 1) := by decide +kernel
theorem dX1_leastForce_53 : decode cX1_leastForce 53 = .ok (.iconst 2, 1) := by decide +kernel
theorem dX1_leastForce_54 : decode cX1_leastForce 54 = .ok (.idiv, 1) := by decide +kernel
theorem dX1_leastForce_55 : decode cX1_leastForce 55 = .ok (.istore 7, 2) := by decide +kernel
theorem dX1_leastForce_57 : decode cX1_leastForce 57 = .ok (.aload_n 0, 1) := by decide +kernel
theorem dX1_leastForce_58 : decode cX1_leastForce 58 = .ok (.iload_n 1, 1) := by decide +kernel
theorem dX1_leastForce_59 : decode cX1_leastForce 59 = .ok (.iload 7, 2) := by decide +kernel
theorem dX1_leastForce_61 : decode cX1_leastForce 61 = .ok (.iload_n 3, 1) := by decide +kernel
theorem dX1_leastForce_62 : decode cX1_leastForce 62 = .ok (.invokevirtual 51, 3) := by decide +kernel
theorem dX1_leastForce_65 : decode cX1_leastForce 65 = .ok (.iload_n 2, 1) := by decide +kernel
theorem dX1_leastForce_66 : decode cX1_leastForce 66 = .ok (.i2l, 1) := by decide +kernel
theorem dX1_leastForce_67 : decode cX1_leastForce 67 = .ok (.lcmp, 1) := by decide +kernel
theorem dX1_leastForce_68 : decode cX1_leastForce 68 = .ok (.ifCond .lt 10, 3) := by decide +kernel
theorem dX1_leastForce_71 : decode cX1_leastForce 71 = .ok (.iload 7, 2) := by decide +kernel
theorem dX1_leastForce_73 : decode cX1_leastForce 73 = .ok (.istore 5, 2) := by decide +kernel
theorem dX1_leastForce_75 : decode cX1_leastForce 75 = .ok (.goto 9, 3) := by decide +kernel
theorem dX1_leastForce_78 : decode cX1_leastForce 78 = .ok (.iload 7, 2) := by decide +kernel
theorem dX1_leastForce_80 : decode cX1_leastForce 80 = .ok (.iconst 1, 1) := by decide +kernel
theorem dX1_leastForce_81 : decode cX1_leastForce 81 = .ok (.iadd, 1) := by decide +kernel
theorem dX1_leastForce_82 : decode cX1_leastForce 82 = .ok (.istore 4, 2) := by decide +kernel
theorem dX1_leastForce_84 : decode cX1_leastForce 84 = .ok (.iinc 6 1, 3) := by decide +kernel
theorem dX1_leastForce_87 : decode cX1_leastForce 87 = .ok (.goto (-53), 3) := by decide +kernel
theorem dX1_leastForce_90 : decode cX1_leastForce 90 = .ok (.iload 5, 2) := by decide +kernel
theorem dX1_leastForce_92 : decode cX1_leastForce 92 = .ok (.ireturn, 1) := by decide +kernel
theorem dX2_init_0 : decode cX2_init 0 = .ok (.aload_n 0, 1) := by decide +kernel
theorem dX2_init_1 : decode cX2_init 1 = .ok (.invokespecial 3, 3) := by decide +kernel
theorem dX2_init_4 : decode cX2_init 4 = .ok (.aload_n 0, 1) := by decide +kernel
theorem dX2_init_5 : decode cX2_init 5 = .ok (.new 9, 3) := by decide +kernel
theorem dX2_init_8 : decode cX2_init 8 = .ok (.dup, 1) := by decide +kernel
theorem dX2_init_9 : decode cX2_init 9 = .ok (.invokespecial 11, 3) := by decide +kernel
theorem dX2_init_12 : decode cX2_init 12 = .ok (.putfield 12, 3) := by decide +kernel
theorem dX2_init_15 : decode cX2_init 15 = .ok (.aload_n 0, 1) := by decide +kernel
theorem dX2_init_16 : decode cX2_init 16 = .ok (.new 18, 3) := by decide +kernel
theorem dX2_init_19 : decode cX2_init 19 = .ok (.dup, 1) := by decide +kernel
theorem dX2_init_20 : decode cX2_init 20 = .ok (.invokespecial 20, 3) := by decide +kernel
theorem dX2_init_23 : decode cX2_init 23 = .ok (.putfield 21, 3) := by decide +kernel
theorem dX2_init_26 : decode cX2_init 26 = .ok (.aload_n 0, 1) := by decide +kernel
theorem dX2_init_27 : decode cX2_init 27 = .ok (.iconst 4, 1) := by decide +kernel
theorem dX2_init_28 : decode cX2_init 28 = .ok (.newarray .int, 2) := by decide +kernel
theorem dX2_init_30 : decode cX2_init 30 = .ok (.putfield 25, 3) := by decide +kernel
theorem dX2_init_33 : decode cX2_init 33 = .ok (.aload_n 0, 1) := by decide +kernel
theorem dX2_init_34 : decode cX2_init 34 = .ok (.iconst 4, 1) := by decide +kernel
theorem dX2_init_35 : decode cX2_init 35 = .ok (.newarray .int, 2) := by decide +kernel
theorem dX2_init_37 : decode cX2_init 37 = .ok (.putfield 29, 3) := by decide +kernel
theorem dX2_init_40 : decode cX2_init 40 = .ok (.aload_n 0, 1) := by decide +kernel
theorem dX2_init_41 : decode cX2_init 41 = .ok (.iconst 4, 1) := by decide +kernel
theorem dX2_init_42 : decode cX2_init 42 = .ok (.newarray .int, 2) := by decide +kernel
theorem dX2_init_44 : decode cX2_init 44 = .ok (.putfield 32, 3) := by decide +kernel
theorem dX2_init_47 : decode cX2_init 47 = .ok (.aload_n 0, 1) := by decide +kernel
theorem dX2_init_48 : decode cX2_init 48 = .ok (.ldc 35, 2) := by decide +kernel
theorem dX2_init_50 : decode cX2_init 50 = .ok (.putfield 36, 3) := by decide +kernel
theorem dX2_init_53 : decode cX2_init 53 = .ok (.iconst 0, 1) := by decide +kernel
theorem dX2_init_54 : decode cX2_init 54 = .ok (.istore_n 1, 1) := by decide +kernel
theorem dX2_init_55 : decode cX2_init 55 = .ok (.iload_n 1, 1) := by decide +kernel
theorem dX2_init_56 : decode cX2_init 56 = .ok (.aload_n 0, 1) := by decide +kernel
theorem dX2_init_57 : decode cX2_init 57 = .ok (.getfield 25, 3) := by decide +kernel
theorem dX2_init_60 : decode cX2_init 60 = .ok (.arraylength, 1) := by decide +kernel
theorem dX2_init_61 : decode cX2_init 61 = .ok (.if_icmp .ge 18, 3) := by decide +kernel
theorem dX2_init_64 : decode cX2_init 64 = .ok (.aload_n 0, 1) := by decide +kernel
theorem dX2_init_65 : decode cX2_init 65 = .ok (.getfield 25, 3) := by decide +kernel
theorem dX2_init_68 : decode cX2_init 68 = .ok (.iload_n 1, 1) := by decide +kernel
theorem dX2_init_69 : decode cX2_init 69 = .ok (.sipush 1000, 3) := by decide +kernel
theorem dX2_init_72 : decode cX2_init 72 = .ok (.iastore, 1) := by decide +kernel
theorem dX2_init_73 : decode cX2_init 73 = .ok (.iinc 1 1, 3) := by decide +kernel
theorem dX2_init_76 : decode cX2_init 76 = .ok (.goto (-21), 3) := by decide +kernel
theorem dX2_init_79 : decode cX2_init 79 = .ok (.return_, 1) := by decide +kernel
theorem dX2_copyFrom_0 : decode cX2_copyFrom 0 = .ok (.aload_n 0, 1) := by decide +kernel
theorem dX2_copyFrom_1 : decode cX2_copyFrom 1 = .ok (.getfield 12, 3) := by decide +kernel
theorem dX2_copyFrom_4 : decode cX2_copyFrom 4 = .ok (.aload_n 1, 1) := by decide +kernel
theorem dX2_copyFrom_5 : decode cX2_copyFrom 5 = .ok (.getfield 12, 3) := by decide +kernel
theorem dX2_copyFrom_8 : decode cX2_copyFrom 8 = .ok (.invokevirtual 40, 3) := by decide +kernel
theorem dX2_copyFrom_11 : decode cX2_copyFrom 11 = .ok (.aload_n 0, 1) := by decide +kernel
theorem dX2_copyFrom_12 : decode cX2_copyFrom 12 = .ok (.getfield 21, 3) := by decide +kernel
theorem dX2_copyFrom_15 : decode cX2_copyFrom 15 = .ok (.aload_n 1, 1) := by decide +kernel
theorem dX2_copyFrom_16 : decode cX2_copyFrom 16 = .ok (.getfield 21, 3) := by decide +kernel
theorem dX2_copyFrom_19 : decode cX2_copyFrom 19 = .ok (.invokevirtual 44, 3) := by decide +kernel
theorem dX2_copyFrom_22 : decode cX2_copyFrom 22 = .ok (.aload_n 1, 1) := by decide +kernel
theorem dX2_copyFrom_23 : decode cX2_copyFrom 23 = .ok (.getfield 25, 3) := by decide +kernel
theorem dX2_copyFrom_26 : decode cX2_copyFrom 26 = .ok (.aload_n 0, 1) := by decide +kernel
theorem dX2_copyFrom_27 : decode cX2_copyFrom 27 = .ok (.getfield 25, 3) := by decide +kernel
theorem dX2_copyFrom_30 : decode cX2_copyFrom 30 = .ok (.invokestatic 47, 3) := by decide +kernel
theorem dX2_copyFrom_33 : decode cX2_copyFrom 33 = .ok (.aload_n 1, 1) := by decide +kernel
theorem dX2_copyFrom_34 : decode cX2_copyFrom 34 = .ok (.getfield 29, 3) := by decide +kernel
theorem dX2_copyFrom_37 : decode cX2_copyFrom 37 = .ok (.aload_n 0, 1) := by decide +kernel
theorem dX2_copyFrom_38 : decode cX2_copyFrom 38 = .ok (.getfield 29, 3) := by decide +kernel
theorem dX2_copyFrom_41 : decode cX2_copyFrom 41 = .ok (.invokestatic 47, 3) := by decide +kernel
theorem dX2_copyFrom_44 : decode cX2_copyFrom 44 = .ok (.aload_n 0, 1) := by decide +kernel
theorem dX2_copyFrom_45 : decode cX2_copyFrom 45 = .ok (.aload_n 1, 1) := by decide +kernel
theorem dX2_copyFrom_46 : decode cX2_copyFrom 46 = .ok (.getfield 36, 3) := by decide +kernel
theorem dX2_copyFrom_49 : decode cX2_copyFrom 49 = .ok (.putfield 36, 3) := by decide +kernel
theorem dX2_copyFrom_52 : decode cX2_copyFrom 52 = .ok (.return_, 1) := by decide +kernel
theorem dX2_weightOf_0 : decode cX2_weightOf 0 = .ok (.aload_n 0, 1) := by decide +kernel
theorem dX2_weightOf_1 : decode cX2_weightOf 1 = .ok (.getfield 25, 3) := by decide +kernel
theorem dX2_weightOf_4 : decode cX2_weightOf 4 = .ok (.iload_n 1, 1) := by decide +kernel
theorem dX2_weightOf_5 : decode cX2_weightOf 5 = .ok (.invokestatic 51, 3) := by decide +kernel
theorem dX2_weightOf_8 : decode cX2_weightOf 8 = .ok (.ireturn, 1) := by decide +kernel
theorem dX2_giveWeight_0 : decode cX2_giveWeight 0 = .ok (.aload_n 0, 1) := by decide +kernel
theorem dX2_giveWeight_1 : decode cX2_giveWeight 1 = .ok (.getfield 25, 3) := by decide +kernel
theorem dX2_giveWeight_4 : decode cX2_giveWeight 4 = .ok (.iload_n 1, 1) := by decide +kernel
theorem dX2_giveWeight_5 : decode cX2_giveWeight 5 = .ok (.iload_n 2, 1) := by decide +kernel
theorem dX2_giveWeight_6 : decode cX2_giveWeight 6 = .ok (.invokestatic 55, 3) := by decide +kernel
theorem dX2_giveWeight_9 : decode cX2_giveWeight 9 = .ok (.return_, 1) := by decide +kernel
theorem dX2_heightOf_0 : decode cX2_heightOf 0 = .ok (.aload_n 0, 1) := by decide +kernel
theorem dX2_heightOf_1 : decode cX2_heightOf 1 = .ok (.getfield 29, 3) := by decide +kernel
theorem dX2_heightOf_4 : decode cX2_heightOf 4 = .ok (.iload_n 1, 1) := by decide +kernel
theorem dX2_heightOf_5 : decode cX2_heightOf 5 = .ok (.invokestatic 51, 3) := by decide +kernel
theorem dX2_heightOf_8 : decode cX2_heightOf 8 = .ok (.ireturn, 1) := by decide +kernel
theorem dX2_layAllDown_0 : decode cX2_layAllDown 0 = .ok (.iconst 0, 1) := by decide +kernel
theorem dX2_layAllDown_1 : decode cX2_layAllDown 1 = .ok (.istore_n 1, 1) := by decide +kernel
theorem dX2_layAllDown_2 : decode cX2_layAllDown 2 = .ok (.iload_n 1, 1) := by decide +kernel
theorem dX2_layAllDown_3 : decode cX2_layAllDown 3 = .ok (.aload_n 0, 1) := by decide +kernel
theorem dX2_layAllDown_4 : decode cX2_layAllDown 4 = .ok (.getfield 29, 3) := by decide +kernel
theorem dX2_layAllDown_7 : decode cX2_layAllDown 7 = .ok (.arraylength, 1) := by decide +kernel
theorem dX2_layAllDown_8 : decode cX2_layAllDown 8 = .ok (.if_icmp .ge 16, 3) := by decide +kernel
theorem dX2_layAllDown_11 : decode cX2_layAllDown 11 = .ok (.aload_n 0, 1) := by decide +kernel
theorem dX2_layAllDown_12 : decode cX2_layAllDown 12 = .ok (.getfield 29, 3) := by decide +kernel
theorem dX2_layAllDown_15 : decode cX2_layAllDown 15 = .ok (.iload_n 1, 1) := by decide +kernel
theorem dX2_layAllDown_16 : decode cX2_layAllDown 16 = .ok (.iconst 0, 1) := by decide +kernel
theorem dX2_layAllDown_17 : decode cX2_layAllDown 17 = .ok (.iastore, 1) := by decide +kernel
theorem dX2_layAllDown_18 : decode cX2_layAllDown 18 = .ok (.iinc 1 1, 3) := by decide +kernel
theorem dX2_layAllDown_21 : decode cX2_layAllDown 21 = .ok (.goto (-19), 3) := by decide +kernel
theorem dX2_layAllDown_24 : decode cX2_layAllDown 24 = .ok (.return_, 1) := by decide +kernel
theorem dX2_inStrands_0 : decode cX2_inStrands 0 = .ok (.iconst 0, 1) := by decide +kernel
theorem dX2_inStrands_1 : decode cX2_inStrands 1 = .ok (.istore_n 1, 1) := by decide +kernel
theorem dX2_inStrands_2 : decode cX2_inStrands 2 = .ok (.iconst 0, 1) := by decide +kernel
theorem dX2_inStrands_3 : decode cX2_inStrands 3 = .ok (.istore_n 2, 1) := by decide +kernel
theorem dX2_inStrands_4 : decode cX2_inStrands 4 = .ok (.iload_n 2, 1) := by decide +kernel
theorem dX2_inStrands_5 : decode cX2_inStrands 5 = .ok (.iconst 4, 1) := by decide +kernel
theorem dX2_inStrands_6 : decode cX2_inStrands 6 = .ok (.if_icmp .ge 30, 3) := by decide +kernel
theorem dX2_inStrands_9 : decode cX2_inStrands 9 = .ok (.iload_n 1, 1) := by decide +kernel
theorem dX2_inStrands_10 : decode cX2_inStrands 10 = .ok (.aload_n 0, 1) := by decide +kernel
theorem dX2_inStrands_11 : decode cX2_inStrands 11 = .ok (.getfield 12, 3) := by decide +kernel
theorem dX2_inStrands_14 : decode cX2_inStrands 14 = .ok (.iload_n 2, 1) := by decide +kernel
theorem dX2_inStrands_15 : decode cX2_inStrands 15 = .ok (.invokevirtual 59, 3) := by decide +kernel
theorem dX2_inStrands_18 : decode cX2_inStrands 18 = .ok (.sipush 10000, 3) := by decide +kernel
theorem dX2_inStrands_21 : decode cX2_inStrands 21 = .ok (.aload_n 0, 1) := by decide +kernel
theorem dX2_inStrands_22 : decode cX2_inStrands 22 = .ok (.iload_n 2, 1) := by decide +kernel
theorem dX2_inStrands_23 : decode cX2_inStrands 23 = .ok (.invokevirtual 63, 3) := by decide +kernel
theorem dX2_inStrands_26 : decode cX2_inStrands 26 = .ok (.isub, 1) := by decide +kernel
theorem dX2_inStrands_27 : decode cX2_inStrands 27 = .ok (.imul, 1) := by decide +kernel
theorem dX2_inStrands_28 : decode cX2_inStrands 28 = .ok (.iadd, 1) := by decide +kernel
theorem dX2_inStrands_29 : decode cX2_inStrands 29 = .ok (.istore_n 1, 1) := by decide +kernel
theorem dX2_inStrands_30 : decode cX2_inStrands 30 = .ok (.iinc 2 1, 3) := by decide +kernel
theorem dX2_inStrands_33 : decode cX2_inStrands 33 = .ok (.goto (-29), 3) := by decide +kernel
theorem dX2_inStrands_36 : decode cX2_inStrands 36 = .ok (.iload_n 1, 1) := by decide +kernel
theorem dX2_inStrands_37 : decode cX2_inStrands 37 = .ok (.ireturn, 1) := by decide +kernel
theorem dX2_inHand_0 : decode cX2_inHand 0 = .ok (.aload_n 0, 1) := by decide +kernel
theorem dX2_inHand_1 : decode cX2_inHand 1 = .ok (.getfield 36, 3) := by decide +kernel
theorem dX2_inHand_4 : decode cX2_inHand 4 = .ok (.aload_n 0, 1) := by decide +kernel
theorem dX2_inHand_5 : decode cX2_inHand 5 = .ok (.invokevirtual 66, 3) := by decide +kernel
theorem dX2_inHand_8 : decode cX2_inHand 8 = .ok (.isub, 1) := by decide +kernel
theorem dX2_inHand_9 : decode cX2_inHand 9 = .ok (.ireturn, 1) := by decide +kernel
theorem dX2_leastForceFor_0 : decode cX2_leastForceFor 0 = .ok (.aload_n 0, 1) := by decide +kernel
theorem dX2_leastForceFor_1 : decode cX2_leastForceFor 1 = .ok (.getfield 12, 3) := by decide +kernel
theorem dX2_leastForceFor_4 : decode cX2_leastForceFor 4 = .ok (.iload_n 1, 1) := by decide +kernel
theorem dX2_leastForceFor_5 : decode cX2_leastForceFor 5 = .ok (.aload_n 0, 1) := by decide +kernel
theorem dX2_leastForceFor_6 : decode cX2_leastForceFor 6 = .ok (.iload_n 1, 1) := by decide +kernel
theorem dX2_leastForceFor_7 : decode cX2_leastForceFor 7 = .ok (.invokevirtual 70, 3) := by decide +kernel
theorem dX2_leastForceFor_10 : decode cX2_leastForceFor 10 = .ok (.iload_n 2, 1) := by decide +kernel
theorem dX2_leastForceFor_11 : decode cX2_leastForceFor 11 = .ok (.invokevirtual 73, 3) := by decide +kernel
theorem dX2_leastForceFor_14 : decode cX2_leastForceFor 14 = .ok (.ireturn, 1) := by decide +kernel
theorem dX2_reckonForces_0 : decode cX2_reckonForces 0 = .ok (.iconst 0, 1) := by decide +kernel
theorem dX2_reckonForces_1 : decode cX2_reckonForces 1 = .ok (.istore_n 2, 1) := by decide +kernel
theorem dX2_reckonForces_2 : decode cX2_reckonForces 2 = .ok (.iload_n 2, 1) := by decide +kernel
theorem dX2_reckonForces_3 : decode cX2_reckonForces 3 = .ok (.aload_n 0, 1) := by decide +kernel
theorem dX2_reckonForces_4 : decode cX2_reckonForces 4 = .ok (.getfield 32, 3) := by decide +kernel
theorem dX2_reckonForces_7 : decode cX2_reckonForces 7 = .ok (.arraylength, 1) := by decide +kernel
theorem dX2_reckonForces_8 : decode cX2_reckonForces 8 = .ok (.if_icmp .ge 21, 3) := by decide +kernel
theorem dX2_reckonForces_11 : decode cX2_reckonForces 11 = .ok (.aload_n 0, 1) := by decide +kernel
theorem dX2_reckonForces_12 : decode cX2_reckonForces 12 = .ok (.getfield 32, 3) := by decide +kernel
theorem dX2_reckonForces_15 : decode cX2_reckonForces 15 = .ok (.iload_n 2, 1) := by decide +kernel
theorem dX2_reckonForces_16 : decode cX2_reckonForces 16 = .ok (.aload_n 0, 1) := by decide +kernel
theorem dX2_reckonForces_17 : decode cX2_reckonForces 17 = .ok (.iload_n 2, 1) := by decide +kernel
theorem dX2_reckonForces_18 : decode cX2_reckonForces 18 = .ok (.iload_n 1, 1) := by decide +kernel
theorem dX2_reckonForces_19 : decode cX2_reckonForces 19 = .ok (.invokevirtual 77, 3) := by decide +kernel
theorem dX2_reckonForces_22 : decode cX2_reckonForces 22 = .ok (.iastore, 1) := by decide +kernel
theorem dX2_reckonForces_23 : decode cX2_reckonForces 23 = .ok (.iinc 2 1, 3) := by decide +kernel
theorem dX2_reckonForces_26 : decode cX2_reckonForces 26 = .ok (.goto (-24), 3) := by decide +kernel
theorem dX2_reckonForces_29 : decode cX2_reckonForces 29 = .ok (.return_, 1) := by decide +kernel
theorem dX2_nextToRise_0 : decode cX2_nextToRise 0 = .ok (.iconst (-1), 1) := by decide +kernel
theorem dX2_nextToRise_1 : decode cX2_nextToRise 1 = .ok (.istore_n 2, 1) := by decide +kernel
theorem dX2_nextToRise_2 : decode cX2_nextToRise 2 = .ok (.iconst (-1), 1) := by decide +kernel
theorem dX2_nextToRise_3 : decode cX2_nextToRise 3 = .ok (.istore_n 3, 1) := by decide +kernel
theorem dX2_nextToRise_4 : decode cX2_nextToRise 4 = .ok (.iconst 0, 1) := by decide +kernel
theorem dX2_nextToRise_5 : decode cX2_nextToRise 5 = .ok (.istore 4, 2) := by decide +kernel
theorem dX2_nextToRise_7 : decode cX2_nextToRise 7 = .ok (.iload 4, 2) := by decide +kernel
theorem dX2_nextToRise_9 : decode cX2_nextToRise 9 = .ok (.iconst 4, 1) := by decide +kernel
theorem dX2_nextToRise_10 : decode cX2_nextToRise 10 = .ok (.if_icmp .ge 73, 3) := by decide +kernel
theorem dX2_nextToRise_13 : decode cX2_nextToRise 13 = .ok (.aload_n 0, 1) := by decide +kernel
theorem dX2_nextToRise_14 : decode cX2_nextToRise 14 = .ok (.getfield 32, 3) := by decide +kernel
theorem dX2_nextToRise_17 : decode cX2_nextToRise 17 = .ok (.iload 4, 2) := by decide +kernel
theorem dX2_nextToRise_19 : decode cX2_nextToRise 19 = .ok (.invokestatic 51, 3) := by decide +kernel
theorem dX2_nextToRise_22 : decode cX2_nextToRise 22 = .ok (.istore 5, 2) := by decide +kernel
theorem dX2_nextToRise_24 : decode cX2_nextToRise 24 = .ok (.iload 5, 2) := by decide +kernel
theorem dX2_nextToRise_26 : decode cX2_nextToRise 26 = .ok (.iconst (-1), 1) := by decide +kernel
theorem dX2_nextToRise_27 : decode cX2_nextToRise 27 = .ok (.if_icmp .eq 25, 3) := by decide +kernel
theorem dX2_nextToRise_30 : decode cX2_nextToRise 30 = .ok (.iload 5, 2) := by decide +kernel
theorem dX2_nextToRise_32 : decode cX2_nextToRise 32 = .ok (.iload_n 1, 1) := by decide +kernel
theorem dX2_nextToRise_33 : decode cX2_nextToRise 33 = .ok (.if_icmp .gt 19, 3) := by decide +kernel
theorem dX2_nextToRise_36 : decode cX2_nextToRise 36 = .ok (.aload_n 0, 1) := by decide +kernel
theorem dX2_nextToRise_37 : decode cX2_nextToRise 37 = .ok (.iload 4, 2) := by decide +kernel
theorem dX2_nextToRise_39 : decode cX2_nextToRise 39 = .ok (.invokevirtual 63, 3) := by decide +kernel
theorem dX2_nextToRise_42 : decode cX2_nextToRise 42 = .ok (.sipush 9000, 3) := by decide +kernel
theorem dX2_nextToRise_45 : decode cX2_nextToRise 45 = .ok (.if_icmp .ge 7, 3) := by decide +kernel
theorem dX2_nextToRise_48 : decode cX2_nextToRise 48 = .ok (.iconst 1, 1) := by decide +kernel
theorem dX2_nextToRise_49 : decode cX2_nextToRise 49 = .ok (.goto 4, 3) := by decide +kernel
theorem dX2_nextToRise_52 : decode cX2_nextToRise 52 = .ok (.iconst 0, 1) := by decide +kernel
theorem dX2_nextToRise_53 : decode cX2_nextToRise 53 = .ok (.istore 6, 2) := by decide +kernel
theorem dX2_nextToRise_55 : decode cX2_nextToRise 55 = .ok (.iload 6, 2) := by decide +kernel
theorem dX2_nextToRise_57 : decode cX2_nextToRise 57 = .ok (.ifCond .eq 20, 3) := by decide +kernel
theorem dX2_nextToRise_60 : decode cX2_nextToRise 60 = .ok (.iload_n 2, 1) := by decide +kernel
theorem dX2_nextToRise_61 : decode cX2_nextToRise 61 = .ok (.iconst (-1), 1) := by decide +kernel
theorem dX2_nextToRise_62 : decode cX2_nextToRise 62 = .ok (.if_icmp .eq 9, 3) := by decide +kernel
theorem dX2_nextToRise_65 : decode cX2_nextToRise 65 = .ok (.iload 5, 2) := by decide +kernel
theorem dX2_nextToRise_67 : decode cX2_nextToRise 67 = .ok (.iload_n 3, 1) := by decide +kernel
theorem dX2_nextToRise_68 : decode cX2_nextToRise 68 = .ok (.if_icmp .ge 9, 3) := by decide +kernel
theorem dX2_nextToRise_71 : decode cX2_nextToRise 71 = .ok (.iload 4, 2) := by decide +kernel
theorem dX2_nextToRise_73 : decode cX2_nextToRise 73 = .ok (.istore_n 2, 1) := by decide +kernel
theorem dX2_nextToRise_74 : decode cX2_nextToRise 74 = .ok (.iload 5, 2) := by decide +kernel
theorem dX2_nextToRise_76 : decode cX2_nextToRise 76 = .ok (.istore_n 3, 1) := by decide +kernel
theorem dX2_nextToRise_77 : decode cX2_nextToRise 77 = .ok (.iinc 4 1, 3) := by decide +kernel
theorem dX2_nextToRise_80 : decode cX2_nextToRise 80 = .ok (.goto (-73), 3) := by decide +kernel
theorem dX2_nextToRise_83 : decode cX2_nextToRise 83 = .ok (.iload_n 2, 1) := by decide +kernel
theorem dX2_nextToRise_84 : decode cX2_nextToRise 84 = .ok (.ireturn, 1) := by decide +kernel
theorem dX2_nextToSink_0 : decode cX2_nextToSink 0 = .ok (.iconst (-1), 1) := by decide +kernel
theorem dX2_nextToSink_1 : decode cX2_nextToSink 1 = .ok (.istore_n 2, 1) := by decide +kernel
theorem dX2_nextToSink_2 : decode cX2_nextToSink 2 = .ok (.iload_n 1, 1) := by decide +kernel
theorem dX2_nextToSink_3 : decode cX2_nextToSink 3 = .ok (.istore_n 3, 1) := by decide +kernel
theorem dX2_nextToSink_4 : decode cX2_nextToSink 4 = .ok (.iconst 0, 1) := by decide +kernel
theorem dX2_nextToSink_5 : decode cX2_nextToSink 5 = .ok (.istore 4, 2) := by decide +kernel
theorem dX2_nextToSink_7 : decode cX2_nextToSink 7 = .ok (.iload 4, 2) := by decide +kernel
theorem dX2_nextToSink_9 : decode cX2_nextToSink 9 = .ok (.iconst 4, 1) := by decide +kernel
theorem dX2_nextToSink_10 : decode cX2_nextToSink 10 = .ok (.if_icmp .ge 41, 3) := by decide +kernel
theorem dX2_nextToSink_13 : decode cX2_nextToSink 13 = .ok (.aload_n 0, 1) := by decide +kernel
theorem dX2_nextToSink_14 : decode cX2_nextToSink 14 = .ok (.getfield 32, 3) := by decide +kernel
theorem dX2_nextToSink_17 : decode cX2_nextToSink 17 = .ok (.iload 4, 2) := by decide +kernel
theorem dX2_nextToSink_19 : decode cX2_nextToSink 19 = .ok (.invokestatic 51, 3) := by decide +kernel
theorem dX2_nextToSink_22 : decode cX2_nextToSink 22 = .ok (.istore 5, 2) := by decide +kernel
theorem dX2_nextToSink_24 : decode cX2_nextToSink 24 = .ok (.iload 5, 2) := by decide +kernel
theorem dX2_nextToSink_26 : decode cX2_nextToSink 26 = .ok (.iload_n 3, 1) := by decide +kernel
theorem dX2_nextToSink_27 : decode cX2_nextToSink 27 = .ok (.if_icmp .le 18, 3) := by decide +kernel
theorem dX2_nextToSink_30 : decode cX2_nextToSink 30 = .ok (.aload_n 0, 1) := by decide +kernel
theorem dX2_nextToSink_31 : decode cX2_nextToSink 31 = .ok (.iload 4, 2) := by decide +kernel
theorem dX2_nextToSink_33 : decode cX2_nextToSink 33 = .ok (.invokevirtual 63, 3) := by decide +kernel
theorem dX2_nextToSink_36 : decode cX2_nextToSink 36 = .ok (.ifCond .le 9, 3) := by decide +kernel
theorem dX2_nextToSink_39 : decode cX2_nextToSink 39 = .ok (.iload 4, 2) := by decide +kernel
theorem dX2_nextToSink_41 : decode cX2_nextToSink 41 = .ok (.istore_n 2, 1) := by decide +kernel
theorem dX2_nextToSink_42 : decode cX2_nextToSink 42 = .ok (.iload 5, 2) := by decide +kernel
theorem dX2_nextToSink_44 : decode cX2_nextToSink 44 = .ok (.istore_n 3, 1) := by decide +kernel
theorem dX2_nextToSink_45 : decode cX2_nextToSink 45 = .ok (.iinc 4 1, 3) := by decide +kernel
theorem dX2_nextToSink_48 : decode cX2_nextToSink 48 = .ok (.goto (-41), 3) := by decide +kernel
theorem dX2_nextToSink_51 : decode cX2_nextToSink 51 = .ok (.iload_n 2, 1) := by decide +kernel
theorem dX2_nextToSink_52 : decode cX2_nextToSink 52 = .ok (.ireturn, 1) := by decide +kernel
theorem dX2_moveUp_0 : decode cX2_moveUp 0 = .ok (.aload_n 0, 1) := by decide +kernel
theorem dX2_moveUp_1 : decode cX2_moveUp 1 = .ok (.iconst 1, 1) := by decide +kernel
theorem dX2_moveUp_2 : decode cX2_moveUp 2 = .ok (.invokevirtual 81, 3) := by decide +kernel
theorem dX2_moveUp_5 : decode cX2_moveUp 5 = .ok (.aload_n 0, 1) := by decide +kernel
theorem dX2_moveUp_6 : decode cX2_moveUp 6 = .ok (.iload_n 1, 1) := by decide +kernel
theorem dX2_moveUp_7 : decode cX2_moveUp 7 = .ok (.iload_n 2, 1) := by decide +kernel
theorem dX2_moveUp_8 : decode cX2_moveUp 8 = .ok (.iconst 1, 1) := by decide +kernel
theorem dX2_moveUp_9 : decode cX2_moveUp 9 = .ok (.invokevirtual 85, 3) := by decide +kernel
theorem dX2_moveUp_12 : decode cX2_moveUp 12 = .ok (.istore_n 3, 1) := by decide +kernel
theorem dX2_moveUp_13 : decode cX2_moveUp 13 = .ok (.aload_n 0, 1) := by decide +kernel
theorem dX2_moveUp_14 : decode cX2_moveUp 14 = .ok (.getfield 21, 3) := by decide +kernel
theorem dX2_moveUp_17 : decode cX2_moveUp 17 = .ok (.dup, 1) := by decide +kernel
theorem dX2_moveUp_18 : decode cX2_moveUp 18 = .ok (.getfield 88, 3) := by decide +kernel
theorem dX2_moveUp_21 : decode cX2_moveUp 21 = .ok (.iload_n 1, 1) := by decide +kernel
theorem dX2_moveUp_22 : decode cX2_moveUp 22 = .ok (.i2l, 1) := by decide +kernel
theorem dX2_moveUp_23 : decode cX2_moveUp 23 = .ok (.iload_n 3, 1) := by decide +kernel
theorem dX2_moveUp_24 : decode cX2_moveUp 24 = .ok (.i2l, 1) := by decide +kernel
theorem dX2_moveUp_25 : decode cX2_moveUp 25 = .ok (.lmul, 1) := by decide +kernel
theorem dX2_moveUp_26 : decode cX2_moveUp 26 = .ok (.ladd, 1) := by decide +kernel
theorem dX2_moveUp_27 : decode cX2_moveUp 27 = .ok (.putfield 88, 3) := by decide +kernel
theorem dX2_moveUp_30 : decode cX2_moveUp 30 = .ok (.iload_n 3, 1) := by decide +kernel
theorem dX2_moveUp_31 : decode cX2_moveUp 31 = .ok (.ireturn, 1) := by decide +kernel
theorem dX2_moveDown_0 : decode cX2_moveDown 0 = .ok (.aload_n 0, 1) := by decide +kernel
theorem dX2_moveDown_1 : decode cX2_moveDown 1 = .ok (.iconst 0, 1) := by decide +kernel
theorem dX2_moveDown_2 : decode cX2_moveDown 2 = .ok (.invokevirtual 81, 3) := by decide +kernel
theorem dX2_moveDown_5 : decode cX2_moveDown 5 = .ok (.aload_n 0, 1) := by decide +kernel
theorem dX2_moveDown_6 : decode cX2_moveDown 6 = .ok (.iload_n 1, 1) := by decide +kernel
theorem dX2_moveDown_7 : decode cX2_moveDown 7 = .ok (.iload_n 2, 1) := by decide +kernel
theorem dX2_moveDown_8 : decode cX2_moveDown 8 = .ok (.aload_n 0, 1) := by decide +kernel
theorem dX2_moveDown_9 : decode cX2_moveDown 9 = .ok (.invokevirtual 92, 3) := by decide +kernel
theorem dX2_moveDown_12 : decode cX2_moveDown 12 = .ok (.invokestatic 95, 3) := by decide +kernel
theorem dX2_moveDown_15 : decode cX2_moveDown 15 = .ok (.iconst 0, 1) := by decide +kernel
theorem dX2_moveDown_16 : decode cX2_moveDown 16 = .ok (.invokevirtual 85, 3) := by decide +kernel
theorem dX2_moveDown_19 : decode cX2_moveDown 19 = .ok (.ireturn, 1) := by decide +kernel
theorem dX2_moveInTurn_0 : decode cX2_moveInTurn 0 = .ok (.iload_n 2, 1) := by decide +kernel
theorem dX2_moveInTurn_1 : decode cX2_moveInTurn 1 = .ok (.istore 4, 2) := by decide +kernel
theorem dX2_moveInTurn_3 : decode cX2_moveInTurn 3 = .ok (.iconst 0, 1) := by decide +kernel
theorem dX2_moveInTurn_4 : decode cX2_moveInTurn 4 = .ok (.istore 5, 2) := by decide +kernel
theorem dX2_moveInTurn_6 : decode cX2_moveInTurn 6 = .ok (.iload 5, 2) := by decide +kernel
theorem dX2_moveInTurn_8 : decode cX2_moveInTurn 8 = .ok (.iconst 4, 1) := by decide +kernel
theorem dX2_moveInTurn_9 : decode cX2_moveInTurn 9 = .ok (.if_icmp .ge 50, 3) := by decide +kernel
theorem dX2_moveInTurn_12 : decode cX2_moveInTurn 12 = .ok (.aload_n 0, 1) := by decide +kernel
theorem dX2_moveInTurn_13 : decode cX2_moveInTurn 13 = .ok (.iload_n 3, 1) := by decide +kernel
theorem dX2_moveInTurn_14 : decode cX2_moveInTurn 14 = .ok (.ifCond .eq 11, 3) := by decide +kernel
theorem dX2_moveInTurn_17 : decode cX2_moveInTurn 17 = .ok (.aload_n 0, 1) := by decide +kernel
theorem dX2_moveInTurn_18 : decode cX2_moveInTurn 18 = .ok (.iload_n 1, 1) := by decide +kernel
theorem dX2_moveInTurn_19 : decode cX2_moveInTurn 19 = .ok (.invokevirtual 101, 3) := by decide +kernel
theorem dX2_moveInTurn_22 : decode cX2_moveInTurn 22 = .ok (.goto 8, 3) := by decide +kernel
theorem dX2_moveInTurn_25 : decode cX2_moveInTurn 25 = .ok (.aload_n 0, 1) := by decide +kernel
theorem dX2_moveInTurn_26 : decode cX2_moveInTurn 26 = .ok (.iload_n 1, 1) := by decide +kernel
theorem dX2_moveInTurn_27 : decode cX2_moveInTurn 27 = .ok (.invokevirtual 104, 3) := by decide +kernel
theorem dX2_moveInTurn_30 : decode cX2_moveInTurn 30 = .ok (.iload 4, 2) := by decide +kernel
theorem dX2_moveInTurn_32 : decode cX2_moveInTurn 32 = .ok (.iload_n 3, 1) := by decide +kernel
theorem dX2_moveInTurn_33 : decode cX2_moveInTurn 33 = .ok (.invokevirtual 107, 3) := by decide +kernel
theorem dX2_moveInTurn_36 : decode cX2_moveInTurn 36 = .ok (.istore 6, 2) := by decide +kernel
theorem dX2_moveInTurn_38 : decode cX2_moveInTurn 38 = .ok (.iload 6, 2) := by decide +kernel
theorem dX2_moveInTurn_40 : decode cX2_moveInTurn 40 = .ok (.ifCond .ne 6, 3) := by decide +kernel
theorem dX2_moveInTurn_43 : decode cX2_moveInTurn 43 = .ok (.goto 16, 3) := by decide +kernel
theorem dX2_moveInTurn_46 : decode cX2_moveInTurn 46 = .ok (.iload 4, 2) := by decide +kernel
theorem dX2_moveInTurn_48 : decode cX2_moveInTurn 48 = .ok (.iload 6, 2) := by decide +kernel
theorem dX2_moveInTurn_50 : decode cX2_moveInTurn 50 = .ok (.isub, 1) := by decide +kernel
theorem dX2_moveInTurn_51 : decode cX2_moveInTurn 51 = .ok (.istore 4, 2) := by decide +kernel
theorem dX2_moveInTurn_53 : decode cX2_moveInTurn 53 = .ok (.iinc 5 1, 3) := by decide +kernel
theorem dX2_moveInTurn_56 : decode cX2_moveInTurn 56 = .ok (.goto (-50), 3) := by decide +kernel
theorem dX2_moveInTurn_59 : decode cX2_moveInTurn 59 = .ok (.iload_n 2, 1) := by decide +kernel
theorem dX2_moveInTurn_60 : decode cX2_moveInTurn 60 = .ok (.iload 4, 2) := by decide +kernel
theorem dX2_moveInTurn_62 : decode cX2_moveInTurn 62 = .ok (.isub, 1) := by decide +kernel
theorem dX2_moveInTurn_63 : decode cX2_moveInTurn 63 = .ok (.ireturn, 1) := by decide +kernel
theorem dX2_moveOne_0 : decode cX2_moveOne 0 = .ok (.aload_n 0, 1) := by decide +kernel
theorem dX2_moveOne_1 : decode cX2_moveOne 1 = .ok (.getfield 12, 3) := by decide +kernel
theorem dX2_moveOne_4 : decode cX2_moveOne 4 = .ok (.iload_n 1, 1) := by decide +kernel
theorem dX2_moveOne_5 : decode cX2_moveOne 5 = .ok (.invokevirtual 59, 3) := by decide +kernel
theorem dX2_moveOne_8 : decode cX2_moveOne 8 = .ok (.istore 4, 2) := by decide +kernel
theorem dX2_moveOne_10 : decode cX2_moveOne 10 = .ok (.iload_n 1, 1) := by decide +kernel
theorem dX2_moveOne_11 : decode cX2_moveOne 11 = .ok (.invokestatic 110, 3) := by decide +kernel
theorem dX2_moveOne_14 : decode cX2_moveOne 14 = .ok (.ifCond .eq 8, 3) := by decide +kernel
theorem dX2_moveOne_17 : decode cX2_moveOne 17 = .ok (.iload 4, 2) := by decide +kernel
theorem dX2_moveOne_19 : decode cX2_moveOne 19 = .ok (.ifCond .gt 5, 3) := by decide +kernel
theorem dX2_moveOne_22 : decode cX2_moveOne 22 = .ok (.iconst 0, 1) := by decide +kernel
theorem dX2_moveOne_23 : decode cX2_moveOne 23 = .ok (.ireturn, 1) := by decide +kernel
theorem dX2_moveOne_24 : decode cX2_moveOne 24 = .ok (.iload_n 3, 1) := by decide +kernel
theorem dX2_moveOne_25 : decode cX2_moveOne 25 = .ok (.ifCond .eq 15, 3) := by decide +kernel
theorem dX2_moveOne_28 : decode cX2_moveOne 28 = .ok (.sipush 9000, 3) := by decide +kernel
theorem dX2_moveOne_31 : decode cX2_moveOne 31 = .ok (.aload_n 0, 1) := by decide +kernel
theorem dX2_moveOne_32 : decode cX2_moveOne 32 = .ok (.iload_n 1, 1) := by decide +kernel
theorem dX2_moveOne_33 : decode cX2_moveOne 33 = .ok (.invokevirtual 63, 3) := by decide +kernel
theorem dX2_moveOne_36 : decode cX2_moveOne 36 = .ok (.isub, 1) := by decide +kernel
theorem dX2_moveOne_37 : decode cX2_moveOne 37 = .ok (.goto 8, 3) := by decide +kernel
theorem dX2_moveOne_40 : decode cX2_moveOne 40 = .ok (.aload_n 0, 1) := by decide +kernel
theorem dX2_moveOne_41 : decode cX2_moveOne 41 = .ok (.iload_n 1, 1) := by decide +kernel
theorem dX2_moveOne_42 : decode cX2_moveOne 42 = .ok (.invokevirtual 63, 3) := by decide +kernel
theorem dX2_moveOne_45 : decode cX2_moveOne 45 = .ok (.istore 5, 2) := by decide +kernel
theorem dX2_moveOne_47 : decode cX2_moveOne 47 = .ok (.iload_n 2, 1) := by decide +kernel
theorem dX2_moveOne_48 : decode cX2_moveOne 48 = .ok (.iload 4, 2) := by decide +kernel
theorem dX2_moveOne_50 : decode cX2_moveOne 50 = .ok (.idiv, 1) := by decide +kernel
theorem dX2_moveOne_51 : decode cX2_moveOne 51 = .ok (.iload 5, 2) := by decide +kernel
theorem dX2_moveOne_53 : decode cX2_moveOne 53 = .ok (.invokestatic 95, 3) := by decide +kernel
theorem dX2_moveOne_56 : decode cX2_moveOne 56 = .ok (.istore 6, 2) := by decide +kernel
theorem dX2_moveOne_58 : decode cX2_moveOne 58 = .ok (.iload 6, 2) := by decide +kernel
theorem dX2_moveOne_60 : decode cX2_moveOne 60 = .ok (.ifCond .gt 5, 3) := by decide +kernel
theorem dX2_moveOne_63 : decode cX2_moveOne 63 = .ok (.iconst 0, 1) := by decide +kernel
theorem dX2_moveOne_64 : decode cX2_moveOne 64 = .ok (.ireturn, 1) := by decide +kernel
theorem dX2_moveOne_65 : decode cX2_moveOne 65 = .ok (.iload_n 3, 1) := by decide +kernel
theorem dX2_moveOne_66 : decode cX2_moveOne 66 = .ok (.ifCond .eq 8, 3) := by decide +kernel
theorem dX2_moveOne_69 : decode cX2_moveOne 69 = .ok (.iload 6, 2) := by decide +kernel
theorem dX2_moveOne_71 : decode cX2_moveOne 71 = .ok (.goto 6, 3) := by decide +kernel
theorem dX2_moveOne_74 : decode cX2_moveOne 74 = .ok (.iload 6, 2) := by decide +kernel
theorem dX2_moveOne_76 : decode cX2_moveOne 76 = .ok (.ineg, 1) := by decide +kernel
theorem dX2_moveOne_77 : decode cX2_moveOne 77 = .ok (.istore 7, 2) := by decide +kernel
theorem dX2_moveOne_79 : decode cX2_moveOne 79 = .ok (.aload_n 0, 1) := by decide +kernel
theorem dX2_moveOne_80 : decode cX2_moveOne 80 = .ok (.getfield 29, 3) := by decide +kernel
theorem dX2_moveOne_83 : decode cX2_moveOne 83 = .ok (.iload_n 1, 1) := by decide +kernel
theorem dX2_moveOne_84 : decode cX2_moveOne 84 = .ok (.aload_n 0, 1) := by decide +kernel
theorem dX2_moveOne_85 : decode cX2_moveOne 85 = .ok (.iload_n 1, 1) := by decide +kernel
theorem dX2_moveOne_86 : decode cX2_moveOne 86 = .ok (.invokevirtual 63, 3) := by decide +kernel
theorem dX2_moveOne_89 : decode cX2_moveOne 89 = .ok (.iload 7, 2) := by decide +kernel
theorem dX2_moveOne_91 : decode cX2_moveOne 91 = .ok (.iadd, 1) := by decide +kernel
theorem dX2_moveOne_92 : decode cX2_moveOne 92 = .ok (.invokestatic 55, 3) := by decide +kernel
theorem dX2_moveOne_95 : decode cX2_moveOne 95 = .ok (.aload_n 0, 1) := by decide +kernel
theorem dX2_moveOne_96 : decode cX2_moveOne 96 = .ok (.getfield 21, 3) := by decide +kernel
theorem dX2_moveOne_99 : decode cX2_moveOne 99 = .ok (.iload_n 1, 1) := by decide +kernel
theorem dX2_moveOne_100 : decode cX2_moveOne 100 = .ok (.iload 7, 2) := by decide +kernel
theorem dX2_moveOne_102 : decode cX2_moveOne 102 = .ok (.iload 7, 2) := by decide +kernel
theorem dX2_moveOne_104 : decode cX2_moveOne 104 = .ok (.iload 4, 2) := by decide +kernel
theorem dX2_moveOne_106 : decode cX2_moveOne 106 = .ok (.imul, 1) := by decide +kernel
theorem dX2_moveOne_107 : decode cX2_moveOne 107 = .ok (.invokevirtual 114, 3) := by decide +kernel
theorem dX2_moveOne_110 : decode cX2_moveOne 110 = .ok (.iload_n 3, 1) := by decide +kernel
theorem dX2_moveOne_111 : decode cX2_moveOne 111 = .ok (.ifCond .eq 25, 3) := by decide +kernel
theorem dX2_moveOne_114 : decode cX2_moveOne 114 = .ok (.aload_n 0, 1) := by decide +kernel
theorem dX2_moveOne_115 : decode cX2_moveOne 115 = .ok (.getfield 21, 3) := by decide +kernel
theorem dX2_moveOne_118 : decode cX2_moveOne 118 = .ok (.dup, 1) := by decide +kernel
theorem dX2_moveOne_119 : decode cX2_moveOne 119 = .ok (.getfield 118, 3) := by decide +kernel
theorem dX2_moveOne_122 : decode cX2_moveOne 122 = .ok (.aload_n 0, 1) := by decide +kernel
theorem dX2_moveOne_123 : decode cX2_moveOne 123 = .ok (.iload_n 1, 1) := by decide +kernel
theorem dX2_moveOne_124 : decode cX2_moveOne 124 = .ok (.invokevirtual 70, 3) := by decide +kernel
theorem dX2_moveOne_127 : decode cX2_moveOne 127 = .ok (.i2l, 1) := by decide +kernel
theorem dX2_moveOne_128 : decode cX2_moveOne 128 = .ok (.iload 6, 2) := by decide +kernel
theorem dX2_moveOne_130 : decode cX2_moveOne 130 = .ok (.i2l, 1) := by decide +kernel
theorem dX2_moveOne_131 : decode cX2_moveOne 131 = .ok (.lmul, 1) := by decide +kernel
theorem dX2_moveOne_132 : decode cX2_moveOne 132 = .ok (.ladd, 1) := by decide +kernel
theorem dX2_moveOne_133 : decode cX2_moveOne 133 = .ok (.putfield 118, 3) := by decide +kernel
theorem dX2_moveOne_136 : decode cX2_moveOne 136 = .ok (.iload 6, 2) := by decide +kernel
theorem dX2_moveOne_138 : decode cX2_moveOne 138 = .ok (.iload 4, 2) := by decide +kernel
theorem dX2_moveOne_140 : decode cX2_moveOne 140 = .ok (.imul, 1) := by decide +kernel
theorem dX2_moveOne_141 : decode cX2_moveOne 141 = .ok (.ireturn, 1) := by decide +kernel
theorem dX3_init_0 : decode cX3_init 0 = .ok (.aload_n 0, 1) := by decide +kernel
theorem dX3_init_1 : decode cX3_init 1 = .ok (.invokespecial 3, 3) := by decide +kernel
theorem dX3_init_4 : decode cX3_init 4 = .ok (.aload_n 0, 1) := by decide +kernel
theorem dX3_init_5 : decode cX3_init 5 = .ok (.bipush 60, 2) := by decide +kernel
theorem dX3_init_7 : decode cX3_init 7 = .ok (.newarray .int, 2) := by decide +kernel
theorem dX3_init_9 : decode cX3_init 9 = .ok (.putfield 9, 3) := by decide +kernel
theorem dX3_init_12 : decode cX3_init 12 = .ok (.aload_n 0, 1) := by decide +kernel
theorem dX3_init_13 : decode cX3_init 13 = .ok (.iconst 0, 1) := by decide +kernel
theorem dX3_init_14 : decode cX3_init 14 = .ok (.putfield 15, 3) := by decide +kernel
theorem dX3_init_17 : decode cX3_init 17 = .ok (.aload_n 0, 1) := by decide +kernel
theorem dX3_init_18 : decode cX3_init 18 = .ok (.iconst 0, 1) := by decide +kernel
theorem dX3_init_19 : decode cX3_init 19 = .ok (.putfield 19, 3) := by decide +kernel
theorem dX3_init_22 : decode cX3_init 22 = .ok (.return_, 1) := by decide +kernel
theorem dX3_readInto_0 : decode cX3_readInto 0 = .ok (.aload_n 0, 1) := by decide +kernel
theorem dX3_readInto_1 : decode cX3_readInto 1 = .ok (.iconst 0, 1) := by decide +kernel
theorem dX3_readInto_2 : decode cX3_readInto 2 = .ok (.putfield 19, 3) := by decide +kernel
theorem dX3_readInto_5 : decode cX3_readInto 5 = .ok (.aload_n 1, 1) := by decide +kernel
theorem dX3_readInto_6 : decode cX3_readInto 6 = .ok (.invokevirtual 22, 3) := by decide +kernel
theorem dX3_readInto_9 : decode cX3_readInto 9 = .ok (.aload_n 1, 1) := by decide +kernel
theorem dX3_readInto_10 : decode cX3_readInto 10 = .ok (.getfield 27, 3) := by decide +kernel
theorem dX3_readInto_13 : decode cX3_readInto 13 = .ok (.invokevirtual 31, 3) := by decide +kernel
theorem dX3_readInto_16 : decode cX3_readInto 16 = .ok (.iconst 0, 1) := by decide +kernel
theorem dX3_readInto_17 : decode cX3_readInto 17 = .ok (.istore_n 2, 1) := by decide +kernel
theorem dX3_readInto_18 : decode cX3_readInto 18 = .ok (.iload_n 2, 1) := by decide +kernel
theorem dX3_readInto_19 : decode cX3_readInto 19 = .ok (.bipush 10, 2) := by decide +kernel
theorem dX3_readInto_21 : decode cX3_readInto 21 = .ok (.if_icmp .ge 31, 3) := by decide +kernel
theorem dX3_readInto_24 : decode cX3_readInto 24 = .ok (.aload_n 0, 1) := by decide +kernel
theorem dX3_readInto_25 : decode cX3_readInto 25 = .ok (.bipush 48, 2) := by decide +kernel
theorem dX3_readInto_27 : decode cX3_readInto 27 = .ok (.bipush 51, 2) := by decide +kernel
theorem dX3_readInto_29 : decode cX3_readInto 29 = .ok (.invokevirtual 36, 3) := by decide +kernel
theorem dX3_readInto_32 : decode cX3_readInto 32 = .ok (.ifCond .eq 20, 3) := by decide +kernel
theorem dX3_readInto_35 : decode cX3_readInto 35 = .ok (.aload_n 1, 1) := by decide +kernel
theorem dX3_readInto_36 : decode cX3_readInto 36 = .ok (.getfield 27, 3) := by decide +kernel
theorem dX3_readInto_39 : decode cX3_readInto 39 = .ok (.aload_n 0, 1) := by decide +kernel
theorem dX3_readInto_40 : decode cX3_readInto 40 = .ok (.invokevirtual 40, 3) := by decide +kernel
theorem dX3_readInto_43 : decode cX3_readInto 43 = .ok (.invokevirtual 44, 3) := by decide +kernel
theorem dX3_readInto_46 : decode cX3_readInto 46 = .ok (.iinc 2 1, 3) := by decide +kernel
theorem dX3_readInto_49 : decode cX3_readInto 49 = .ok (.goto (-31), 3) := by decide +kernel
theorem dX3_readInto_52 : decode cX3_readInto 52 = .ok (.aload_n 0, 1) := by decide +kernel
theorem dX3_readInto_53 : decode cX3_readInto 53 = .ok (.bipush 46, 2) := by decide +kernel
theorem dX3_readInto_55 : decode cX3_readInto 55 = .ok (.bipush 46, 2) := by decide +kernel
theorem dX3_readInto_57 : decode cX3_readInto 57 = .ok (.invokevirtual 36, 3) := by decide +kernel
theorem dX3_readInto_60 : decode cX3_readInto 60 = .ok (.ifCond .ne 8, 3) := by decide +kernel
theorem dX3_readInto_63 : decode cX3_readInto 63 = .ok (.aload_n 0, 1) := by decide +kernel
theorem dX3_readInto_64 : decode cX3_readInto 64 = .ok (.getfield 19, 3) := by decide +kernel
theorem dX3_readInto_67 : decode cX3_readInto 67 = .ok (.ireturn, 1) := by decide +kernel
theorem dX3_readInto_68 : decode cX3_readInto 68 = .ok (.aload_n 0, 1) := by decide +kernel
theorem dX3_readInto_69 : decode cX3_readInto 69 = .ok (.dup, 1) := by decide +kernel
theorem dX3_readInto_70 : decode cX3_readInto 70 = .ok (.getfield 19, 3) := by decide +kernel
theorem dX3_readInto_73 : decode cX3_readInto 73 = .ok (.iconst 1, 1) := by decide +kernel
theorem dX3_readInto_74 : decode cX3_readInto 74 = .ok (.iadd, 1) := by decide +kernel
theorem dX3_readInto_75 : decode cX3_readInto 75 = .ok (.putfield 19, 3) := by decide +kernel
theorem dX3_readInto_78 : decode cX3_readInto 78 = .ok (.aload_n 0, 1) := by decide +kernel
theorem dX3_readInto_79 : decode cX3_readInto 79 = .ok (.bipush 48, 2) := by decide +kernel
theorem dX3_readInto_81 : decode cX3_readInto 81 = .ok (.bipush 52, 2) := by decide +kernel
theorem dX3_readInto_83 : decode cX3_readInto 83 = .ok (.invokevirtual 36, 3) := by decide +kernel
theorem dX3_readInto_86 : decode cX3_readInto 86 = .ok (.ifCond .ne 8, 3) := by decide +kernel
theorem dX3_readInto_89 : decode cX3_readInto 89 = .ok (.aload_n 0, 1) := by decide +kernel
theorem dX3_readInto_90 : decode cX3_readInto 90 = .ok (.getfield 19, 3) := by decide +kernel
theorem dX3_readInto_93 : decode cX3_readInto 93 = .ok (.ireturn, 1) := by decide +kernel
theorem dX3_readInto_94 : decode cX3_readInto 94 = .ok (.aload_n 1, 1) := by decide +kernel
theorem dX3_readInto_95 : decode cX3_readInto 95 = .ok (.getfield 27, 3) := by decide +kernel
theorem dX3_readInto_98 : decode cX3_readInto 98 = .ok (.aload_n 0, 1) := by decide +kernel
theorem dX3_readInto_99 : decode cX3_readInto 99 = .ok (.invokevirtual 40, 3) := by decide +kernel
theorem dX3_readInto_102 : decode cX3_readInto 102 = .ok (.putfield 48, 3) := by decide +kernel
theorem dX3_readInto_105 : decode cX3_readInto 105 = .ok (.iconst (-1), 1) := by decide +kernel
theorem dX3_readInto_106 : decode cX3_readInto 106 = .ok (.istore_n 2, 1) := by decide +kernel
theorem dX3_readInto_107 : decode cX3_readInto 107 = .ok (.iconst 0, 1) := by decide +kernel
theorem dX3_readInto_108 : decode cX3_readInto 108 = .ok (.istore_n 3, 1) := by decide +kernel
theorem dX3_readInto_109 : decode cX3_readInto 109 = .ok (.iload_n 3, 1) := by decide +kernel
theorem dX3_readInto_110 : decode cX3_readInto 110 = .ok (.iconst 4, 1) := by decide +kernel
theorem dX3_readInto_111 : decode cX3_readInto 111 = .ok (.if_icmp .ge 32, 3) := by decide +kernel
theorem dX3_readInto_114 : decode cX3_readInto 114 = .ok (.aload_n 0, 1) := by decide +kernel
theorem dX3_readInto_115 : decode cX3_readInto 115 = .ok (.getfield 19, 3) := by decide +kernel
theorem dX3_readInto_118 : decode cX3_readInto 118 = .ok (.aload_n 0, 1) := by decide +kernel
theorem dX3_readInto_119 : decode cX3_readInto 119 = .ok (.getfield 15, 3) := by decide +kernel
theorem dX3_readInto_122 : decode cX3_readInto 122 = .ok (.if_icmp .ge 21, 3) := by decide +kernel
theorem dX3_readInto_125 : decode cX3_readInto 125 = .ok (.iload_n 2, 1) := by decide +kernel
theorem dX3_readInto_126 : decode cX3_readInto 126 = .ok (.iconst (-1), 1) := by decide +kernel
theorem dX3_readInto_127 : decode cX3_readInto 127 = .ok (.if_icmp .ne 16, 3) := by decide +kernel
theorem dX3_readInto_130 : decode cX3_readInto 130 = .ok (.aload_n 0, 1) := by decide +kernel
theorem dX3_readInto_131 : decode cX3_readInto 131 = .ok (.aload_n 1, 1) := by decide +kernel
theorem dX3_readInto_132 : decode cX3_readInto 132 = .ok (.iload_n 3, 1) := by decide +kernel
theorem dX3_readInto_133 : decode cX3_readInto 133 = .ok (.invokevirtual 51, 3) := by decide +kernel
theorem dX3_readInto_136 : decode cX3_readInto 136 = .ok (.istore_n 2, 1) := by decide +kernel
theorem dX3_readInto_137 : decode cX3_readInto 137 = .ok (.iinc 3 1, 3) := by decide +kernel
theorem dX3_readInto_140 : decode cX3_readInto 140 = .ok (.goto (-31), 3) := by decide +kernel
theorem dX3_readInto_143 : decode cX3_readInto 143 = .ok (.iload_n 2, 1) := by decide +kernel
theorem dX3_readInto_144 : decode cX3_readInto 144 = .ok (.iconst (-1), 1) := by decide +kernel
theorem dX3_readInto_145 : decode cX3_readInto 145 = .ok (.if_icmp .ne 19, 3) := by decide +kernel
theorem dX3_readInto_148 : decode cX3_readInto 148 = .ok (.aload_n 0, 1) := by decide +kernel
theorem dX3_readInto_149 : decode cX3_readInto 149 = .ok (.getfield 19, 3) := by decide +kernel
theorem dX3_readInto_152 : decode cX3_readInto 152 = .ok (.aload_n 0, 1) := by decide +kernel
theorem dX3_readInto_153 : decode cX3_readInto 153 = .ok (.getfield 15, 3) := by decide +kernel
theorem dX3_readInto_156 : decode cX3_readInto 156 = .ok (.if_icmp .ge 8, 3) := by decide +kernel
theorem dX3_readInto_159 : decode cX3_readInto 159 = .ok (.aload_n 0, 1) := by decide +kernel
theorem dX3_readInto_160 : decode cX3_readInto 160 = .ok (.getfield 19, 3) := by decide +kernel
theorem dX3_readInto_163 : decode cX3_readInto 163 = .ok (.ireturn, 1) := by decide +kernel
theorem dX3_readInto_164 : decode cX3_readInto 164 = .ok (.iload_n 2, 1) := by decide +kernel
theorem dX3_readInto_165 : decode cX3_readInto 165 = .ok (.ireturn, 1) := by decide +kernel
theorem dX3_readWeight_0 : decode cX3_readWeight 0 = .ok (.aload_n 0, 1) := by decide +kernel
theorem dX3_readWeight_1 : decode cX3_readWeight 1 = .ok (.bipush 44, 2) := by decide +kernel
theorem dX3_readWeight_3 : decode cX3_readWeight 3 = .ok (.bipush 44, 2) := by decide +kernel
theorem dX3_readWeight_5 : decode cX3_readWeight 5 = .ok (.invokevirtual 36, 3) := by decide +kernel
theorem dX3_readWeight_8 : decode cX3_readWeight 8 = .ok (.ifCond .ne 8, 3) := by decide +kernel
theorem dX3_readWeight_11 : decode cX3_readWeight 11 = .ok (.aload_n 0, 1) := by decide +kernel
theorem dX3_readWeight_12 : decode cX3_readWeight 12 = .ok (.getfield 19, 3) := by decide +kernel
theorem dX3_readWeight_15 : decode cX3_readWeight 15 = .ok (.ireturn, 1) := by decide +kernel
theorem dX3_readWeight_16 : decode cX3_readWeight 16 = .ok (.aload_n 0, 1) := by decide +kernel
theorem dX3_readWeight_17 : decode cX3_readWeight 17 = .ok (.dup, 1) := by decide +kernel
theorem dX3_readWeight_18 : decode cX3_readWeight 18 = .ok (.getfield 19, 3) := by decide +kernel
theorem dX3_readWeight_21 : decode cX3_readWeight 21 = .ok (.iconst 1, 1) := by decide +kernel
theorem dX3_readWeight_22 : decode cX3_readWeight 22 = .ok (.iadd, 1) := by decide +kernel
theorem dX3_readWeight_23 : decode cX3_readWeight 23 = .ok (.putfield 19, 3) := by decide +kernel
theorem dX3_readWeight_26 : decode cX3_readWeight 26 = .ok (.aload_n 0, 1) := by decide +kernel
theorem dX3_readWeight_27 : decode cX3_readWeight 27 = .ok (.getfield 19, 3) := by decide +kernel
theorem dX3_readWeight_30 : decode cX3_readWeight 30 = .ok (.istore_n 3, 1) := by decide +kernel
theorem dX3_readWeight_31 : decode cX3_readWeight 31 = .ok (.iconst 0, 1) := by decide +kernel
theorem dX3_readWeight_32 : decode cX3_readWeight 32 = .ok (.istore 4, 2) := by decide +kernel
theorem dX3_readWeight_34 : decode cX3_readWeight 34 = .ok (.iconst 0, 1) := by decide +kernel
theorem dX3_readWeight_35 : decode cX3_readWeight 35 = .ok (.istore 5, 2) := by decide +kernel
theorem dX3_readWeight_37 : decode cX3_readWeight 37 = .ok (.iload 5, 2) := by decide +kernel
theorem dX3_readWeight_39 : decode cX3_readWeight 39 = .ok (.iconst 5, 1) := by decide +kernel
theorem dX3_readWeight_40 : decode cX3_readWeight 40 = .ok (.if_icmp .ge 32, 3) := by decide +kernel
theorem dX3_readWeight_43 : decode cX3_readWeight 43 = .ok (.aload_n 0, 1) := by decide +kernel
theorem dX3_readWeight_44 : decode cX3_readWeight 44 = .ok (.bipush 48, 2) := by decide +kernel
theorem dX3_readWeight_46 : decode cX3_readWeight 46 = .ok (.bipush 57, 2) := by decide +kernel
theorem dX3_readWeight_48 : decode cX3_readWeight 48 = .ok (.invokevirtual 36, 3) := by decide +kernel
theorem dX3_readWeight_51 : decode cX3_readWeight 51 = .ok (.ifCond .eq 21, 3) := by decide +kernel
theorem dX3_readWeight_54 : decode cX3_readWeight 54 = .ok (.bipush 10, 2) := by decide +kernel
theorem dX3_readWeight_56 : decode cX3_readWeight 56 = .ok (.iload 4, 2) := by decide +kernel
theorem dX3_readWeight_58 : decode cX3_readWeight 58 = .ok (.imul, 1) := by decide +kernel
theorem dX3_readWeight_59 : decode cX3_readWeight 59 = .ok (.aload_n 0, 1) := by decide +kernel
theorem dX3_readWeight_60 : decode cX3_readWeight 60 = .ok (.invokevirtual 40, 3) := by decide +kernel
theorem dX3_readWeight_63 : decode cX3_readWeight 63 = .ok (.iadd, 1) := by decide +kernel
theorem dX3_readWeight_64 : decode cX3_readWeight 64 = .ok (.istore 4, 2) := by decide +kernel
theorem dX3_readWeight_66 : decode cX3_readWeight 66 = .ok (.iinc 5 1, 3) := by decide +kernel
theorem dX3_readWeight_69 : decode cX3_readWeight 69 = .ok (.goto (-32), 3) := by decide +kernel
theorem dX3_readWeight_72 : decode cX3_readWeight 72 = .ok (.aload_n 0, 1) := by decide +kernel
theorem dX3_readWeight_73 : decode cX3_readWeight 73 = .ok (.getfield 19, 3) := by decide +kernel
theorem dX3_readWeight_76 : decode cX3_readWeight 76 = .ok (.iload_n 3, 1) := by decide +kernel
theorem dX3_readWeight_77 : decode cX3_readWeight 77 = .ok (.if_icmp .eq 14, 3) := by decide +kernel
theorem dX3_readWeight_80 : decode cX3_readWeight 80 = .ok (.aload_n 0, 1) := by decide +kernel
theorem dX3_readWeight_81 : decode cX3_readWeight 81 = .ok (.bipush 48, 2) := by decide +kernel
theorem dX3_readWeight_83 : decode cX3_readWeight 83 = .ok (.bipush 57, 2) := by decide +kernel
theorem dX3_readWeight_85 : decode cX3_readWeight 85 = .ok (.invokevirtual 36, 3) := by decide +kernel
theorem dX3_readWeight_88 : decode cX3_readWeight 88 = .ok (.ifCond .eq 8, 3) := by decide +kernel
theorem dX3_readWeight_91 : decode cX3_readWeight 91 = .ok (.aload_n 0, 1) := by decide +kernel
theorem dX3_readWeight_92 : decode cX3_readWeight 92 = .ok (.getfield 19, 3) := by decide +kernel
theorem dX3_readWeight_95 : decode cX3_readWeight 95 = .ok (.ireturn, 1) := by decide +kernel
theorem dX3_readWeight_96 : decode cX3_readWeight 96 = .ok (.iload 4, 2) := by decide +kernel
theorem dX3_readWeight_98 : decode cX3_readWeight 98 = .ok (.ldc 55, 2) := by decide +kernel
theorem dX3_readWeight_100 : decode cX3_readWeight 100 = .ok (.if_icmp .le 5, 3) := by decide +kernel
theorem dX3_readWeight_103 : decode cX3_readWeight 103 = .ok (.iload_n 3, 1) := by decide +kernel
theorem dX3_readWeight_104 : decode cX3_readWeight 104 = .ok (.ireturn, 1) := by decide +kernel
theorem dX3_readWeight_105 : decode cX3_readWeight 105 = .ok (.aload_n 1, 1) := by decide +kernel
theorem dX3_readWeight_106 : decode cX3_readWeight 106 = .ok (.iload_n 2, 1) := by decide +kernel
theorem dX3_readWeight_107 : decode cX3_readWeight 107 = .ok (.iload 4, 2) := by decide +kernel
theorem dX3_readWeight_109 : decode cX3_readWeight 109 = .ok (.invokevirtual 56, 3) := by decide +kernel
theorem dX3_readWeight_112 : decode cX3_readWeight 112 = .ok (.iconst (-1), 1) := by decide +kernel
theorem dX3_readWeight_113 : decode cX3_readWeight 113 = .ok (.ireturn, 1) := by decide +kernel
theorem dX3_nextIsFrom_0 : decode cX3_nextIsFrom 0 = .ok (.aload_n 0, 1) := by decide +kernel
theorem dX3_nextIsFrom_1 : decode cX3_nextIsFrom 1 = .ok (.getfield 19, 3) := by decide +kernel
theorem dX3_nextIsFrom_4 : decode cX3_nextIsFrom 4 = .ok (.aload_n 0, 1) := by decide +kernel
theorem dX3_nextIsFrom_5 : decode cX3_nextIsFrom 5 = .ok (.getfield 15, 3) := by decide +kernel
theorem dX3_nextIsFrom_8 : decode cX3_nextIsFrom 8 = .ok (.if_icmp .lt 5, 3) := by decide +kernel
theorem dX3_nextIsFrom_11 : decode cX3_nextIsFrom 11 = .ok (.iconst 0, 1) := by decide +kernel
theorem dX3_nextIsFrom_12 : decode cX3_nextIsFrom 12 = .ok (.ireturn, 1) := by decide +kernel
theorem dX3_nextIsFrom_13 : decode cX3_nextIsFrom 13 = .ok (.aload_n 0, 1) := by decide +kernel
theorem dX3_nextIsFrom_14 : decode cX3_nextIsFrom 14 = .ok (.getfield 9, 3) := by decide +kernel
theorem dX3_nextIsFrom_17 : decode cX3_nextIsFrom 17 = .ok (.aload_n 0, 1) := by decide +kernel
theorem dX3_nextIsFrom_18 : decode cX3_nextIsFrom 18 = .ok (.getfield 19, 3) := by decide +kernel
theorem dX3_nextIsFrom_21 : decode cX3_nextIsFrom 21 = .ok (.invokestatic 60, 3) := by decide +kernel
theorem dX3_nextIsFrom_24 : decode cX3_nextIsFrom 24 = .ok (.istore_n 3, 1) := by decide +kernel
theorem dX3_nextIsFrom_25 : decode cX3_nextIsFrom 25 = .ok (.iload_n 3, 1) := by decide +kernel
theorem dX3_nextIsFrom_26 : decode cX3_nextIsFrom 26 = .ok (.iload_n 1, 1) := by decide +kernel
theorem dX3_nextIsFrom_27 : decode cX3_nextIsFrom 27 = .ok (.if_icmp .lt 12, 3) := by decide +kernel
theorem dX3_nextIsFrom_30 : decode cX3_nextIsFrom 30 = .ok (.iload_n 3, 1) := by decide +kernel
theorem dX3_nextIsFrom_31 : decode cX3_nextIsFrom 31 = .ok (.iload_n 2, 1) := by decide +kernel
theorem dX3_nextIsFrom_32 : decode cX3_nextIsFrom 32 = .ok (.if_icmp .gt 7, 3) := by decide +kernel
theorem dX3_nextIsFrom_35 : decode cX3_nextIsFrom 35 = .ok (.iconst 1, 1) := by decide +kernel
theorem dX3_nextIsFrom_36 : decode cX3_nextIsFrom 36 = .ok (.goto 4, 3) := by decide +kernel
theorem dX3_nextIsFrom_39 : decode cX3_nextIsFrom 39 = .ok (.iconst 0, 1) := by decide +kernel
theorem dX3_nextIsFrom_40 : decode cX3_nextIsFrom 40 = .ok (.ireturn, 1) := by decide +kernel
theorem dX3_takeDigit_0 : decode cX3_takeDigit 0 = .ok (.aload_n 0, 1) := by decide +kernel
theorem dX3_takeDigit_1 : decode cX3_takeDigit 1 = .ok (.getfield 9, 3) := by decide +kernel
theorem dX3_takeDigit_4 : decode cX3_takeDigit 4 = .ok (.aload_n 0, 1) := by decide +kernel
theorem dX3_takeDigit_5 : decode cX3_takeDigit 5 = .ok (.getfield 19, 3) := by decide +kernel
theorem dX3_takeDigit_8 : decode cX3_takeDigit 8 = .ok (.invokestatic 60, 3) := by decide +kernel
theorem dX3_takeDigit_11 : decode cX3_takeDigit 11 = .ok (.bipush 48, 2) := by decide +kernel
theorem dX3_takeDigit_13 : decode cX3_takeDigit 13 = .ok (.isub, 1) := by decide +kernel
theorem dX3_takeDigit_14 : decode cX3_takeDigit 14 = .ok (.istore_n 1, 1) := by decide +kernel
theorem dX3_takeDigit_15 : decode cX3_takeDigit 15 = .ok (.aload_n 0, 1) := by decide +kernel
theorem dX3_takeDigit_16 : decode cX3_takeDigit 16 = .ok (.dup, 1) := by decide +kernel
theorem dX3_takeDigit_17 : decode cX3_takeDigit 17 = .ok (.getfield 19, 3) := by decide +kernel
theorem dX3_takeDigit_20 : decode cX3_takeDigit 20 = .ok (.iconst 1, 1) := by decide +kernel
theorem dX3_takeDigit_21 : decode cX3_takeDigit 21 = .ok (.iadd, 1) := by decide +kernel
theorem dX3_takeDigit_22 : decode cX3_takeDigit 22 = .ok (.putfield 19, 3) := by decide +kernel
theorem dX3_takeDigit_25 : decode cX3_takeDigit 25 = .ok (.iload_n 1, 1) := by decide +kernel
theorem dX3_takeDigit_26 : decode cX3_takeDigit 26 = .ok (.ireturn, 1) := by decide +kernel
theorem dJ9_floorMod_7cf53_0 : decode cJ9_floorMod_7cf53 0 = .ok (.iload_n 0, 1) := by decide +kernel
theorem dJ9_floorMod_7cf53_1 : decode cJ9_floorMod_7cf53 1 = .ok (.iload_n 1, 1) := by decide +kernel
theorem dJ9_floorMod_7cf53_2 : decode cJ9_floorMod_7cf53 2 = .ok (.irem, 1) := by decide +kernel
theorem dJ9_floorMod_7cf53_3 : decode cJ9_floorMod_7cf53 3 = .ok (.istore_n 2, 1) := by decide +kernel
theorem dJ9_floorMod_7cf53_4 : decode cJ9_floorMod_7cf53 4 = .ok (.iload_n 0, 1) := by decide +kernel
theorem dJ9_floorMod_7cf53_5 : decode cJ9_floorMod_7cf53 5 = .ok (.iload_n 1, 1) := by decide +kernel
theorem dJ9_floorMod_7cf53_6 : decode cJ9_floorMod_7cf53 6 = .ok (.ixor, 1) := by decide +kernel
theorem dJ9_floorMod_7cf53_7 : decode cJ9_floorMod_7cf53 7 = .ok (.ifCond .ge 11, 3) := by decide +kernel
theorem dJ9_floorMod_7cf53_10 : decode cJ9_floorMod_7cf53 10 = .ok (.iload_n 2, 1) := by decide +kernel
theorem dJ9_floorMod_7cf53_11 : decode cJ9_floorMod_7cf53 11 = .ok (.ifCond .eq 7, 3) := by decide +kernel
theorem dJ9_floorMod_7cf53_14 : decode cJ9_floorMod_7cf53 14 = .ok (.iload_n 2, 1) := by decide +kernel
theorem dJ9_floorMod_7cf53_15 : decode cJ9_floorMod_7cf53 15 = .ok (.iload_n 1, 1) := by decide +kernel
theorem dJ9_floorMod_7cf53_16 : decode cJ9_floorMod_7cf53 16 = .ok (.iadd, 1) := by decide +kernel
theorem dJ9_floorMod_7cf53_17 : decode cJ9_floorMod_7cf53 17 = .ok (.ireturn, 1) := by decide +kernel
theorem dJ9_floorMod_7cf53_18 : decode cJ9_floorMod_7cf53 18 = .ok (.iload_n 2, 1) := by decide +kernel
theorem dJ9_floorMod_7cf53_19 : decode cJ9_floorMod_7cf53 19 = .ok (.ireturn, 1) := by decide +kernel
theorem dJ9_max_7cf53_0 : decode cJ9_max_7cf53 0 = .ok (.iload_n 0, 1) := by decide +kernel
theorem dJ9_max_7cf53_1 : decode cJ9_max_7cf53 1 = .ok (.iload_n 1, 1) := by decide +kernel
theorem dJ9_max_7cf53_2 : decode cJ9_max_7cf53 2 = .ok (.if_icmp .lt 7, 3) := by decide +kernel
theorem dJ9_max_7cf53_5 : decode cJ9_max_7cf53 5 = .ok (.iload_n 0, 1) := by decide +kernel
theorem dJ9_max_7cf53_6 : decode cJ9_max_7cf53 6 = .ok (.goto 4, 3) := by decide +kernel
theorem dJ9_max_7cf53_9 : decode cJ9_max_7cf53 9 = .ok (.iload_n 1, 1) := by decide +kernel
theorem dJ9_max_7cf53_10 : decode cJ9_max_7cf53 10 = .ok (.ireturn, 1) := by decide +kernel
theorem dJ9_min_7cf53_0 : decode cJ9_min_7cf53 0 = .ok (.iload_n 0, 1) := by decide +kernel
theorem dJ9_min_7cf53_1 : decode cJ9_min_7cf53 1 = .ok (.iload_n 1, 1) := by decide +kernel
theorem dJ9_min_7cf53_2 : decode cJ9_min_7cf53 2 = .ok (.if_icmp .gt 7, 3) := by decide +kernel
theorem dJ9_min_7cf53_5 : decode cJ9_min_7cf53 5 = .ok (.iload_n 0, 1) := by decide +kernel
theorem dJ9_min_7cf53_6 : decode cJ9_min_7cf53 6 = .ok (.goto 4, 3) := by decide +kernel
theorem dJ9_min_7cf53_9 : decode cJ9_min_7cf53 9 = .ok (.iload_n 1, 1) := by decide +kernel
theorem dJ9_min_7cf53_10 : decode cJ9_min_7cf53 10 = .ok (.ireturn, 1) := by decide +kernel
end
section
theorem dX4_init_0 : decode cX4_init 0 = .ok (.aload_n 0, 1) := by decide +kernel
theorem dX4_init_1 : decode cX4_init 1 = .ok (.invokespecial 1, 3) := by decide +kernel
theorem dX4_init_4 : decode cX4_init 4 = .ok (.aload_n 0, 1) := by decide +kernel
theorem dX4_init_5 : decode cX4_init 5 = .ok (.new 7, 3) := by decide +kernel
theorem dX4_init_8 : decode cX4_init 8 = .ok (.dup, 1) := by decide +kernel
theorem dX4_init_9 : decode cX4_init 9 = .ok (.invokespecial 9, 3) := by decide +kernel
theorem dX4_init_12 : decode cX4_init 12 = .ok (.putfield 10, 3) := by decide +kernel
theorem dX4_init_15 : decode cX4_init 15 = .ok (.aload_n 0, 1) := by decide +kernel
theorem dX4_init_16 : decode cX4_init 16 = .ok (.new 7, 3) := by decide +kernel
theorem dX4_init_19 : decode cX4_init 19 = .ok (.dup, 1) := by decide +kernel
theorem dX4_init_20 : decode cX4_init 20 = .ok (.invokespecial 9, 3) := by decide +kernel
theorem dX4_init_23 : decode cX4_init 23 = .ok (.putfield 16, 3) := by decide +kernel
theorem dX4_init_26 : decode cX4_init 26 = .ok (.aload_n 0, 1) := by decide +kernel
theorem dX4_init_27 : decode cX4_init 27 = .ok (.iconst 4, 1) := by decide +kernel
theorem dX4_init_28 : decode cX4_init 28 = .ok (.anewarray 7, 3) := by decide +kernel
theorem dX4_init_31 : decode cX4_init 31 = .ok (.putfield 19, 3) := by decide +kernel
theorem dX4_init_34 : decode cX4_init 34 = .ok (.aload_n 0, 1) := by decide +kernel
theorem dX4_init_35 : decode cX4_init 35 = .ok (.iconst 0, 1) := by decide +kernel
theorem dX4_init_36 : decode cX4_init 36 = .ok (.putfield 23, 3) := by decide +kernel
theorem dX4_init_39 : decode cX4_init 39 = .ok (.aload_n 0, 1) := by decide +kernel
theorem dX4_init_40 : decode cX4_init 40 = .ok (.iconst 0, 1) := by decide +kernel
theorem dX4_init_41 : decode cX4_init 41 = .ok (.putfield 27, 3) := by decide +kernel
theorem dX4_init_44 : decode cX4_init 44 = .ok (.aload_n 0, 1) := by decide +kernel
theorem dX4_init_45 : decode cX4_init 45 = .ok (.new 30, 3) := by decide +kernel
theorem dX4_init_48 : decode cX4_init 48 = .ok (.dup, 1) := by decide +kernel
theorem dX4_init_49 : decode cX4_init 49 = .ok (.invokespecial 32, 3) := by decide +kernel
theorem dX4_init_52 : decode cX4_init 52 = .ok (.putfield 33, 3) := by decide +kernel
theorem dX4_init_55 : decode cX4_init 55 = .ok (.iconst 0, 1) := by decide +kernel
theorem dX4_init_56 : decode cX4_init 56 = .ok (.istore_n 1, 1) := by decide +kernel
theorem dX4_init_57 : decode cX4_init 57 = .ok (.iload_n 1, 1) := by decide +kernel
theorem dX4_init_58 : decode cX4_init 58 = .ok (.aload_n 0, 1) := by decide +kernel
theorem dX4_init_59 : decode cX4_init 59 = .ok (.getfield 19, 3) := by decide +kernel
theorem dX4_init_62 : decode cX4_init 62 = .ok (.arraylength, 1) := by decide +kernel
theorem dX4_init_63 : decode cX4_init 63 = .ok (.if_icmp .ge 22, 3) := by decide +kernel
theorem dX4_init_66 : decode cX4_init 66 = .ok (.aload_n 0, 1) := by decide +kernel
theorem dX4_init_67 : decode cX4_init 67 = .ok (.getfield 19, 3) := by decide +kernel
theorem dX4_init_70 : decode cX4_init 70 = .ok (.iload_n 1, 1) := by decide +kernel
theorem dX4_init_71 : decode cX4_init 71 = .ok (.new 7, 3) := by decide +kernel
theorem dX4_init_74 : decode cX4_init 74 = .ok (.dup, 1) := by decide +kernel
theorem dX4_init_75 : decode cX4_init 75 = .ok (.invokespecial 9, 3) := by decide +kernel
theorem dX4_init_78 : decode cX4_init 78 = .ok (.aastore, 1) := by decide +kernel
theorem dX4_init_79 : decode cX4_init 79 = .ok (.iinc 1 1, 3) := by decide +kernel
theorem dX4_init_82 : decode cX4_init 82 = .ok (.goto (-25), 3) := by decide +kernel
theorem dX4_init_85 : decode cX4_init 85 = .ok (.return_, 1) := by decide +kernel
theorem dX4_setWeight_0 : decode cX4_setWeight 0 = .ok (.iload_n 1, 1) := by decide +kernel
theorem dX4_setWeight_1 : decode cX4_setWeight 1 = .ok (.invokestatic 37, 3) := by decide +kernel
theorem dX4_setWeight_4 : decode cX4_setWeight 4 = .ok (.iload_n 2, 1) := by decide +kernel
theorem dX4_setWeight_5 : decode cX4_setWeight 5 = .ok (.iconst 0, 1) := by decide +kernel
theorem dX4_setWeight_6 : decode cX4_setWeight 6 = .ok (.ldc 41, 2) := by decide +kernel
theorem dX4_setWeight_8 : decode cX4_setWeight 8 = .ok (.invokestatic 42, 3) := by decide +kernel
theorem dX4_setWeight_11 : decode cX4_setWeight 11 = .ok (.aload_n 0, 1) := by decide +kernel
theorem dX4_setWeight_12 : decode cX4_setWeight 12 = .ok (.invokevirtual 46, 3) := by decide +kernel
theorem dX4_setWeight_15 : decode cX4_setWeight 15 = .ok (.aload_n 0, 1) := by decide +kernel
theorem dX4_setWeight_16 : decode cX4_setWeight 16 = .ok (.getfield 10, 3) := by decide +kernel
theorem dX4_setWeight_19 : decode cX4_setWeight 19 = .ok (.iload_n 1, 1) := by decide +kernel
theorem dX4_setWeight_20 : decode cX4_setWeight 20 = .ok (.invokevirtual 49, 3) := by decide +kernel
theorem dX4_setWeight_23 : decode cX4_setWeight 23 = .ok (.istore_n 3, 1) := by decide +kernel
theorem dX4_setWeight_24 : decode cX4_setWeight 24 = .ok (.aload_n 0, 1) := by decide +kernel
theorem dX4_setWeight_25 : decode cX4_setWeight 25 = .ok (.getfield 10, 3) := by decide +kernel
theorem dX4_setWeight_28 : decode cX4_setWeight 28 = .ok (.iload_n 1, 1) := by decide +kernel
theorem dX4_setWeight_29 : decode cX4_setWeight 29 = .ok (.iload_n 2, 1) := by decide +kernel
theorem dX4_setWeight_30 : decode cX4_setWeight 30 = .ok (.invokevirtual 53, 3) := by decide +kernel
theorem dX4_setWeight_33 : decode cX4_setWeight 33 = .ok (.iload_n 3, 1) := by decide +kernel
theorem dX4_setWeight_34 : decode cX4_setWeight 34 = .ok (.ireturn, 1) := by decide +kernel
theorem dX4_setFriction_0 : decode cX4_setFriction 0 = .ok (.iload_n 1, 1) := by decide +kernel
theorem dX4_setFriction_1 : decode cX4_setFriction 1 = .ok (.iconst 0, 1) := by decide +kernel
theorem dX4_setFriction_2 : decode cX4_setFriction 2 = .ok (.bipush 30, 2) := by decide +kernel
theorem dX4_setFriction_4 : decode cX4_setFriction 4 = .ok (.invokestatic 42, 3) := by decide +kernel
theorem dX4_setFriction_7 : decode cX4_setFriction 7 = .ok (.aload_n 0, 1) := by decide +kernel
theorem dX4_setFriction_8 : decode cX4_setFriction 8 = .ok (.invokevirtual 46, 3) := by decide +kernel
theorem dX4_setFriction_11 : decode cX4_setFriction 11 = .ok (.aload_n 0, 1) := by decide +kernel
theorem dX4_setFriction_12 : decode cX4_setFriction 12 = .ok (.getfield 10, 3) := by decide +kernel
theorem dX4_setFriction_15 : decode cX4_setFriction 15 = .ok (.getfield 57, 3) := by decide +kernel
theorem dX4_setFriction_18 : decode cX4_setFriction 18 = .ok (.getfield 61, 3) := by decide +kernel
theorem dX4_setFriction_21 : decode cX4_setFriction 21 = .ok (.istore_n 2, 1) := by decide +kernel
theorem dX4_setFriction_22 : decode cX4_setFriction 22 = .ok (.aload_n 0, 1) := by decide +kernel
theorem dX4_setFriction_23 : decode cX4_setFriction 23 = .ok (.getfield 10, 3) := by decide +kernel
theorem dX4_setFriction_26 : decode cX4_setFriction 26 = .ok (.getfield 57, 3) := by decide +kernel
theorem dX4_setFriction_29 : decode cX4_setFriction 29 = .ok (.iload_n 1, 1) := by decide +kernel
theorem dX4_setFriction_30 : decode cX4_setFriction 30 = .ok (.putfield 61, 3) := by decide +kernel
theorem dX4_setFriction_33 : decode cX4_setFriction 33 = .ok (.iload_n 2, 1) := by decide +kernel
theorem dX4_setFriction_34 : decode cX4_setFriction 34 = .ok (.ireturn, 1) := by decide +kernel
theorem dX4_setLength_0 : decode cX4_setLength 0 = .ok (.iload_n 1, 1) := by decide +kernel
theorem dX4_setLength_1 : decode cX4_setLength 1 = .ok (.sipush 1000, 3) := by decide +kernel
theorem dX4_setLength_4 : decode cX4_setLength 4 = .ok (.ldc 66, 2) := by decide +kernel
theorem dX4_setLength_6 : decode cX4_setLength 6 = .ok (.invokestatic 42, 3) := by decide +kernel
theorem dX4_setLength_9 : decode cX4_setLength 9 = .ok (.aload_n 0, 1) := by decide +kernel
theorem dX4_setLength_10 : decode cX4_setLength 10 = .ok (.getfield 16, 3) := by decide +kernel
theorem dX4_setLength_13 : decode cX4_setLength 13 = .ok (.aload_n 0, 1) := by decide +kernel
theorem dX4_setLength_14 : decode cX4_setLength 14 = .ok (.getfield 10, 3) := by decide +kernel
theorem dX4_setLength_17 : decode cX4_setLength 17 = .ok (.invokevirtual 67, 3) := by decide +kernel
theorem dX4_setLength_20 : decode cX4_setLength 20 = .ok (.aload_n 0, 1) := by decide +kernel
theorem dX4_setLength_21 : decode cX4_setLength 21 = .ok (.getfield 16, 3) := by decide +kernel
theorem dX4_setLength_24 : decode cX4_setLength 24 = .ok (.iload_n 1, 1) := by decide +kernel
theorem dX4_setLength_25 : decode cX4_setLength 25 = .ok (.putfield 71, 3) := by decide +kernel
theorem dX4_setLength_28 : decode cX4_setLength 28 = .ok (.aload_n 0, 1) := by decide +kernel
theorem dX4_setLength_29 : decode cX4_setLength 29 = .ok (.invokevirtual 74, 3) := by decide +kernel
theorem dX4_setLength_32 : decode cX4_setLength 32 = .ok (.aload_n 0, 1) := by decide +kernel
theorem dX4_setLength_33 : decode cX4_setLength 33 = .ok (.invokevirtual 77, 3) := by decide +kernel
theorem dX4_setLength_36 : decode cX4_setLength 36 = .ok (.aload_n 0, 1) := by decide +kernel
theorem dX4_setLength_37 : decode cX4_setLength 37 = .ok (.getfield 10, 3) := by decide +kernel
theorem dX4_setLength_40 : decode cX4_setLength 40 = .ok (.invokevirtual 80, 3) := by decide +kernel
theorem dX4_setLength_43 : decode cX4_setLength 43 = .ok (.ireturn, 1) := by decide +kernel
theorem dX4_addPulley_0 : decode cX4_addPulley 0 = .ok (.iload_n 1, 1) := by decide +kernel
theorem dX4_addPulley_1 : decode cX4_addPulley 1 = .ok (.invokestatic 37, 3) := by decide +kernel
theorem dX4_addPulley_4 : decode cX4_addPulley 4 = .ok (.aload_n 0, 1) := by decide +kernel
theorem dX4_addPulley_5 : decode cX4_addPulley 5 = .ok (.getfield 10, 3) := by decide +kernel
theorem dX4_addPulley_8 : decode cX4_addPulley 8 = .ok (.getfield 57, 3) := by decide +kernel
theorem dX4_addPulley_11 : decode cX4_addPulley 11 = .ok (.getfield 84, 3) := by decide +kernel
theorem dX4_addPulley_14 : decode cX4_addPulley 14 = .ok (.bipush 10, 2) := by decide +kernel
theorem dX4_addPulley_16 : decode cX4_addPulley 16 = .ok (.if_icmp .lt 13, 3) := by decide +kernel
theorem dX4_addPulley_19 : decode cX4_addPulley 19 = .ok (.new 87, 3) := by decide +kernel
theorem dX4_addPulley_22 : decode cX4_addPulley 22 = .ok (.dup, 1) := by decide +kernel
theorem dX4_addPulley_23 : decode cX4_addPulley 23 = .ok (.ldc 89, 2) := by decide +kernel
theorem dX4_addPulley_25 : decode cX4_addPulley 25 = .ok (.invokespecial 91, 3) := by decide +kernel
theorem dX4_addPulley_28 : decode cX4_addPulley 28 = .ok (.athrow, 1) := by decide +kernel
theorem dX4_addPulley_29 : decode cX4_addPulley 29 = .ok (.aload_n 0, 1) := by decide +kernel
theorem dX4_addPulley_30 : decode cX4_addPulley 30 = .ok (.getfield 16, 3) := by decide +kernel
theorem dX4_addPulley_33 : decode cX4_addPulley 33 = .ok (.aload_n 0, 1) := by decide +kernel
theorem dX4_addPulley_34 : decode cX4_addPulley 34 = .ok (.getfield 10, 3) := by decide +kernel
theorem dX4_addPulley_37 : decode cX4_addPulley 37 = .ok (.invokevirtual 67, 3) := by decide +kernel
theorem dX4_addPulley_40 : decode cX4_addPulley 40 = .ok (.aload_n 0, 1) := by decide +kernel
theorem dX4_addPulley_41 : decode cX4_addPulley 41 = .ok (.getfield 16, 3) := by decide +kernel
theorem dX4_addPulley_44 : decode cX4_addPulley 44 = .ok (.getfield 57, 3) := by decide +kernel
theorem dX4_addPulley_47 : decode cX4_addPulley 47 = .ok (.iload_n 1, 1) := by decide +kernel
theorem dX4_addPulley_48 : decode cX4_addPulley 48 = .ok (.invokevirtual 94, 3) := by decide +kernel
theorem dX4_addPulley_51 : decode cX4_addPulley 51 = .ok (.aload_n 0, 1) := by decide +kernel
theorem dX4_addPulley_52 : decode cX4_addPulley 52 = .ok (.invokevirtual 74, 3) := by decide +kernel
theorem dX4_addPulley_55 : decode cX4_addPulley 55 = .ok (.aload_n 0, 1) := by decide +kernel
theorem dX4_addPulley_56 : decode cX4_addPulley 56 = .ok (.invokevirtual 77, 3) := by decide +kernel
theorem dX4_addPulley_59 : decode cX4_addPulley 59 = .ok (.aload_n 0, 1) := by decide +kernel
theorem dX4_addPulley_60 : decode cX4_addPulley 60 = .ok (.getfield 10, 3) := by decide +kernel
theorem dX4_addPulley_63 : decode cX4_addPulley 63 = .ok (.getfield 57, 3) := by decide +kernel
theorem dX4_addPulley_66 : decode cX4_addPulley 66 = .ok (.getfield 84, 3) := by decide +kernel
theorem dX4_addPulley_69 : decode cX4_addPulley 69 = .ok (.ireturn, 1) := by decide +kernel
theorem dX4_takePulley_0 : decode cX4_takePulley 0 = .ok (.aload_n 0, 1) := by decide +kernel
theorem dX4_takePulley_1 : decode cX4_takePulley 1 = .ok (.getfield 10, 3) := by decide +kernel
theorem dX4_takePulley_4 : decode cX4_takePulley 4 = .ok (.getfield 57, 3) := by decide +kernel
theorem dX4_takePulley_7 : decode cX4_takePulley 7 = .ok (.getfield 84, 3) := by decide +kernel
theorem dX4_takePulley_10 : decode cX4_takePulley 10 = .ok (.ifCond .gt 13, 3) := by decide +kernel
theorem dX4_takePulley_13 : decode cX4_takePulley 13 = .ok (.new 87, 3) := by decide +kernel
theorem dX4_takePulley_16 : decode cX4_takePulley 16 = .ok (.dup, 1) := by decide +kernel
theorem dX4_takePulley_17 : decode cX4_takePulley 17 = .ok (.ldc 97, 2) := by decide +kernel
theorem dX4_takePulley_19 : decode cX4_takePulley 19 = .ok (.invokespecial 91, 3) := by decide +kernel
theorem dX4_takePulley_22 : decode cX4_takePulley 22 = .ok (.athrow, 1) := by decide +kernel
theorem dX4_takePulley_23 : decode cX4_takePulley 23 = .ok (.aload_n 0, 1) := by decide +kernel
theorem dX4_takePulley_24 : decode cX4_takePulley 24 = .ok (.invokevirtual 46, 3) := by decide +kernel
theorem dX4_takePulley_27 : decode cX4_takePulley 27 = .ok (.aload_n 0, 1) := by decide +kernel
theorem dX4_takePulley_28 : decode cX4_takePulley 28 = .ok (.getfield 10, 3) := by decide +kernel
theorem dX4_takePulley_31 : decode cX4_takePulley 31 = .ok (.getfield 57, 3) := by decide +kernel
theorem dX4_takePulley_34 : decode cX4_takePulley 34 = .ok (.invokevirtual 99, 3) := by decide +kernel
theorem dX4_takePulley_37 : decode cX4_takePulley 37 = .ok (.ireturn, 1) := by decide +kernel
theorem dX4_setEnd_0 : decode cX4_setEnd 0 = .ok (.iload_n 1, 1) := by decide +kernel
theorem dX4_setEnd_1 : decode cX4_setEnd 1 = .ok (.ifCond .lt 8, 3) := by decide +kernel
theorem dX4_setEnd_4 : decode cX4_setEnd 4 = .ok (.iload_n 1, 1) := by decide +kernel
theorem dX4_setEnd_5 : decode cX4_setEnd 5 = .ok (.iconst 4, 1) := by decide +kernel
theorem dX4_setEnd_6 : decode cX4_setEnd 6 = .ok (.if_icmp .le 13, 3) := by decide +kernel
theorem dX4_setEnd_9 : decode cX4_setEnd 9 = .ok (.new 102, 3) := by decide +kernel
theorem dX4_setEnd_12 : decode cX4_setEnd 12 = .ok (.dup, 1) := by decide +kernel
theorem dX4_setEnd_13 : decode cX4_setEnd 13 = .ok (.ldc 104, 2) := by decide +kernel
theorem dX4_setEnd_15 : decode cX4_setEnd 15 = .ok (.invokespecial 106, 3) := by decide +kernel
theorem dX4_setEnd_18 : decode cX4_setEnd 18 = .ok (.athrow, 1) := by decide +kernel
theorem dX4_setEnd_19 : decode cX4_setEnd 19 = .ok (.aload_n 0, 1) := by decide +kernel
theorem dX4_setEnd_20 : decode cX4_setEnd 20 = .ok (.getfield 10, 3) := by decide +kernel
theorem dX4_setEnd_23 : decode cX4_setEnd 23 = .ok (.getfield 57, 3) := by decide +kernel
theorem dX4_setEnd_26 : decode cX4_setEnd 26 = .ok (.getfield 107, 3) := by decide +kernel
theorem dX4_setEnd_29 : decode cX4_setEnd 29 = .ok (.istore_n 2, 1) := by decide +kernel
theorem dX4_setEnd_30 : decode cX4_setEnd 30 = .ok (.aload_n 0, 1) := by decide +kernel
theorem dX4_setEnd_31 : decode cX4_setEnd 31 = .ok (.getfield 16, 3) := by decide +kernel
theorem dX4_setEnd_34 : decode cX4_setEnd 34 = .ok (.aload_n 0, 1) := by decide +kernel
theorem dX4_setEnd_35 : decode cX4_setEnd 35 = .ok (.getfield 10, 3) := by decide +kernel
theorem dX4_setEnd_38 : decode cX4_setEnd 38 = .ok (.invokevirtual 67, 3) := by decide +kernel
theorem dX4_setEnd_41 : decode cX4_setEnd 41 = .ok (.aload_n 0, 1) := by decide +kernel
theorem dX4_setEnd_42 : decode cX4_setEnd 42 = .ok (.getfield 16, 3) := by decide +kernel
theorem dX4_setEnd_45 : decode cX4_setEnd 45 = .ok (.getfield 57, 3) := by decide +kernel
theorem dX4_setEnd_48 : decode cX4_setEnd 48 = .ok (.iload_n 1, 1) := by decide +kernel
theorem dX4_setEnd_49 : decode cX4_setEnd 49 = .ok (.putfield 107, 3) := by decide +kernel
theorem dX4_setEnd_52 : decode cX4_setEnd 52 = .ok (.aload_n 0, 1) := by decide +kernel
theorem dX4_setEnd_53 : decode cX4_setEnd 53 = .ok (.invokevirtual 74, 3) := by decide +kernel
theorem dX4_setEnd_56 : decode cX4_setEnd 56 = .ok (.aload_n 0, 1) := by decide +kernel
theorem dX4_setEnd_57 : decode cX4_setEnd 57 = .ok (.invokevirtual 77, 3) := by decide +kernel
theorem dX4_setEnd_60 : decode cX4_setEnd 60 = .ok (.iload_n 2, 1) := by decide +kernel
theorem dX4_setEnd_61 : decode cX4_setEnd 61 = .ok (.ireturn, 1) := by decide +kernel
theorem dX4_haul_0 : decode cX4_haul 0 = .ok (.iload_n 1, 1) := by decide +kernel
theorem dX4_haul_1 : decode cX4_haul 1 = .ok (.iconst 0, 1) := by decide +kernel
theorem dX4_haul_2 : decode cX4_haul 2 = .ok (.ldc 110, 2) := by decide +kernel
theorem dX4_haul_4 : decode cX4_haul 4 = .ok (.invokestatic 42, 3) := by decide +kernel
theorem dX4_haul_7 : decode cX4_haul 7 = .ok (.iload_n 2, 1) := by decide +kernel
theorem dX4_haul_8 : decode cX4_haul 8 = .ok (.iconst 0, 1) := by decide +kernel
theorem dX4_haul_9 : decode cX4_haul 9 = .ok (.ldc 111, 2) := by decide +kernel
theorem dX4_haul_11 : decode cX4_haul 11 = .ok (.invokestatic 42, 3) := by decide +kernel
theorem dX4_haul_14 : decode cX4_haul 14 = .ok (.aload_n 0, 1) := by decide +kernel
theorem dX4_haul_15 : decode cX4_haul 15 = .ok (.invokevirtual 46, 3) := by decide +kernel
theorem dX4_haul_18 : decode cX4_haul 18 = .ok (.aload_n 0, 1) := by decide +kernel
theorem dX4_haul_19 : decode cX4_haul 19 = .ok (.getfield 10, 3) := by decide +kernel
theorem dX4_haul_22 : decode cX4_haul 22 = .ok (.iload_n 1, 1) := by decide +kernel
theorem dX4_haul_23 : decode cX4_haul 23 = .ok (.iload_n 2, 1) := by decide +kernel
theorem dX4_haul_24 : decode cX4_haul 24 = .ok (.invokevirtual 112, 3) := by decide +kernel
theorem dX4_haul_27 : decode cX4_haul 27 = .ok (.ireturn, 1) := by decide +kernel
theorem dX4_letOut_0 : decode cX4_letOut 0 = .ok (.iload_n 1, 1) := by decide +kernel
theorem dX4_letOut_1 : decode cX4_letOut 1 = .ok (.iconst 0, 1) := by decide +kernel
theorem dX4_letOut_2 : decode cX4_letOut 2 = .ok (.ldc 110, 2) := by decide +kernel
theorem dX4_letOut_4 : decode cX4_letOut 4 = .ok (.invokestatic 42, 3) := by decide +kernel
theorem dX4_letOut_7 : decode cX4_letOut 7 = .ok (.iload_n 2, 1) := by decide +kernel
theorem dX4_letOut_8 : decode cX4_letOut 8 = .ok (.iconst 0, 1) := by decide +kernel
theorem dX4_letOut_9 : decode cX4_letOut 9 = .ok (.ldc 111, 2) := by decide +kernel
theorem dX4_letOut_11 : decode cX4_letOut 11 = .ok (.invokestatic 42, 3) := by decide +kernel
theorem dX4_letOut_14 : decode cX4_letOut 14 = .ok (.aload_n 0, 1) := by decide +kernel
theorem dX4_letOut_15 : decode cX4_letOut 15 = .ok (.invokevirtual 46, 3) := by decide +kernel
theorem dX4_letOut_18 : decode cX4_letOut 18 = .ok (.aload_n 0, 1) := by decide +kernel
theorem dX4_letOut_19 : decode cX4_letOut 19 = .ok (.getfield 10, 3) := by decide +kernel
theorem dX4_letOut_22 : decode cX4_letOut 22 = .ok (.iload_n 1, 1) := by decide +kernel
theorem dX4_letOut_23 : decode cX4_letOut 23 = .ok (.iload_n 2, 1) := by decide +kernel
theorem dX4_letOut_24 : decode cX4_letOut 24 = .ok (.invokevirtual 116, 3) := by decide +kernel
theorem dX4_letOut_27 : decode cX4_letOut 27 = .ok (.ireturn, 1) := by decide +kernel
theorem dX4_block_0 : decode cX4_block 0 = .ok (.iload_n 1, 1) := by decide +kernel
theorem dX4_block_1 : decode cX4_block 1 = .ok (.invokestatic 37, 3) := by decide +kernel
theorem dX4_block_4 : decode cX4_block 4 = .ok (.iload_n 2, 1) := by decide +kernel
theorem dX4_block_5 : decode cX4_block 5 = .ok (.tableswitch 130 0 6 #[43, 52, 61, 73, 85, 95, 105], 43) := by decide +kernel
theorem dX4_block_48 : decode cX4_block 48 = .ok (.aload_n 0, 1) := by decide +kernel
theorem dX4_block_49 : decode cX4_block 49 = .ok (.getfield 10, 3) := by decide +kernel
theorem dX4_block_52 : decode cX4_block 52 = .ok (.iload_n 1, 1) := by decide +kernel
theorem dX4_block_53 : decode cX4_block 53 = .ok (.invokevirtual 49, 3) := by decide +kernel
theorem dX4_block_56 : decode cX4_block 56 = .ok (.ireturn, 1) := by decide +kernel
theorem dX4_block_57 : decode cX4_block 57 = .ok (.aload_n 0, 1) := by decide +kernel
theorem dX4_block_58 : decode cX4_block 58 = .ok (.getfield 10, 3) := by decide +kernel
theorem dX4_block_61 : decode cX4_block 61 = .ok (.iload_n 1, 1) := by decide +kernel
theorem dX4_block_62 : decode cX4_block 62 = .ok (.invokevirtual 119, 3) := by decide +kernel
theorem dX4_block_65 : decode cX4_block 65 = .ok (.ireturn, 1) := by decide +kernel
theorem dX4_block_66 : decode cX4_block 66 = .ok (.aload_n 0, 1) := by decide +kernel
theorem dX4_block_67 : decode cX4_block 67 = .ok (.getfield 10, 3) := by decide +kernel
theorem dX4_block_70 : decode cX4_block 70 = .ok (.getfield 57, 3) := by decide +kernel
theorem dX4_block_73 : decode cX4_block 73 = .ok (.iload_n 1, 1) := by decide +kernel
theorem dX4_block_74 : decode cX4_block 74 = .ok (.invokevirtual 122, 3) := by decide +kernel
theorem dX4_block_77 : decode cX4_block 77 = .ok (.ireturn, 1) := by decide +kernel
theorem dX4_block_78 : decode cX4_block 78 = .ok (.aload_n 0, 1) := by decide +kernel
theorem dX4_block_79 : decode cX4_block 79 = .ok (.getfield 10, 3) := by decide +kernel
theorem dX4_block_82 : decode cX4_block 82 = .ok (.getfield 57, 3) := by decide +kernel
theorem dX4_block_85 : decode cX4_block 85 = .ok (.iload_n 1, 1) := by decide +kernel
theorem dX4_block_86 : decode cX4_block 86 = .ok (.invokevirtual 125, 3) := by decide +kernel
theorem dX4_block_89 : decode cX4_block 89 = .ok (.ireturn, 1) := by decide +kernel
theorem dX4_block_90 : decode cX4_block 90 = .ok (.aload_n 0, 1) := by decide +kernel
theorem dX4_block_91 : decode cX4_block 91 = .ok (.getfield 10, 3) := by decide +kernel
theorem dX4_block_94 : decode cX4_block 94 = .ok (.iload_n 1, 1) := by decide +kernel
theorem dX4_block_95 : decode cX4_block 95 = .ok (.iconst 1, 1) := by decide +kernel
theorem dX4_block_96 : decode cX4_block 96 = .ok (.invokevirtual 128, 3) := by decide +kernel
theorem dX4_block_99 : decode cX4_block 99 = .ok (.ireturn, 1) := by decide +kernel
theorem dX4_block_100 : decode cX4_block 100 = .ok (.aload_n 0, 1) := by decide +kernel
theorem dX4_block_101 : decode cX4_block 101 = .ok (.getfield 10, 3) := by decide +kernel
theorem dX4_block_104 : decode cX4_block 104 = .ok (.iload_n 1, 1) := by decide +kernel
theorem dX4_block_105 : decode cX4_block 105 = .ok (.iconst 0, 1) := by decide +kernel
theorem dX4_block_106 : decode cX4_block 106 = .ok (.invokevirtual 128, 3) := by decide +kernel
theorem dX4_block_109 : decode cX4_block 109 = .ok (.ireturn, 1) := by decide +kernel
theorem dX4_block_110 : decode cX4_block 110 = .ok (.aload_n 0, 1) := by decide +kernel
theorem dX4_block_111 : decode cX4_block 111 = .ok (.getfield 10, 3) := by decide +kernel
theorem dX4_block_114 : decode cX4_block 114 = .ok (.getfield 57, 3) := by decide +kernel
theorem dX4_block_117 : decode cX4_block 117 = .ok (.iload_n 1, 1) := by decide +kernel
theorem dX4_block_118 : decode cX4_block 118 = .ok (.invokevirtual 122, 3) := by decide +kernel
theorem dX4_block_121 : decode cX4_block 121 = .ok (.sipush 9000, 3) := by decide +kernel
theorem dX4_block_124 : decode cX4_block 124 = .ok (.aload_n 0, 1) := by decide +kernel
theorem dX4_block_125 : decode cX4_block 125 = .ok (.getfield 10, 3) := by decide +kernel
theorem dX4_block_128 : decode cX4_block 128 = .ok (.iload_n 1, 1) := by decide +kernel
theorem dX4_block_129 : decode cX4_block 129 = .ok (.invokevirtual 119, 3) := by decide +kernel
theorem dX4_block_132 : decode cX4_block 132 = .ok (.isub, 1) := by decide +kernel
theorem dX4_block_133 : decode cX4_block 133 = .ok (.imul, 1) := by decide +kernel
theorem dX4_block_134 : decode cX4_block 134 = .ok (.ireturn, 1) := by decide +kernel
theorem dX4_block_135 : decode cX4_block 135 = .ok (.new 132, 3) := by decide +kernel
theorem dX4_block_138 : decode cX4_block 138 = .ok (.dup, 1) := by decide +kernel
theorem dX4_block_139 : decode cX4_block 139 = .ok (.ldc 134, 2) := by decide +kernel
theorem dX4_block_141 : decode cX4_block 141 = .ok (.invokespecial 136, 3) := by decide +kernel
theorem dX4_block_144 : decode cX4_block 144 = .ok (.athrow, 1) := by decide +kernel
theorem dX4_pulley_0 : decode cX4_pulley 0 = .ok (.aload_n 0, 1) := by decide +kernel
theorem dX4_pulley_1 : decode cX4_pulley 1 = .ok (.iload_n 1, 1) := by decide +kernel
theorem dX4_pulley_2 : decode cX4_pulley 2 = .ok (.invokevirtual 137, 3) := by decide +kernel
theorem dX4_pulley_5 : decode cX4_pulley 5 = .ok (.aload_n 0, 1) := by decide +kernel
theorem dX4_pulley_6 : decode cX4_pulley 6 = .ok (.getfield 10, 3) := by decide +kernel
theorem dX4_pulley_9 : decode cX4_pulley 9 = .ok (.getfield 57, 3) := by decide +kernel
theorem dX4_pulley_12 : decode cX4_pulley 12 = .ok (.getfield 140, 3) := by decide +kernel
theorem dX4_pulley_15 : decode cX4_pulley 15 = .ok (.iload_n 1, 1) := by decide +kernel
theorem dX4_pulley_16 : decode cX4_pulley 16 = .ok (.invokestatic 144, 3) := by decide +kernel
theorem dX4_pulley_19 : decode cX4_pulley 19 = .ok (.ireturn, 1) := by decide +kernel
theorem dX4_force_0 : decode cX4_force 0 = .ok (.iload_n 1, 1) := by decide +kernel
theorem dX4_force_1 : decode cX4_force 1 = .ok (.iconst 0, 1) := by decide +kernel
theorem dX4_force_2 : decode cX4_force 2 = .ok (.ldc 110, 2) := by decide +kernel
theorem dX4_force_4 : decode cX4_force 4 = .ok (.invokestatic 42, 3) := by decide +kernel
theorem dX4_force_7 : decode cX4_force 7 = .ok (.iload_n 2, 1) := by decide +kernel
theorem dX4_force_8 : decode cX4_force 8 = .ok (.iconst 0, 1) := by decide +kernel
theorem dX4_force_9 : decode cX4_force 9 = .ok (.aload_n 0, 1) := by decide +kernel
theorem dX4_force_10 : decode cX4_force 10 = .ok (.getfield 10, 3) := by decide +kernel
theorem dX4_force_13 : decode cX4_force 13 = .ok (.getfield 57, 3) := by decide +kernel
theorem dX4_force_16 : decode cX4_force 16 = .ok (.invokevirtual 148, 3) := by decide +kernel
theorem dX4_force_19 : decode cX4_force 19 = .ok (.invokestatic 42, 3) := by decide +kernel
theorem dX4_force_22 : decode cX4_force 22 = .ok (.aload_n 0, 1) := by decide +kernel
theorem dX4_force_23 : decode cX4_force 23 = .ok (.getfield 10, 3) := by decide +kernel
theorem dX4_force_26 : decode cX4_force 26 = .ok (.getfield 57, 3) := by decide +kernel
theorem dX4_force_29 : decode cX4_force 29 = .ok (.iload_n 1, 1) := by decide +kernel
theorem dX4_force_30 : decode cX4_force 30 = .ok (.iload_n 2, 1) := by decide +kernel
theorem dX4_force_31 : decode cX4_force 31 = .ok (.iload_n 3, 1) := by decide +kernel
theorem dX4_force_32 : decode cX4_force 32 = .ok (.invokevirtual 151, 3) := by decide +kernel
theorem dX4_force_35 : decode cX4_force 35 = .ok (.lreturn, 1) := by decide +kernel
theorem dX4_pull_0 : decode cX4_pull 0 = .ok (.iload_n 1, 1) := by decide +kernel
theorem dX4_pull_1 : decode cX4_pull 1 = .ok (.invokestatic 37, 3) := by decide +kernel
theorem dX4_pull_4 : decode cX4_pull 4 = .ok (.iload_n 2, 1) := by decide +kernel
theorem dX4_pull_5 : decode cX4_pull 5 = .ok (.iconst 0, 1) := by decide +kernel
theorem dX4_pull_6 : decode cX4_pull 6 = .ok (.ldc 110, 2) := by decide +kernel
theorem dX4_pull_8 : decode cX4_pull 8 = .ok (.invokestatic 42, 3) := by decide +kernel
theorem dX4_pull_11 : decode cX4_pull 11 = .ok (.aload_n 0, 1) := by decide +kernel
theorem dX4_pull_12 : decode cX4_pull 12 = .ok (.getfield 10, 3) := by decide +kernel
theorem dX4_pull_15 : decode cX4_pull 15 = .ok (.getfield 57, 3) := by decide +kernel
theorem dX4_pull_18 : decode cX4_pull 18 = .ok (.iload_n 1, 1) := by decide +kernel
theorem dX4_pull_19 : decode cX4_pull 19 = .ok (.iload_n 2, 1) := by decide +kernel
theorem dX4_pull_20 : decode cX4_pull 20 = .ok (.iload_n 3, 1) := by decide +kernel
theorem dX4_pull_21 : decode cX4_pull 21 = .ok (.invokevirtual 155, 3) := by decide +kernel
theorem dX4_pull_24 : decode cX4_pull 24 = .ok (.lreturn, 1) := by decide +kernel
theorem dX4_value_0 : decode cX4_value 0 = .ok (.iload_n 1, 1) := by decide +kernel
theorem dX4_value_1 : decode cX4_value 1 = .ok (.tableswitch 156 0 9 #[55, 63, 71, 82, 93, 104, 115, 123, 134, 145], 55) := by decide +kernel
theorem dX4_value_56 : decode cX4_value 56 = .ok (.aload_n 0, 1) := by decide +kernel
theorem dX4_value_57 : decode cX4_value 57 = .ok (.getfield 10, 3) := by decide +kernel
theorem dX4_value_60 : decode cX4_value 60 = .ok (.getfield 71, 3) := by decide +kernel
theorem dX4_value_63 : decode cX4_value 63 = .ok (.ireturn, 1) := by decide +kernel
theorem dX4_value_64 : decode cX4_value 64 = .ok (.aload_n 0, 1) := by decide +kernel
theorem dX4_value_65 : decode cX4_value 65 = .ok (.getfield 10, 3) := by decide +kernel
theorem dX4_value_68 : decode cX4_value 68 = .ok (.invokevirtual 80, 3) := by decide +kernel
theorem dX4_value_71 : decode cX4_value 71 = .ok (.ireturn, 1) := by decide +kernel
theorem dX4_value_72 : decode cX4_value 72 = .ok (.aload_n 0, 1) := by decide +kernel
theorem dX4_value_73 : decode cX4_value 73 = .ok (.getfield 10, 3) := by decide +kernel
theorem dX4_value_76 : decode cX4_value 76 = .ok (.getfield 57, 3) := by decide +kernel
theorem dX4_value_79 : decode cX4_value 79 = .ok (.getfield 61, 3) := by decide +kernel
theorem dX4_value_82 : decode cX4_value 82 = .ok (.ireturn, 1) := by decide +kernel
theorem dX4_value_83 : decode cX4_value 83 = .ok (.aload_n 0, 1) := by decide +kernel
theorem dX4_value_84 : decode cX4_value 84 = .ok (.getfield 10, 3) := by decide +kernel
theorem dX4_value_87 : decode cX4_value 87 = .ok (.getfield 57, 3) := by decide +kernel
theorem dX4_value_90 : decode cX4_value 90 = .ok (.getfield 84, 3) := by decide +kernel
theorem dX4_value_93 : decode cX4_value 93 = .ok (.ireturn, 1) := by decide +kernel
theorem dX4_value_94 : decode cX4_value 94 = .ok (.aload_n 0, 1) := by decide +kernel
theorem dX4_value_95 : decode cX4_value 95 = .ok (.getfield 10, 3) := by decide +kernel
theorem dX4_value_98 : decode cX4_value 98 = .ok (.getfield 57, 3) := by decide +kernel
theorem dX4_value_101 : decode cX4_value 101 = .ok (.getfield 107, 3) := by decide +kernel
theorem dX4_value_104 : decode cX4_value 104 = .ok (.ireturn, 1) := by decide +kernel
theorem dX4_value_105 : decode cX4_value 105 = .ok (.aload_n 0, 1) := by decide +kernel
theorem dX4_value_106 : decode cX4_value 106 = .ok (.getfield 10, 3) := by decide +kernel
theorem dX4_value_109 : decode cX4_value 109 = .ok (.getfield 57, 3) := by decide +kernel
theorem dX4_value_112 : decode cX4_value 112 = .ok (.invokevirtual 148, 3) := by decide +kernel
theorem dX4_value_115 : decode cX4_value 115 = .ok (.ireturn, 1) := by decide +kernel
theorem dX4_value_116 : decode cX4_value 116 = .ok (.aload_n 0, 1) := by decide +kernel
theorem dX4_value_117 : decode cX4_value 117 = .ok (.getfield 10, 3) := by decide +kernel
theorem dX4_value_120 : decode cX4_value 120 = .ok (.invokevirtual 158, 3) := by decide +kernel
theorem dX4_value_123 : decode cX4_value 123 = .ok (.ireturn, 1) := by decide +kernel
theorem dX4_value_124 : decode cX4_value 124 = .ok (.aload_n 0, 1) := by decide +kernel
theorem dX4_value_125 : decode cX4_value 125 = .ok (.getfield 10, 3) := by decide +kernel
theorem dX4_value_128 : decode cX4_value 128 = .ok (.getfield 161, 3) := by decide +kernel
theorem dX4_value_131 : decode cX4_value 131 = .ok (.getfield 165, 3) := by decide +kernel
theorem dX4_value_134 : decode cX4_value 134 = .ok (.ireturn, 1) := by decide +kernel
theorem dX4_value_135 : decode cX4_value 135 = .ok (.aload_n 0, 1) := by decide +kernel
theorem dX4_value_136 : decode cX4_value 136 = .ok (.getfield 10, 3) := by decide +kernel
theorem dX4_value_139 : decode cX4_value 139 = .ok (.getfield 161, 3) := by decide +kernel
theorem dX4_value_142 : decode cX4_value 142 = .ok (.getfield 170, 3) := by decide +kernel
theorem dX4_value_145 : decode cX4_value 145 = .ok (.ireturn, 1) := by decide +kernel
theorem dX4_value_146 : decode cX4_value 146 = .ok (.aload_n 0, 1) := by decide +kernel
theorem dX4_value_147 : decode cX4_value 147 = .ok (.getfield 10, 3) := by decide +kernel
theorem dX4_value_150 : decode cX4_value 150 = .ok (.getfield 161, 3) := by decide +kernel
theorem dX4_value_153 : decode cX4_value 153 = .ok (.getfield 173, 3) := by decide +kernel
theorem dX4_value_156 : decode cX4_value 156 = .ok (.ireturn, 1) := by decide +kernel
theorem dX4_value_157 : decode cX4_value 157 = .ok (.new 132, 3) := by decide +kernel
theorem dX4_value_160 : decode cX4_value 160 = .ok (.dup, 1) := by decide +kernel
theorem dX4_value_161 : decode cX4_value 161 = .ok (.ldc 176, 2) := by decide +kernel
theorem dX4_value_163 : decode cX4_value 163 = .ok (.invokespecial 136, 3) := by decide +kernel
theorem dX4_value_166 : decode cX4_value 166 = .ok (.athrow, 1) := by decide +kernel
theorem dX4_work_0 : decode cX4_work 0 = .ok (.iload_n 1, 1) := by decide +kernel
theorem dX4_work_1 : decode cX4_work 1 = .ok (.ifCond .eq 16, 3) := by decide +kernel
theorem dX4_work_4 : decode cX4_work 4 = .ok (.aload_n 0, 1) := by decide +kernel
theorem dX4_work_5 : decode cX4_work 5 = .ok (.getfield 10, 3) := by decide +kernel
theorem dX4_work_8 : decode cX4_work 8 = .ok (.getfield 161, 3) := by decide +kernel
theorem dX4_work_11 : decode cX4_work 11 = .ok (.getfield 178, 3) := by decide +kernel
theorem dX4_work_14 : decode cX4_work 14 = .ok (.goto 13, 3) := by decide +kernel
theorem dX4_work_17 : decode cX4_work 17 = .ok (.aload_n 0, 1) := by decide +kernel
theorem dX4_work_18 : decode cX4_work 18 = .ok (.getfield 10, 3) := by decide +kernel
theorem dX4_work_21 : decode cX4_work 21 = .ok (.getfield 161, 3) := by decide +kernel
theorem dX4_work_24 : decode cX4_work 24 = .ok (.getfield 182, 3) := by decide +kernel
theorem dX4_work_27 : decode cX4_work 27 = .ok (.lreturn, 1) := by decide +kernel
theorem dX4_entry_0 : decode cX4_entry 0 = .ok (.iload_n 1, 1) := by decide +kernel
theorem dX4_entry_1 : decode cX4_entry 1 = .ok (.ifCond .lt 17, 3) := by decide +kernel
theorem dX4_entry_4 : decode cX4_entry 4 = .ok (.iload_n 1, 1) := by decide +kernel
theorem dX4_entry_5 : decode cX4_entry 5 = .ok (.aload_n 0, 1) := by decide +kernel
theorem dX4_entry_6 : decode cX4_entry 6 = .ok (.getfield 10, 3) := by decide +kernel
theorem dX4_entry_9 : decode cX4_entry 9 = .ok (.getfield 161, 3) := by decide +kernel
theorem dX4_entry_12 : decode cX4_entry 12 = .ok (.getfield 173, 3) := by decide +kernel
theorem dX4_entry_15 : decode cX4_entry 15 = .ok (.if_icmp .lt 13, 3) := by decide +kernel
theorem dX4_entry_18 : decode cX4_entry 18 = .ok (.new 102, 3) := by decide +kernel
theorem dX4_entry_21 : decode cX4_entry 21 = .ok (.dup, 1) := by decide +kernel
theorem dX4_entry_22 : decode cX4_entry 22 = .ok (.ldc 185, 2) := by decide +kernel
theorem dX4_entry_24 : decode cX4_entry 24 = .ok (.invokespecial 106, 3) := by decide +kernel
theorem dX4_entry_27 : decode cX4_entry 27 = .ok (.athrow, 1) := by decide +kernel
theorem dX4_entry_28 : decode cX4_entry 28 = .ok (.iload_n 2, 1) := by decide +kernel
theorem dX4_entry_29 : decode cX4_entry 29 = .ok (.iconst 0, 1) := by decide +kernel
theorem dX4_entry_30 : decode cX4_entry 30 = .ok (.iconst 2, 1) := by decide +kernel
theorem dX4_entry_31 : decode cX4_entry 31 = .ok (.invokestatic 42, 3) := by decide +kernel
theorem dX4_entry_34 : decode cX4_entry 34 = .ok (.aload_n 0, 1) := by decide +kernel
theorem dX4_entry_35 : decode cX4_entry 35 = .ok (.getfield 10, 3) := by decide +kernel
theorem dX4_entry_38 : decode cX4_entry 38 = .ok (.getfield 161, 3) := by decide +kernel
theorem dX4_entry_41 : decode cX4_entry 41 = .ok (.iload_n 1, 1) := by decide +kernel
theorem dX4_entry_42 : decode cX4_entry 42 = .ok (.iload_n 2, 1) := by decide +kernel
theorem dX4_entry_43 : decode cX4_entry 43 = .ok (.invokevirtual 187, 3) := by decide +kernel
theorem dX4_entry_46 : decode cX4_entry 46 = .ok (.ireturn, 1) := by decide +kernel
theorem dX4_first_0 : decode cX4_first 0 = .ok (.aload_n 0, 1) := by decide +kernel
theorem dX4_first_1 : decode cX4_first 1 = .ok (.getfield 10, 3) := by decide +kernel
theorem dX4_first_4 : decode cX4_first 4 = .ok (.iconst 1, 1) := by decide +kernel
theorem dX4_first_5 : decode cX4_first 5 = .ok (.invokevirtual 190, 3) := by decide +kernel
theorem dX4_first_8 : decode cX4_first 8 = .ok (.aload_n 0, 1) := by decide +kernel
theorem dX4_first_9 : decode cX4_first 9 = .ok (.getfield 10, 3) := by decide +kernel
theorem dX4_first_12 : decode cX4_first 12 = .ok (.ldc 110, 2) := by decide +kernel
theorem dX4_first_14 : decode cX4_first 14 = .ok (.invokevirtual 194, 3) := by decide +kernel
theorem dX4_first_17 : decode cX4_first 17 = .ok (.ireturn, 1) := by decide +kernel
theorem dX4_forceForAll_0 : decode cX4_forceForAll 0 = .ok (.iconst 0, 1) := by decide +kernel
theorem dX4_forceForAll_1 : decode cX4_forceForAll 1 = .ok (.istore_n 1, 1) := by decide +kernel
theorem dX4_forceForAll_2 : decode cX4_forceForAll 2 = .ok (.iconst 0, 1) := by decide +kernel
theorem dX4_forceForAll_3 : decode cX4_forceForAll 3 = .ok (.istore_n 2, 1) := by decide +kernel
theorem dX4_forceForAll_4 : decode cX4_forceForAll 4 = .ok (.iload_n 2, 1) := by decide +kernel
theorem dX4_forceForAll_5 : decode cX4_forceForAll 5 = .ok (.iconst 4, 1) := by decide +kernel
theorem dX4_forceForAll_6 : decode cX4_forceForAll 6 = .ok (.if_icmp .ge 60, 3) := by decide +kernel
theorem dX4_forceForAll_9 : decode cX4_forceForAll 9 = .ok (.aload_n 0, 1) := by decide +kernel
theorem dX4_forceForAll_10 : decode cX4_forceForAll 10 = .ok (.getfield 10, 3) := by decide +kernel
theorem dX4_forceForAll_13 : decode cX4_forceForAll 13 = .ok (.getfield 57, 3) := by decide +kernel
theorem dX4_forceForAll_16 : decode cX4_forceForAll 16 = .ok (.iload_n 2, 1) := by decide +kernel
theorem dX4_forceForAll_17 : decode cX4_forceForAll 17 = .ok (.invokevirtual 122, 3) := by decide +kernel
theorem dX4_forceForAll_20 : decode cX4_forceForAll 20 = .ok (.ifCond .le 40, 3) := by decide +kernel
theorem dX4_forceForAll_23 : decode cX4_forceForAll 23 = .ok (.aload_n 0, 1) := by decide +kernel
theorem dX4_forceForAll_24 : decode cX4_forceForAll 24 = .ok (.getfield 10, 3) := by decide +kernel
theorem dX4_forceForAll_27 : decode cX4_forceForAll 27 = .ok (.iload_n 2, 1) := by decide +kernel
theorem dX4_forceForAll_28 : decode cX4_forceForAll 28 = .ok (.invokevirtual 119, 3) := by decide +kernel
theorem dX4_forceForAll_31 : decode cX4_forceForAll 31 = .ok (.sipush 9000, 3) := by decide +kernel
theorem dX4_forceForAll_34 : decode cX4_forceForAll 34 = .ok (.if_icmp .ge 26, 3) := by decide +kernel
theorem dX4_forceForAll_37 : decode cX4_forceForAll 37 = .ok (.aload_n 0, 1) := by decide +kernel
theorem dX4_forceForAll_38 : decode cX4_forceForAll 38 = .ok (.getfield 10, 3) := by decide +kernel
theorem dX4_forceForAll_41 : decode cX4_forceForAll 41 = .ok (.iload_n 2, 1) := by decide +kernel
theorem dX4_forceForAll_42 : decode cX4_forceForAll 42 = .ok (.iconst 1, 1) := by decide +kernel
theorem dX4_forceForAll_43 : decode cX4_forceForAll 43 = .ok (.invokevirtual 128, 3) := by decide +kernel
theorem dX4_forceForAll_46 : decode cX4_forceForAll 46 = .ok (.istore_n 3, 1) := by decide +kernel
theorem dX4_forceForAll_47 : decode cX4_forceForAll 47 = .ok (.iload_n 3, 1) := by decide +kernel
theorem dX4_forceForAll_48 : decode cX4_forceForAll 48 = .ok (.iconst (-1), 1) := by decide +kernel
theorem dX4_forceForAll_49 : decode cX4_forceForAll 49 = .ok (.if_icmp .ne 5, 3) := by decide +kernel
theorem dX4_forceForAll_52 : decode cX4_forceForAll 52 = .ok (.iconst (-1), 1) := by decide +kernel
theorem dX4_forceForAll_53 : decode cX4_forceForAll 53 = .ok (.ireturn, 1) := by decide +kernel
theorem dX4_forceForAll_54 : decode cX4_forceForAll 54 = .ok (.iload_n 1, 1) := by decide +kernel
theorem dX4_forceForAll_55 : decode cX4_forceForAll 55 = .ok (.iload_n 3, 1) := by decide +kernel
theorem dX4_forceForAll_56 : decode cX4_forceForAll 56 = .ok (.invokestatic 197, 3) := by decide +kernel
theorem dX4_forceForAll_59 : decode cX4_forceForAll 59 = .ok (.istore_n 1, 1) := by decide +kernel
theorem dX4_forceForAll_60 : decode cX4_forceForAll 60 = .ok (.iinc 2 1, 3) := by decide +kernel
theorem dX4_forceForAll_63 : decode cX4_forceForAll 63 = .ok (.goto (-59), 3) := by decide +kernel
theorem dX4_forceForAll_66 : decode cX4_forceForAll 66 = .ok (.iload_n 1, 1) := by decide +kernel
theorem dX4_forceForAll_67 : decode cX4_forceForAll 67 = .ok (.ireturn, 1) := by decide +kernel
theorem dX4_pulleysFor_0 : decode cX4_pulleysFor 0 = .ok (.iload_n 1, 1) := by decide +kernel
theorem dX4_pulleysFor_1 : decode cX4_pulleysFor 1 = .ok (.invokestatic 37, 3) := by decide +kernel
theorem dX4_pulleysFor_4 : decode cX4_pulleysFor 4 = .ok (.iload_n 2, 1) := by decide +kernel
theorem dX4_pulleysFor_5 : decode cX4_pulleysFor 5 = .ok (.iconst 0, 1) := by decide +kernel
theorem dX4_pulleysFor_6 : decode cX4_pulleysFor 6 = .ok (.ldc 110, 2) := by decide +kernel
theorem dX4_pulleysFor_8 : decode cX4_pulleysFor 8 = .ok (.invokestatic 42, 3) := by decide +kernel
theorem dX4_pulleysFor_11 : decode cX4_pulleysFor 11 = .ok (.aload_n 0, 1) := by decide +kernel
theorem dX4_pulleysFor_12 : decode cX4_pulleysFor 12 = .ok (.getfield 16, 3) := by decide +kernel
theorem dX4_pulleysFor_15 : decode cX4_pulleysFor 15 = .ok (.aload_n 0, 1) := by decide +kernel
theorem dX4_pulleysFor_16 : decode cX4_pulleysFor 16 = .ok (.getfield 10, 3) := by decide +kernel
theorem dX4_pulleysFor_19 : decode cX4_pulleysFor 19 = .ok (.invokevirtual 67, 3) := by decide +kernel
theorem dX4_pulleysFor_22 : decode cX4_pulleysFor 22 = .ok (.aload_n 0, 1) := by decide +kernel
theorem dX4_pulleysFor_23 : decode cX4_pulleysFor 23 = .ok (.getfield 16, 3) := by decide +kernel
theorem dX4_pulleysFor_26 : decode cX4_pulleysFor 26 = .ok (.getfield 57, 3) := by decide +kernel
theorem dX4_pulleysFor_29 : decode cX4_pulleysFor 29 = .ok (.invokevirtual 202, 3) := by decide +kernel
theorem dX4_pulleysFor_32 : decode cX4_pulleysFor 32 = .ok (.iconst 1, 1) := by decide +kernel
theorem dX4_pulleysFor_33 : decode cX4_pulleysFor 33 = .ok (.istore_n 3, 1) := by decide +kernel
theorem dX4_pulleysFor_34 : decode cX4_pulleysFor 34 = .ok (.iload_n 3, 1) := by decide +kernel
theorem dX4_pulleysFor_35 : decode cX4_pulleysFor 35 = .ok (.bipush 10, 2) := by decide +kernel
theorem dX4_pulleysFor_37 : decode cX4_pulleysFor 37 = .ok (.if_icmp .gt 48, 3) := by decide +kernel
theorem dX4_pulleysFor_40 : decode cX4_pulleysFor 40 = .ok (.aload_n 0, 1) := by decide +kernel
theorem dX4_pulleysFor_41 : decode cX4_pulleysFor 41 = .ok (.getfield 16, 3) := by decide +kernel
theorem dX4_pulleysFor_44 : decode cX4_pulleysFor 44 = .ok (.getfield 57, 3) := by decide +kernel
theorem dX4_pulleysFor_47 : decode cX4_pulleysFor 47 = .ok (.iload_n 1, 1) := by decide +kernel
theorem dX4_pulleysFor_48 : decode cX4_pulleysFor 48 = .ok (.invokevirtual 94, 3) := by decide +kernel
theorem dX4_pulleysFor_51 : decode cX4_pulleysFor 51 = .ok (.aload_n 0, 1) := by decide +kernel
theorem dX4_pulleysFor_52 : decode cX4_pulleysFor 52 = .ok (.getfield 16, 3) := by decide +kernel
theorem dX4_pulleysFor_55 : decode cX4_pulleysFor 55 = .ok (.getfield 57, 3) := by decide +kernel
theorem dX4_pulleysFor_58 : decode cX4_pulleysFor 58 = .ok (.iload_n 1, 1) := by decide +kernel
theorem dX4_pulleysFor_59 : decode cX4_pulleysFor 59 = .ok (.iload_n 2, 1) := by decide +kernel
theorem dX4_pulleysFor_60 : decode cX4_pulleysFor 60 = .ok (.iconst 1, 1) := by decide +kernel
theorem dX4_pulleysFor_61 : decode cX4_pulleysFor 61 = .ok (.invokevirtual 155, 3) := by decide +kernel
theorem dX4_pulleysFor_64 : decode cX4_pulleysFor 64 = .ok (.aload_n 0, 1) := by decide +kernel
theorem dX4_pulleysFor_65 : decode cX4_pulleysFor 65 = .ok (.getfield 16, 3) := by decide +kernel
theorem dX4_pulleysFor_68 : decode cX4_pulleysFor 68 = .ok (.iload_n 1, 1) := by decide +kernel
theorem dX4_pulleysFor_69 : decode cX4_pulleysFor 69 = .ok (.invokevirtual 49, 3) := by decide +kernel
theorem dX4_pulleysFor_72 : decode cX4_pulleysFor 72 = .ok (.i2l, 1) := by decide +kernel
theorem dX4_pulleysFor_73 : decode cX4_pulleysFor 73 = .ok (.lcmp, 1) := by decide +kernel
theorem dX4_pulleysFor_74 : decode cX4_pulleysFor 74 = .ok (.ifCond .lt 5, 3) := by decide +kernel
theorem dX4_pulleysFor_77 : decode cX4_pulleysFor 77 = .ok (.iload_n 3, 1) := by decide +kernel
theorem dX4_pulleysFor_78 : decode cX4_pulleysFor 78 = .ok (.ireturn, 1) := by decide +kernel
theorem dX4_pulleysFor_79 : decode cX4_pulleysFor 79 = .ok (.iinc 3 1, 3) := by decide +kernel
theorem dX4_pulleysFor_82 : decode cX4_pulleysFor 82 = .ok (.goto (-48), 3) := by decide +kernel
theorem dX4_pulleysFor_85 : decode cX4_pulleysFor 85 = .ok (.iconst (-1), 1) := by decide +kernel
theorem dX4_pulleysFor_86 : decode cX4_pulleysFor 86 = .ok (.ireturn, 1) := by decide +kernel
theorem dX4_bestEnd_0 : decode cX4_bestEnd 0 = .ok (.iload_n 1, 1) := by decide +kernel
theorem dX4_bestEnd_1 : decode cX4_bestEnd 1 = .ok (.invokestatic 37, 3) := by decide +kernel
theorem dX4_bestEnd_4 : decode cX4_bestEnd 4 = .ok (.aload_n 0, 1) := by decide +kernel
theorem dX4_bestEnd_5 : decode cX4_bestEnd 5 = .ok (.getfield 16, 3) := by decide +kernel
theorem dX4_bestEnd_8 : decode cX4_bestEnd 8 = .ok (.aload_n 0, 1) := by decide +kernel
theorem dX4_bestEnd_9 : decode cX4_bestEnd 9 = .ok (.getfield 10, 3) := by decide +kernel
theorem dX4_bestEnd_12 : decode cX4_bestEnd 12 = .ok (.invokevirtual 67, 3) := by decide +kernel
theorem dX4_bestEnd_15 : decode cX4_bestEnd 15 = .ok (.iconst (-1), 1) := by decide +kernel
theorem dX4_bestEnd_16 : decode cX4_bestEnd 16 = .ok (.istore_n 2, 1) := by decide +kernel
theorem dX4_bestEnd_17 : decode cX4_bestEnd 17 = .ok (.iconst (-1), 1) := by decide +kernel
theorem dX4_bestEnd_18 : decode cX4_bestEnd 18 = .ok (.istore_n 3, 1) := by decide +kernel
theorem dX4_bestEnd_19 : decode cX4_bestEnd 19 = .ok (.iconst 0, 1) := by decide +kernel
theorem dX4_bestEnd_20 : decode cX4_bestEnd 20 = .ok (.istore 4, 2) := by decide +kernel
theorem dX4_bestEnd_22 : decode cX4_bestEnd 22 = .ok (.iload 4, 2) := by decide +kernel
theorem dX4_bestEnd_24 : decode cX4_bestEnd 24 = .ok (.iconst 4, 1) := by decide +kernel
theorem dX4_bestEnd_25 : decode cX4_bestEnd 25 = .ok (.if_icmp .gt 55, 3) := by decide +kernel
theorem dX4_bestEnd_28 : decode cX4_bestEnd 28 = .ok (.aload_n 0, 1) := by decide +kernel
theorem dX4_bestEnd_29 : decode cX4_bestEnd 29 = .ok (.getfield 16, 3) := by decide +kernel
theorem dX4_bestEnd_32 : decode cX4_bestEnd 32 = .ok (.getfield 57, 3) := by decide +kernel
theorem dX4_bestEnd_35 : decode cX4_bestEnd 35 = .ok (.iload 4, 2) := by decide +kernel
theorem dX4_bestEnd_37 : decode cX4_bestEnd 37 = .ok (.putfield 107, 3) := by decide +kernel
theorem dX4_bestEnd_40 : decode cX4_bestEnd 40 = .ok (.aload_n 0, 1) := by decide +kernel
theorem dX4_bestEnd_41 : decode cX4_bestEnd 41 = .ok (.getfield 16, 3) := by decide +kernel
theorem dX4_bestEnd_44 : decode cX4_bestEnd 44 = .ok (.iload_n 1, 1) := by decide +kernel
theorem dX4_bestEnd_45 : decode cX4_bestEnd 45 = .ok (.iconst 1, 1) := by decide +kernel
theorem dX4_bestEnd_46 : decode cX4_bestEnd 46 = .ok (.invokevirtual 128, 3) := by decide +kernel
theorem dX4_bestEnd_49 : decode cX4_bestEnd 49 = .ok (.istore 5, 2) := by decide +kernel
theorem dX4_bestEnd_51 : decode cX4_bestEnd 51 = .ok (.iload 5, 2) := by decide +kernel
theorem dX4_bestEnd_53 : decode cX4_bestEnd 53 = .ok (.iconst (-1), 1) := by decide +kernel
theorem dX4_bestEnd_54 : decode cX4_bestEnd 54 = .ok (.if_icmp .eq 20, 3) := by decide +kernel
theorem dX4_bestEnd_57 : decode cX4_bestEnd 57 = .ok (.iload_n 2, 1) := by decide +kernel
theorem dX4_bestEnd_58 : decode cX4_bestEnd 58 = .ok (.iconst (-1), 1) := by decide +kernel
theorem dX4_bestEnd_59 : decode cX4_bestEnd 59 = .ok (.if_icmp .eq 9, 3) := by decide +kernel
theorem dX4_bestEnd_62 : decode cX4_bestEnd 62 = .ok (.iload 5, 2) := by decide +kernel
theorem dX4_bestEnd_64 : decode cX4_bestEnd 64 = .ok (.iload_n 3, 1) := by decide +kernel
theorem dX4_bestEnd_65 : decode cX4_bestEnd 65 = .ok (.if_icmp .ge 9, 3) := by decide +kernel
theorem dX4_bestEnd_68 : decode cX4_bestEnd 68 = .ok (.iload 4, 2) := by decide +kernel
theorem dX4_bestEnd_70 : decode cX4_bestEnd 70 = .ok (.istore_n 2, 1) := by decide +kernel
theorem dX4_bestEnd_71 : decode cX4_bestEnd 71 = .ok (.iload 5, 2) := by decide +kernel
theorem dX4_bestEnd_73 : decode cX4_bestEnd 73 = .ok (.istore_n 3, 1) := by decide +kernel
theorem dX4_bestEnd_74 : decode cX4_bestEnd 74 = .ok (.iinc 4 1, 3) := by decide +kernel
theorem dX4_bestEnd_77 : decode cX4_bestEnd 77 = .ok (.goto (-55), 3) := by decide +kernel
theorem dX4_bestEnd_80 : decode cX4_bestEnd 80 = .ok (.iload_n 2, 1) := by decide +kernel
theorem dX4_bestEnd_81 : decode cX4_bestEnd 81 = .ok (.ireturn, 1) := by decide +kernel
theorem dX4_swapped_0 : decode cX4_swapped 0 = .ok (.iload_n 1, 1) := by decide +kernel
theorem dX4_swapped_1 : decode cX4_swapped 1 = .ok (.invokestatic 37, 3) := by decide +kernel
theorem dX4_swapped_4 : decode cX4_swapped 4 = .ok (.aload_n 0, 1) := by decide +kernel
theorem dX4_swapped_5 : decode cX4_swapped 5 = .ok (.iload_n 2, 1) := by decide +kernel
theorem dX4_swapped_6 : decode cX4_swapped 6 = .ok (.invokevirtual 137, 3) := by decide +kernel
theorem dX4_swapped_9 : decode cX4_swapped 9 = .ok (.aload_n 0, 1) := by decide +kernel
theorem dX4_swapped_10 : decode cX4_swapped 10 = .ok (.iload_n 3, 1) := by decide +kernel
theorem dX4_swapped_11 : decode cX4_swapped 11 = .ok (.invokevirtual 137, 3) := by decide +kernel
theorem dX4_swapped_14 : decode cX4_swapped 14 = .ok (.aload_n 0, 1) := by decide +kernel
theorem dX4_swapped_15 : decode cX4_swapped 15 = .ok (.getfield 16, 3) := by decide +kernel
theorem dX4_swapped_18 : decode cX4_swapped 18 = .ok (.aload_n 0, 1) := by decide +kernel
theorem dX4_swapped_19 : decode cX4_swapped 19 = .ok (.getfield 10, 3) := by decide +kernel
theorem dX4_swapped_22 : decode cX4_swapped 22 = .ok (.invokevirtual 67, 3) := by decide +kernel
theorem dX4_swapped_25 : decode cX4_swapped 25 = .ok (.aload_n 0, 1) := by decide +kernel
theorem dX4_swapped_26 : decode cX4_swapped 26 = .ok (.getfield 16, 3) := by decide +kernel
theorem dX4_swapped_29 : decode cX4_swapped 29 = .ok (.getfield 57, 3) := by decide +kernel
theorem dX4_swapped_32 : decode cX4_swapped 32 = .ok (.iload_n 2, 1) := by decide +kernel
theorem dX4_swapped_33 : decode cX4_swapped 33 = .ok (.iload_n 3, 1) := by decide +kernel
theorem dX4_swapped_34 : decode cX4_swapped 34 = .ok (.invokevirtual 205, 3) := by decide +kernel
theorem dX4_swapped_37 : decode cX4_swapped 37 = .ok (.aload_n 0, 1) := by decide +kernel
theorem dX4_swapped_38 : decode cX4_swapped 38 = .ok (.getfield 16, 3) := by decide +kernel
theorem dX4_swapped_41 : decode cX4_swapped 41 = .ok (.iload_n 1, 1) := by decide +kernel
theorem dX4_swapped_42 : decode cX4_swapped 42 = .ok (.iconst 1, 1) := by decide +kernel
theorem dX4_swapped_43 : decode cX4_swapped 43 = .ok (.invokevirtual 128, 3) := by decide +kernel
theorem dX4_swapped_46 : decode cX4_swapped 46 = .ok (.ireturn, 1) := by decide +kernel
theorem dX4_riseBy_0 : decode cX4_riseBy 0 = .ok (.iload_n 1, 1) := by decide +kernel
theorem dX4_riseBy_1 : decode cX4_riseBy 1 = .ok (.invokestatic 37, 3) := by decide +kernel
theorem dX4_riseBy_4 : decode cX4_riseBy 4 = .ok (.iload_n 2, 1) := by decide +kernel
theorem dX4_riseBy_5 : decode cX4_riseBy 5 = .ok (.iconst 0, 1) := by decide +kernel
theorem dX4_riseBy_6 : decode cX4_riseBy 6 = .ok (.ldc 110, 2) := by decide +kernel
theorem dX4_riseBy_8 : decode cX4_riseBy 8 = .ok (.invokestatic 42, 3) := by decide +kernel
theorem dX4_riseBy_11 : decode cX4_riseBy 11 = .ok (.iload_n 3, 1) := by decide +kernel
theorem dX4_riseBy_12 : decode cX4_riseBy 12 = .ok (.iconst 0, 1) := by decide +kernel
theorem dX4_riseBy_13 : decode cX4_riseBy 13 = .ok (.ldc 111, 2) := by decide +kernel
theorem dX4_riseBy_15 : decode cX4_riseBy 15 = .ok (.invokestatic 42, 3) := by decide +kernel
theorem dX4_riseBy_18 : decode cX4_riseBy 18 = .ok (.aload_n 0, 1) := by decide +kernel
theorem dX4_riseBy_19 : decode cX4_riseBy 19 = .ok (.getfield 16, 3) := by decide +kernel
theorem dX4_riseBy_22 : decode cX4_riseBy 22 = .ok (.aload_n 0, 1) := by decide +kernel
theorem dX4_riseBy_23 : decode cX4_riseBy 23 = .ok (.getfield 10, 3) := by decide +kernel
theorem dX4_riseBy_26 : decode cX4_riseBy 26 = .ok (.invokevirtual 67, 3) := by decide +kernel
theorem dX4_riseBy_29 : decode cX4_riseBy 29 = .ok (.aload_n 0, 1) := by decide +kernel
theorem dX4_riseBy_30 : decode cX4_riseBy 30 = .ok (.getfield 16, 3) := by decide +kernel
theorem dX4_riseBy_33 : decode cX4_riseBy 33 = .ok (.iload_n 2, 1) := by decide +kernel
theorem dX4_riseBy_34 : decode cX4_riseBy 34 = .ok (.iload_n 3, 1) := by decide +kernel
theorem dX4_riseBy_35 : decode cX4_riseBy 35 = .ok (.invokevirtual 112, 3) := by decide +kernel
theorem dX4_riseBy_38 : decode cX4_riseBy 38 = .ok (.pop, 1) := by decide +kernel
theorem dX4_riseBy_39 : decode cX4_riseBy 39 = .ok (.aload_n 0, 1) := by decide +kernel
theorem dX4_riseBy_40 : decode cX4_riseBy 40 = .ok (.getfield 16, 3) := by decide +kernel
theorem dX4_riseBy_43 : decode cX4_riseBy 43 = .ok (.iload_n 1, 1) := by decide +kernel
theorem dX4_riseBy_44 : decode cX4_riseBy 44 = .ok (.invokevirtual 119, 3) := by decide +kernel
theorem dX4_riseBy_47 : decode cX4_riseBy 47 = .ok (.aload_n 0, 1) := by decide +kernel
theorem dX4_riseBy_48 : decode cX4_riseBy 48 = .ok (.getfield 10, 3) := by decide +kernel
theorem dX4_riseBy_51 : decode cX4_riseBy 51 = .ok (.iload_n 1, 1) := by decide +kernel
theorem dX4_riseBy_52 : decode cX4_riseBy 52 = .ok (.invokevirtual 119, 3) := by decide +kernel
theorem dX4_riseBy_55 : decode cX4_riseBy 55 = .ok (.isub, 1) := by decide +kernel
theorem dX4_riseBy_56 : decode cX4_riseBy 56 = .ok (.ireturn, 1) := by decide +kernel
theorem dX4_efficiency_0 : decode cX4_efficiency 0 = .ok (.aload_n 0, 1) := by decide +kernel
theorem dX4_efficiency_1 : decode cX4_efficiency 1 = .ok (.getfield 10, 3) := by decide +kernel
theorem dX4_efficiency_4 : decode cX4_efficiency 4 = .ok (.getfield 161, 3) := by decide +kernel
theorem dX4_efficiency_7 : decode cX4_efficiency 7 = .ok (.getfield 182, 3) := by decide +kernel
theorem dX4_efficiency_10 : decode cX4_efficiency 10 = .ok (.l2d, 1) := by decide +kernel
theorem dX4_efficiency_11 : decode cX4_efficiency 11 = .ok (.dstore_n 1, 1) := by decide +kernel
theorem dX4_efficiency_12 : decode cX4_efficiency 12 = .ok (.dload_n 1, 1) := by decide +kernel
theorem dX4_efficiency_13 : decode cX4_efficiency 13 = .ok (.dconst 0, 1) := by decide +kernel
theorem dX4_efficiency_14 : decode cX4_efficiency 14 = .ok (.dcmp .l, 1) := by decide +kernel
theorem dX4_efficiency_15 : decode cX4_efficiency 15 = .ok (.ifCond .le 19, 3) := by decide +kernel
theorem dX4_efficiency_18 : decode cX4_efficiency 18 = .ok (.aload_n 0, 1) := by decide +kernel
theorem dX4_efficiency_19 : decode cX4_efficiency 19 = .ok (.getfield 10, 3) := by decide +kernel
theorem dX4_efficiency_22 : decode cX4_efficiency 22 = .ok (.getfield 161, 3) := by decide +kernel
theorem dX4_efficiency_25 : decode cX4_efficiency 25 = .ok (.getfield 178, 3) := by decide +kernel
theorem dX4_efficiency_28 : decode cX4_efficiency 28 = .ok (.l2d, 1) := by decide +kernel
theorem dX4_efficiency_29 : decode cX4_efficiency 29 = .ok (.dload_n 1, 1) := by decide +kernel
theorem dX4_efficiency_30 : decode cX4_efficiency 30 = .ok (.ddiv, 1) := by decide +kernel
theorem dX4_efficiency_31 : decode cX4_efficiency 31 = .ok (.goto 4, 3) := by decide +kernel
theorem dX4_efficiency_34 : decode cX4_efficiency 34 = .ok (.dconst 0, 1) := by decide +kernel
theorem dX4_efficiency_35 : decode cX4_efficiency 35 = .ok (.dreturn, 1) := by decide +kernel
theorem dX4_append_0 : decode cX4_append 0 = .ok (.iload_n 1, 1) := by decide +kernel
theorem dX4_append_1 : decode cX4_append 1 = .ok (.iconst 0, 1) := by decide +kernel
theorem dX4_append_2 : decode cX4_append 2 = .ok (.bipush 127, 2) := by decide +kernel
theorem dX4_append_4 : decode cX4_append 4 = .ok (.invokestatic 42, 3) := by decide +kernel
theorem dX4_append_7 : decode cX4_append 7 = .ok (.aload_n 0, 1) := by decide +kernel
theorem dX4_append_8 : decode cX4_append 8 = .ok (.getfield 33, 3) := by decide +kernel
theorem dX4_append_11 : decode cX4_append 11 = .ok (.getfield 208, 3) := by decide +kernel
theorem dX4_append_14 : decode cX4_append 14 = .ok (.bipush 60, 2) := by decide +kernel
theorem dX4_append_16 : decode cX4_append 16 = .ok (.if_icmp .lt 13, 3) := by decide +kernel
theorem dX4_append_19 : decode cX4_append 19 = .ok (.new 87, 3) := by decide +kernel
theorem dX4_append_22 : decode cX4_append 22 = .ok (.dup, 1) := by decide +kernel
theorem dX4_append_23 : decode cX4_append 23 = .ok (.ldc 211, 2) := by decide +kernel
theorem dX4_append_25 : decode cX4_append 25 = .ok (.invokespecial 91, 3) := by decide +kernel
theorem dX4_append_28 : decode cX4_append 28 = .ok (.athrow, 1) := by decide +kernel
theorem dX4_append_29 : decode cX4_append 29 = .ok (.aload_n 0, 1) := by decide +kernel
theorem dX4_append_30 : decode cX4_append 30 = .ok (.getfield 33, 3) := by decide +kernel
theorem dX4_append_33 : decode cX4_append 33 = .ok (.getfield 213, 3) := by decide +kernel
theorem dX4_append_36 : decode cX4_append 36 = .ok (.aload_n 0, 1) := by decide +kernel
theorem dX4_append_37 : decode cX4_append 37 = .ok (.getfield 33, 3) := by decide +kernel
theorem dX4_append_40 : decode cX4_append 40 = .ok (.getfield 208, 3) := by decide +kernel
theorem dX4_append_43 : decode cX4_append 43 = .ok (.iload_n 1, 1) := by decide +kernel
theorem dX4_append_44 : decode cX4_append 44 = .ok (.invokestatic 216, 3) := by decide +kernel
theorem dX4_append_47 : decode cX4_append 47 = .ok (.aload_n 0, 1) := by decide +kernel
theorem dX4_append_48 : decode cX4_append 48 = .ok (.getfield 33, 3) := by decide +kernel
theorem dX4_append_51 : decode cX4_append 51 = .ok (.dup, 1) := by decide +kernel
theorem dX4_append_52 : decode cX4_append 52 = .ok (.getfield 208, 3) := by decide +kernel
theorem dX4_append_55 : decode cX4_append 55 = .ok (.iconst 1, 1) := by decide +kernel
theorem dX4_append_56 : decode cX4_append 56 = .ok (.iadd, 1) := by decide +kernel
theorem dX4_append_57 : decode cX4_append 57 = .ok (.putfield 208, 3) := by decide +kernel
theorem dX4_append_60 : decode cX4_append 60 = .ok (.aload_n 0, 1) := by decide +kernel
theorem dX4_append_61 : decode cX4_append 61 = .ok (.getfield 33, 3) := by decide +kernel
theorem dX4_append_64 : decode cX4_append 64 = .ok (.getfield 208, 3) := by decide +kernel
theorem dX4_append_67 : decode cX4_append 67 = .ok (.ireturn, 1) := by decide +kernel
theorem dX4_clearText_0 : decode cX4_clearText 0 = .ok (.aload_n 0, 1) := by decide +kernel
theorem dX4_clearText_1 : decode cX4_clearText 1 = .ok (.getfield 33, 3) := by decide +kernel
theorem dX4_clearText_4 : decode cX4_clearText 4 = .ok (.getfield 208, 3) := by decide +kernel
theorem dX4_clearText_7 : decode cX4_clearText 7 = .ok (.istore_n 1, 1) := by decide +kernel
theorem dX4_clearText_8 : decode cX4_clearText 8 = .ok (.aload_n 0, 1) := by decide +kernel
theorem dX4_clearText_9 : decode cX4_clearText 9 = .ok (.getfield 33, 3) := by decide +kernel
theorem dX4_clearText_12 : decode cX4_clearText 12 = .ok (.iconst 0, 1) := by decide +kernel
theorem dX4_clearText_13 : decode cX4_clearText 13 = .ok (.putfield 208, 3) := by decide +kernel
theorem dX4_clearText_16 : decode cX4_clearText 16 = .ok (.iload_n 1, 1) := by decide +kernel
theorem dX4_clearText_17 : decode cX4_clearText 17 = .ok (.ireturn, 1) := by decide +kernel
theorem dX4_parse_0 : decode cX4_parse 0 = .ok (.aload_n 0, 1) := by decide +kernel
theorem dX4_parse_1 : decode cX4_parse 1 = .ok (.getfield 16, 3) := by decide +kernel
theorem dX4_parse_4 : decode cX4_parse 4 = .ok (.aload_n 0, 1) := by decide +kernel
theorem dX4_parse_5 : decode cX4_parse 5 = .ok (.getfield 10, 3) := by decide +kernel
theorem dX4_parse_8 : decode cX4_parse 8 = .ok (.invokevirtual 67, 3) := by decide +kernel
theorem dX4_parse_11 : decode cX4_parse 11 = .ok (.aload_n 0, 1) := by decide +kernel
theorem dX4_parse_12 : decode cX4_parse 12 = .ok (.getfield 33, 3) := by decide +kernel
theorem dX4_parse_15 : decode cX4_parse 15 = .ok (.aload_n 0, 1) := by decide +kernel
theorem dX4_parse_16 : decode cX4_parse 16 = .ok (.getfield 16, 3) := by decide +kernel
theorem dX4_parse_19 : decode cX4_parse 19 = .ok (.invokevirtual 220, 3) := by decide +kernel
theorem dX4_parse_22 : decode cX4_parse 22 = .ok (.istore_n 1, 1) := by decide +kernel
theorem dX4_parse_23 : decode cX4_parse 23 = .ok (.iload_n 1, 1) := by decide +kernel
theorem dX4_parse_24 : decode cX4_parse 24 = .ok (.iconst (-1), 1) := by decide +kernel
theorem dX4_parse_25 : decode cX4_parse 25 = .ok (.if_icmp .eq 8, 3) := by decide +kernel
theorem dX4_parse_28 : decode cX4_parse 28 = .ok (.bipush (-10), 2) := by decide +kernel
theorem dX4_parse_30 : decode cX4_parse 30 = .ok (.iload_n 1, 1) := by decide +kernel
theorem dX4_parse_31 : decode cX4_parse 31 = .ok (.isub, 1) := by decide +kernel
theorem dX4_parse_32 : decode cX4_parse 32 = .ok (.ireturn, 1) := by decide +kernel
theorem dX4_parse_33 : decode cX4_parse 33 = .ok (.aload_n 0, 1) := by decide +kernel
theorem dX4_parse_34 : decode cX4_parse 34 = .ok (.getfield 16, 3) := by decide +kernel
theorem dX4_parse_37 : decode cX4_parse 37 = .ok (.invokevirtual 80, 3) := by decide +kernel
theorem dX4_parse_40 : decode cX4_parse 40 = .ok (.ifCond .ge 5, 3) := by decide +kernel
theorem dX4_parse_43 : decode cX4_parse 43 = .ok (.iconst (-1), 1) := by decide +kernel
theorem dX4_parse_44 : decode cX4_parse 44 = .ok (.ireturn, 1) := by decide +kernel
theorem dX4_parse_45 : decode cX4_parse 45 = .ok (.aload_n 0, 1) := by decide +kernel
theorem dX4_parse_46 : decode cX4_parse 46 = .ok (.invokevirtual 77, 3) := by decide +kernel
theorem dX4_parse_49 : decode cX4_parse 49 = .ok (.aload_n 0, 1) := by decide +kernel
theorem dX4_parse_50 : decode cX4_parse 50 = .ok (.getfield 10, 3) := by decide +kernel
theorem dX4_parse_53 : decode cX4_parse 53 = .ok (.invokevirtual 80, 3) := by decide +kernel
theorem dX4_parse_56 : decode cX4_parse 56 = .ok (.ireturn, 1) := by decide +kernel
theorem dX4_undo_0 : decode cX4_undo 0 = .ok (.aload_n 0, 1) := by decide +kernel
theorem dX4_undo_1 : decode cX4_undo 1 = .ok (.getfield 23, 3) := by decide +kernel
theorem dX4_undo_4 : decode cX4_undo 4 = .ok (.ifCond .gt 13, 3) := by decide +kernel
theorem dX4_undo_7 : decode cX4_undo 7 = .ok (.new 87, 3) := by decide +kernel
theorem dX4_undo_10 : decode cX4_undo 10 = .ok (.dup, 1) := by decide +kernel
theorem dX4_undo_11 : decode cX4_undo 11 = .ok (.ldc 224, 2) := by decide +kernel
theorem dX4_undo_13 : decode cX4_undo 13 = .ok (.invokespecial 91, 3) := by decide +kernel
theorem dX4_undo_16 : decode cX4_undo 16 = .ok (.athrow, 1) := by decide +kernel
theorem dX4_undo_17 : decode cX4_undo 17 = .ok (.aload_n 0, 1) := by decide +kernel
theorem dX4_undo_18 : decode cX4_undo 18 = .ok (.aload_n 0, 1) := by decide +kernel
theorem dX4_undo_19 : decode cX4_undo 19 = .ok (.getfield 27, 3) := by decide +kernel
theorem dX4_undo_22 : decode cX4_undo 22 = .ok (.iconst 1, 1) := by decide +kernel
theorem dX4_undo_23 : decode cX4_undo 23 = .ok (.isub, 1) := by decide +kernel
theorem dX4_undo_24 : decode cX4_undo 24 = .ok (.iconst 4, 1) := by decide +kernel
theorem dX4_undo_25 : decode cX4_undo 25 = .ok (.invokestatic 226, 3) := by decide +kernel
theorem dX4_undo_28 : decode cX4_undo 28 = .ok (.putfield 27, 3) := by decide +kernel
theorem dX4_undo_31 : decode cX4_undo 31 = .ok (.aload_n 0, 1) := by decide +kernel
theorem dX4_undo_32 : decode cX4_undo 32 = .ok (.aload_n 0, 1) := by decide +kernel
theorem dX4_undo_33 : decode cX4_undo 33 = .ok (.getfield 27, 3) := by decide +kernel
theorem dX4_undo_36 : decode cX4_undo 36 = .ok (.invokevirtual 229, 3) := by decide +kernel
theorem dX4_undo_39 : decode cX4_undo 39 = .ok (.astore_n 1, 1) := by decide +kernel
theorem dX4_undo_40 : decode cX4_undo 40 = .ok (.aload_n 1, 1) := by decide +kernel
theorem dX4_undo_41 : decode cX4_undo 41 = .ok (.ifnull 11, 3) := by decide +kernel
theorem dX4_undo_44 : decode cX4_undo 44 = .ok (.aload_n 0, 1) := by decide +kernel
theorem dX4_undo_45 : decode cX4_undo 45 = .ok (.getfield 10, 3) := by decide +kernel
theorem dX4_undo_48 : decode cX4_undo 48 = .ok (.aload_n 1, 1) := by decide +kernel
theorem dX4_undo_49 : decode cX4_undo 49 = .ok (.invokevirtual 67, 3) := by decide +kernel
theorem dX4_undo_52 : decode cX4_undo 52 = .ok (.aload_n 0, 1) := by decide +kernel
theorem dX4_undo_53 : decode cX4_undo 53 = .ok (.dup, 1) := by decide +kernel
theorem dX4_undo_54 : decode cX4_undo 54 = .ok (.getfield 23, 3) := by decide +kernel
theorem dX4_undo_57 : decode cX4_undo 57 = .ok (.iconst 1, 1) := by decide +kernel
theorem dX4_undo_58 : decode cX4_undo 58 = .ok (.isub, 1) := by decide +kernel
theorem dX4_undo_59 : decode cX4_undo 59 = .ok (.putfield 23, 3) := by decide +kernel
theorem dX4_undo_62 : decode cX4_undo 62 = .ok (.aload_n 0, 1) := by decide +kernel
theorem dX4_undo_63 : decode cX4_undo 63 = .ok (.getfield 23, 3) := by decide +kernel
theorem dX4_undo_66 : decode cX4_undo 66 = .ok (.ireturn, 1) := by decide +kernel
theorem dX4_digest_0 : decode cX4_digest 0 = .ok (.ldc2_w 233, 3) := by decide +kernel
theorem dX4_digest_3 : decode cX4_digest 3 = .ok (.aload_n 0, 1) := by decide +kernel
theorem dX4_digest_4 : decode cX4_digest 4 = .ok (.getfield 33, 3) := by decide +kernel
theorem dX4_digest_7 : decode cX4_digest 7 = .ok (.getfield 208, 3) := by decide +kernel
theorem dX4_digest_10 : decode cX4_digest 10 = .ok (.i2l, 1) := by decide +kernel
theorem dX4_digest_11 : decode cX4_digest 11 = .ok (.ladd, 1) := by decide +kernel
theorem dX4_digest_12 : decode cX4_digest 12 = .ok (.lstore_n 1, 1) := by decide +kernel
theorem dX4_digest_13 : decode cX4_digest 13 = .ok (.iconst 0, 1) := by decide +kernel
theorem dX4_digest_14 : decode cX4_digest 14 = .ok (.istore_n 3, 1) := by decide +kernel
theorem dX4_digest_15 : decode cX4_digest 15 = .ok (.iload_n 3, 1) := by decide +kernel
theorem dX4_digest_16 : decode cX4_digest 16 = .ok (.bipush 9, 2) := by decide +kernel
theorem dX4_digest_18 : decode cX4_digest 18 = .ok (.if_icmp .gt 22, 3) := by decide +kernel
theorem dX4_digest_21 : decode cX4_digest 21 = .ok (.ldc2_w 235, 3) := by decide +kernel
theorem dX4_digest_24 : decode cX4_digest 24 = .ok (.lload_n 1, 1) := by decide +kernel
theorem dX4_digest_25 : decode cX4_digest 25 = .ok (.lmul, 1) := by decide +kernel
theorem dX4_digest_26 : decode cX4_digest 26 = .ok (.aload_n 0, 1) := by decide +kernel
theorem dX4_digest_27 : decode cX4_digest 27 = .ok (.iload_n 3, 1) := by decide +kernel
theorem dX4_digest_28 : decode cX4_digest 28 = .ok (.invokevirtual 237, 3) := by decide +kernel
theorem dX4_digest_31 : decode cX4_digest 31 = .ok (.i2l, 1) := by decide +kernel
theorem dX4_digest_32 : decode cX4_digest 32 = .ok (.ladd, 1) := by decide +kernel
theorem dX4_digest_33 : decode cX4_digest 33 = .ok (.lstore_n 1, 1) := by decide +kernel
theorem dX4_digest_34 : decode cX4_digest 34 = .ok (.iinc 3 1, 3) := by decide +kernel
theorem dX4_digest_37 : decode cX4_digest 37 = .ok (.goto (-22), 3) := by decide +kernel
theorem dX4_digest_40 : decode cX4_digest 40 = .ok (.ldc2_w 235, 3) := by decide +kernel
theorem dX4_digest_43 : decode cX4_digest 43 = .ok (.lload_n 1, 1) := by decide +kernel
theorem dX4_digest_44 : decode cX4_digest 44 = .ok (.lmul, 1) := by decide +kernel
theorem dX4_digest_45 : decode cX4_digest 45 = .ok (.aload_n 0, 1) := by decide +kernel
theorem dX4_digest_46 : decode cX4_digest 46 = .ok (.iconst 0, 1) := by decide +kernel
theorem dX4_digest_47 : decode cX4_digest 47 = .ok (.invokevirtual 240, 3) := by decide +kernel
theorem dX4_digest_50 : decode cX4_digest 50 = .ok (.ladd, 1) := by decide +kernel
theorem dX4_digest_51 : decode cX4_digest 51 = .ok (.lstore_n 1, 1) := by decide +kernel
theorem dX4_digest_52 : decode cX4_digest 52 = .ok (.ldc2_w 235, 3) := by decide +kernel
theorem dX4_digest_55 : decode cX4_digest 55 = .ok (.lload_n 1, 1) := by decide +kernel
theorem dX4_digest_56 : decode cX4_digest 56 = .ok (.lmul, 1) := by decide +kernel
theorem dX4_digest_57 : decode cX4_digest 57 = .ok (.aload_n 0, 1) := by decide +kernel
theorem dX4_digest_58 : decode cX4_digest 58 = .ok (.iconst 1, 1) := by decide +kernel
theorem dX4_digest_59 : decode cX4_digest 59 = .ok (.invokevirtual 240, 3) := by decide +kernel
theorem dX4_digest_62 : decode cX4_digest 62 = .ok (.ladd, 1) := by decide +kernel
theorem dX4_digest_63 : decode cX4_digest 63 = .ok (.lstore_n 1, 1) := by decide +kernel
theorem dX4_digest_64 : decode cX4_digest 64 = .ok (.iconst 0, 1) := by decide +kernel
theorem dX4_digest_65 : decode cX4_digest 65 = .ok (.istore_n 3, 1) := by decide +kernel
theorem dX4_digest_66 : decode cX4_digest 66 = .ok (.iload_n 3, 1) := by decide +kernel
theorem dX4_digest_67 : decode cX4_digest 67 = .ok (.iconst 4, 1) := by decide +kernel
theorem dX4_digest_68 : decode cX4_digest 68 = .ok (.if_icmp .ge 40, 3) := by decide +kernel
theorem dX4_digest_71 : decode cX4_digest 71 = .ok (.iconst 0, 1) := by decide +kernel
theorem dX4_digest_72 : decode cX4_digest 72 = .ok (.istore 4, 2) := by decide +kernel
theorem dX4_digest_74 : decode cX4_digest 74 = .ok (.iload 4, 2) := by decide +kernel
theorem dX4_digest_76 : decode cX4_digest 76 = .ok (.bipush 6, 2) := by decide +kernel
theorem dX4_digest_78 : decode cX4_digest 78 = .ok (.if_icmp .gt 24, 3) := by decide +kernel
theorem dX4_digest_81 : decode cX4_digest 81 = .ok (.ldc2_w 235, 3) := by decide +kernel
theorem dX4_digest_84 : decode cX4_digest 84 = .ok (.lload_n 1, 1) := by decide +kernel
theorem dX4_digest_85 : decode cX4_digest 85 = .ok (.lmul, 1) := by decide +kernel
theorem dX4_digest_86 : decode cX4_digest 86 = .ok (.aload_n 0, 1) := by decide +kernel
theorem dX4_digest_87 : decode cX4_digest 87 = .ok (.iload_n 3, 1) := by decide +kernel
theorem dX4_digest_88 : decode cX4_digest 88 = .ok (.iload 4, 2) := by decide +kernel
theorem dX4_digest_90 : decode cX4_digest 90 = .ok (.invokevirtual 244, 3) := by decide +kernel
theorem dX4_digest_93 : decode cX4_digest 93 = .ok (.i2l, 1) := by decide +kernel
theorem dX4_digest_94 : decode cX4_digest 94 = .ok (.ladd, 1) := by decide +kernel
theorem dX4_digest_95 : decode cX4_digest 95 = .ok (.lstore_n 1, 1) := by decide +kernel
theorem dX4_digest_96 : decode cX4_digest 96 = .ok (.iinc 4 1, 3) := by decide +kernel
theorem dX4_digest_99 : decode cX4_digest 99 = .ok (.goto (-25), 3) := by decide +kernel
theorem dX4_digest_102 : decode cX4_digest 102 = .ok (.iinc 3 1, 3) := by decide +kernel
theorem dX4_digest_105 : decode cX4_digest 105 = .ok (.goto (-39), 3) := by decide +kernel
theorem dX4_digest_108 : decode cX4_digest 108 = .ok (.iconst 0, 1) := by decide +kernel
theorem dX4_digest_109 : decode cX4_digest 109 = .ok (.istore_n 3, 1) := by decide +kernel
theorem dX4_digest_110 : decode cX4_digest 110 = .ok (.iload_n 3, 1) := by decide +kernel
theorem dX4_digest_111 : decode cX4_digest 111 = .ok (.aload_n 0, 1) := by decide +kernel
theorem dX4_digest_112 : decode cX4_digest 112 = .ok (.getfield 10, 3) := by decide +kernel
theorem dX4_digest_115 : decode cX4_digest 115 = .ok (.getfield 57, 3) := by decide +kernel
theorem dX4_digest_118 : decode cX4_digest 118 = .ok (.getfield 84, 3) := by decide +kernel
theorem dX4_digest_121 : decode cX4_digest 121 = .ok (.if_icmp .ge 31, 3) := by decide +kernel
theorem dX4_digest_124 : decode cX4_digest 124 = .ok (.ldc2_w 235, 3) := by decide +kernel
theorem dX4_digest_127 : decode cX4_digest 127 = .ok (.lload_n 1, 1) := by decide +kernel
theorem dX4_digest_128 : decode cX4_digest 128 = .ok (.lmul, 1) := by decide +kernel
theorem dX4_digest_129 : decode cX4_digest 129 = .ok (.aload_n 0, 1) := by decide +kernel
theorem dX4_digest_130 : decode cX4_digest 130 = .ok (.getfield 10, 3) := by decide +kernel
theorem dX4_digest_133 : decode cX4_digest 133 = .ok (.getfield 57, 3) := by decide +kernel
theorem dX4_digest_136 : decode cX4_digest 136 = .ok (.getfield 140, 3) := by decide +kernel
theorem dX4_digest_139 : decode cX4_digest 139 = .ok (.iload_n 3, 1) := by decide +kernel
theorem dX4_digest_140 : decode cX4_digest 140 = .ok (.invokestatic 144, 3) := by decide +kernel
theorem dX4_digest_143 : decode cX4_digest 143 = .ok (.i2l, 1) := by decide +kernel
theorem dX4_digest_144 : decode cX4_digest 144 = .ok (.ladd, 1) := by decide +kernel
theorem dX4_digest_145 : decode cX4_digest 145 = .ok (.lstore_n 1, 1) := by decide +kernel
theorem dX4_digest_146 : decode cX4_digest 146 = .ok (.iinc 3 1, 3) := by decide +kernel
theorem dX4_digest_149 : decode cX4_digest 149 = .ok (.goto (-39), 3) := by decide +kernel
theorem dX4_digest_152 : decode cX4_digest 152 = .ok (.iconst 0, 1) := by decide +kernel
theorem dX4_digest_153 : decode cX4_digest 153 = .ok (.istore_n 3, 1) := by decide +kernel
theorem dX4_digest_154 : decode cX4_digest 154 = .ok (.iload_n 3, 1) := by decide +kernel
theorem dX4_digest_155 : decode cX4_digest 155 = .ok (.aload_n 0, 1) := by decide +kernel
theorem dX4_digest_156 : decode cX4_digest 156 = .ok (.getfield 10, 3) := by decide +kernel
theorem dX4_digest_159 : decode cX4_digest 159 = .ok (.getfield 161, 3) := by decide +kernel
theorem dX4_digest_162 : decode cX4_digest 162 = .ok (.getfield 173, 3) := by decide +kernel
theorem dX4_digest_165 : decode cX4_digest 165 = .ok (.if_icmp .ge 45, 3) := by decide +kernel
theorem dX4_digest_168 : decode cX4_digest 168 = .ok (.iconst 0, 1) := by decide +kernel
theorem dX4_digest_169 : decode cX4_digest 169 = .ok (.istore 4, 2) := by decide +kernel
theorem dX4_digest_171 : decode cX4_digest 171 = .ok (.iload 4, 2) := by decide +kernel
theorem dX4_digest_173 : decode cX4_digest 173 = .ok (.iconst 3, 1) := by decide +kernel
theorem dX4_digest_174 : decode cX4_digest 174 = .ok (.if_icmp .ge 30, 3) := by decide +kernel
theorem dX4_digest_177 : decode cX4_digest 177 = .ok (.ldc2_w 235, 3) := by decide +kernel
theorem dX4_digest_180 : decode cX4_digest 180 = .ok (.lload_n 1, 1) := by decide +kernel
theorem dX4_digest_181 : decode cX4_digest 181 = .ok (.lmul, 1) := by decide +kernel
theorem dX4_digest_182 : decode cX4_digest 182 = .ok (.aload_n 0, 1) := by decide +kernel
theorem dX4_digest_183 : decode cX4_digest 183 = .ok (.getfield 10, 3) := by decide +kernel
theorem dX4_digest_186 : decode cX4_digest 186 = .ok (.getfield 161, 3) := by decide +kernel
theorem dX4_digest_189 : decode cX4_digest 189 = .ok (.iload_n 3, 1) := by decide +kernel
theorem dX4_digest_190 : decode cX4_digest 190 = .ok (.iload 4, 2) := by decide +kernel
theorem dX4_digest_192 : decode cX4_digest 192 = .ok (.invokevirtual 187, 3) := by decide +kernel
theorem dX4_digest_195 : decode cX4_digest 195 = .ok (.i2l, 1) := by decide +kernel
theorem dX4_digest_196 : decode cX4_digest 196 = .ok (.ladd, 1) := by decide +kernel
theorem dX4_digest_197 : decode cX4_digest 197 = .ok (.lstore_n 1, 1) := by decide +kernel
theorem dX4_digest_198 : decode cX4_digest 198 = .ok (.iinc 4 1, 3) := by decide +kernel
theorem dX4_digest_201 : decode cX4_digest 201 = .ok (.goto (-30), 3) := by decide +kernel
theorem dX4_digest_204 : decode cX4_digest 204 = .ok (.iinc 3 1, 3) := by decide +kernel
theorem dX4_digest_207 : decode cX4_digest 207 = .ok (.goto (-53), 3) := by decide +kernel
theorem dX4_digest_210 : decode cX4_digest 210 = .ok (.ldc2_w 235, 3) := by decide +kernel
theorem dX4_digest_213 : decode cX4_digest 213 = .ok (.lload_n 1, 1) := by decide +kernel
theorem dX4_digest_214 : decode cX4_digest 214 = .ok (.lmul, 1) := by decide +kernel
theorem dX4_digest_215 : decode cX4_digest 215 = .ok (.aload_n 0, 1) := by decide +kernel
theorem dX4_digest_216 : decode cX4_digest 216 = .ok (.getfield 23, 3) := by decide +kernel
theorem dX4_digest_219 : decode cX4_digest 219 = .ok (.i2l, 1) := by decide +kernel
theorem dX4_digest_220 : decode cX4_digest 220 = .ok (.ladd, 1) := by decide +kernel
theorem dX4_digest_221 : decode cX4_digest 221 = .ok (.lreturn, 1) := by decide +kernel
theorem dX4_save_0 : decode cX4_save 0 = .ok (.aload_n 0, 1) := by decide +kernel
theorem dX4_save_1 : decode cX4_save 1 = .ok (.aload_n 0, 1) := by decide +kernel
theorem dX4_save_2 : decode cX4_save 2 = .ok (.getfield 27, 3) := by decide +kernel
theorem dX4_save_5 : decode cX4_save 5 = .ok (.invokevirtual 229, 3) := by decide +kernel
theorem dX4_save_8 : decode cX4_save 8 = .ok (.astore_n 1, 1) := by decide +kernel
theorem dX4_save_9 : decode cX4_save 9 = .ok (.aload_n 1, 1) := by decide +kernel
theorem dX4_save_10 : decode cX4_save 10 = .ok (.ifnull 11, 3) := by decide +kernel
theorem dX4_save_13 : decode cX4_save 13 = .ok (.aload_n 1, 1) := by decide +kernel
theorem dX4_save_14 : decode cX4_save 14 = .ok (.aload_n 0, 1) := by decide +kernel
theorem dX4_save_15 : decode cX4_save 15 = .ok (.getfield 10, 3) := by decide +kernel
theorem dX4_save_18 : decode cX4_save 18 = .ok (.invokevirtual 67, 3) := by decide +kernel
theorem dX4_save_21 : decode cX4_save 21 = .ok (.aload_n 0, 1) := by decide +kernel
theorem dX4_save_22 : decode cX4_save 22 = .ok (.aload_n 0, 1) := by decide +kernel
theorem dX4_save_23 : decode cX4_save 23 = .ok (.getfield 27, 3) := by decide +kernel
theorem dX4_save_26 : decode cX4_save 26 = .ok (.iconst 1, 1) := by decide +kernel
theorem dX4_save_27 : decode cX4_save 27 = .ok (.iadd, 1) := by decide +kernel
theorem dX4_save_28 : decode cX4_save 28 = .ok (.iconst 4, 1) := by decide +kernel
theorem dX4_save_29 : decode cX4_save 29 = .ok (.invokestatic 226, 3) := by decide +kernel
theorem dX4_save_32 : decode cX4_save 32 = .ok (.putfield 27, 3) := by decide +kernel
theorem dX4_save_35 : decode cX4_save 35 = .ok (.aload_n 0, 1) := by decide +kernel
theorem dX4_save_36 : decode cX4_save 36 = .ok (.aload_n 0, 1) := by decide +kernel
theorem dX4_save_37 : decode cX4_save 37 = .ok (.getfield 23, 3) := by decide +kernel
theorem dX4_save_40 : decode cX4_save 40 = .ok (.iconst 1, 1) := by decide +kernel
theorem dX4_save_41 : decode cX4_save 41 = .ok (.iadd, 1) := by decide +kernel
theorem dX4_save_42 : decode cX4_save 42 = .ok (.iconst 4, 1) := by decide +kernel
theorem dX4_save_43 : decode cX4_save 43 = .ok (.invokestatic 247, 3) := by decide +kernel
theorem dX4_save_46 : decode cX4_save 46 = .ok (.putfield 23, 3) := by decide +kernel
theorem dX4_save_49 : decode cX4_save 49 = .ok (.return_, 1) := by decide +kernel
theorem dX4_savedAt_0 : decode cX4_savedAt 0 = .ok (.iload_n 1, 1) := by decide +kernel
theorem dX4_savedAt_1 : decode cX4_savedAt 1 = .ok (.ifCond .lt 21, 3) := by decide +kernel
theorem dX4_savedAt_4 : decode cX4_savedAt 4 = .ok (.iload_n 1, 1) := by decide +kernel
theorem dX4_savedAt_5 : decode cX4_savedAt 5 = .ok (.aload_n 0, 1) := by decide +kernel
theorem dX4_savedAt_6 : decode cX4_savedAt 6 = .ok (.getfield 19, 3) := by decide +kernel
theorem dX4_savedAt_9 : decode cX4_savedAt 9 = .ok (.arraylength, 1) := by decide +kernel
theorem dX4_savedAt_10 : decode cX4_savedAt 10 = .ok (.if_icmp .ge 12, 3) := by decide +kernel
theorem dX4_savedAt_13 : decode cX4_savedAt 13 = .ok (.aload_n 0, 1) := by decide +kernel
theorem dX4_savedAt_14 : decode cX4_savedAt 14 = .ok (.getfield 19, 3) := by decide +kernel
theorem dX4_savedAt_17 : decode cX4_savedAt 17 = .ok (.iload_n 1, 1) := by decide +kernel
theorem dX4_savedAt_18 : decode cX4_savedAt 18 = .ok (.aaload, 1) := by decide +kernel
theorem dX4_savedAt_19 : decode cX4_savedAt 19 = .ok (.goto 4, 3) := by decide +kernel
theorem dX4_savedAt_22 : decode cX4_savedAt 22 = .ok (.aconst_null, 1) := by decide +kernel
theorem dX4_savedAt_23 : decode cX4_savedAt 23 = .ok (.areturn, 1) := by decide +kernel
theorem dX4_acceptTrial_0 : decode cX4_acceptTrial 0 = .ok (.aload_n 0, 1) := by decide +kernel
theorem dX4_acceptTrial_1 : decode cX4_acceptTrial 1 = .ok (.invokevirtual 46, 3) := by decide +kernel
theorem dX4_acceptTrial_4 : decode cX4_acceptTrial 4 = .ok (.aload_n 0, 1) := by decide +kernel
theorem dX4_acceptTrial_5 : decode cX4_acceptTrial 5 = .ok (.getfield 10, 3) := by decide +kernel
theorem dX4_acceptTrial_8 : decode cX4_acceptTrial 8 = .ok (.aload_n 0, 1) := by decide +kernel
theorem dX4_acceptTrial_9 : decode cX4_acceptTrial 9 = .ok (.getfield 16, 3) := by decide +kernel
theorem dX4_acceptTrial_12 : decode cX4_acceptTrial 12 = .ok (.invokevirtual 67, 3) := by decide +kernel
theorem dX4_acceptTrial_15 : decode cX4_acceptTrial 15 = .ok (.return_, 1) := by decide +kernel
theorem dX4_checkTrialRope_0 : decode cX4_checkTrialRope 0 = .ok (.aload_n 0, 1) := by decide +kernel
theorem dX4_checkTrialRope_1 : decode cX4_checkTrialRope 1 = .ok (.getfield 16, 3) := by decide +kernel
theorem dX4_checkTrialRope_4 : decode cX4_checkTrialRope 4 = .ok (.invokevirtual 80, 3) := by decide +kernel
theorem dX4_checkTrialRope_7 : decode cX4_checkTrialRope 7 = .ok (.ifCond .ge 13, 3) := by decide +kernel
theorem dX4_checkTrialRope_10 : decode cX4_checkTrialRope 10 = .ok (.new 87, 3) := by decide +kernel
theorem dX4_checkTrialRope_13 : decode cX4_checkTrialRope 13 = .ok (.dup, 1) := by decide +kernel
theorem dX4_checkTrialRope_14 : decode cX4_checkTrialRope 14 = .ok (.ldc 250, 2) := by decide +kernel
theorem dX4_checkTrialRope_16 : decode cX4_checkTrialRope 16 = .ok (.invokespecial 91, 3) := by decide +kernel
theorem dX4_checkTrialRope_19 : decode cX4_checkTrialRope 19 = .ok (.athrow, 1) := by decide +kernel
theorem dX4_checkTrialRope_20 : decode cX4_checkTrialRope 20 = .ok (.return_, 1) := by decide +kernel
theorem dX4_isBlock_0 : decode cX4_isBlock 0 = .ok (.iload_n 0, 1) := by decide +kernel
theorem dX4_isBlock_1 : decode cX4_isBlock 1 = .ok (.ifCond .lt 12, 3) := by decide +kernel
theorem dX4_isBlock_4 : decode cX4_isBlock 4 = .ok (.iload_n 0, 1) := by decide +kernel
theorem dX4_isBlock_5 : decode cX4_isBlock 5 = .ok (.iconst 4, 1) := by decide +kernel
theorem dX4_isBlock_6 : decode cX4_isBlock 6 = .ok (.if_icmp .ge 7, 3) := by decide +kernel
theorem dX4_isBlock_9 : decode cX4_isBlock 9 = .ok (.iconst 1, 1) := by decide +kernel
theorem dX4_isBlock_10 : decode cX4_isBlock 10 = .ok (.goto 4, 3) := by decide +kernel
theorem dX4_isBlock_13 : decode cX4_isBlock 13 = .ok (.iconst 0, 1) := by decide +kernel
theorem dX4_isBlock_14 : decode cX4_isBlock 14 = .ok (.ireturn, 1) := by decide +kernel
theorem dX4_checkBlock_0 : decode cX4_checkBlock 0 = .ok (.iload_n 0, 1) := by decide +kernel
theorem dX4_checkBlock_1 : decode cX4_checkBlock 1 = .ok (.invokestatic 252, 3) := by decide +kernel
theorem dX4_checkBlock_4 : decode cX4_checkBlock 4 = .ok (.ifCond .ne 14, 3) := by decide +kernel
theorem dX4_checkBlock_7 : decode cX4_checkBlock 7 = .ok (.new 102, 3) := by decide +kernel
theorem dX4_checkBlock_10 : decode cX4_checkBlock 10 = .ok (.dup, 1) := by decide +kernel
theorem dX4_checkBlock_11 : decode cX4_checkBlock 11 = .ok (.ldc_w 256, 3) := by decide +kernel
theorem dX4_checkBlock_14 : decode cX4_checkBlock 14 = .ok (.invokespecial 106, 3) := by decide +kernel
theorem dX4_checkBlock_17 : decode cX4_checkBlock 17 = .ok (.athrow, 1) := by decide +kernel
theorem dX4_checkBlock_18 : decode cX4_checkBlock 18 = .ok (.return_, 1) := by decide +kernel
theorem dX4_checkPulley_0 : decode cX4_checkPulley 0 = .ok (.iload_n 1, 1) := by decide +kernel
theorem dX4_checkPulley_1 : decode cX4_checkPulley 1 = .ok (.ifCond .lt 17, 3) := by decide +kernel
theorem dX4_checkPulley_4 : decode cX4_checkPulley 4 = .ok (.iload_n 1, 1) := by decide +kernel
theorem dX4_checkPulley_5 : decode cX4_checkPulley 5 = .ok (.aload_n 0, 1) := by decide +kernel
theorem dX4_checkPulley_6 : decode cX4_checkPulley 6 = .ok (.getfield 10, 3) := by decide +kernel
theorem dX4_checkPulley_9 : decode cX4_checkPulley 9 = .ok (.getfield 57, 3) := by decide +kernel
theorem dX4_checkPulley_12 : decode cX4_checkPulley 12 = .ok (.getfield 84, 3) := by decide +kernel
theorem dX4_checkPulley_15 : decode cX4_checkPulley 15 = .ok (.if_icmp .lt 14, 3) := by decide +kernel
theorem dX4_checkPulley_18 : decode cX4_checkPulley 18 = .ok (.new 102, 3) := by decide +kernel
theorem dX4_checkPulley_21 : decode cX4_checkPulley 21 = .ok (.dup, 1) := by decide +kernel
theorem dX4_checkPulley_22 : decode cX4_checkPulley 22 = .ok (.ldc_w 258, 3) := by decide +kernel
theorem dX4_checkPulley_25 : decode cX4_checkPulley 25 = .ok (.invokespecial 106, 3) := by decide +kernel
theorem dX4_checkPulley_28 : decode cX4_checkPulley 28 = .ok (.athrow, 1) := by decide +kernel
theorem dX4_checkPulley_29 : decode cX4_checkPulley 29 = .ok (.return_, 1) := by decide +kernel
theorem dX4_checkRange_0 : decode cX4_checkRange 0 = .ok (.iload_n 0, 1) := by decide +kernel
theorem dX4_checkRange_1 : decode cX4_checkRange 1 = .ok (.iload_n 1, 1) := by decide +kernel
theorem dX4_checkRange_2 : decode cX4_checkRange 2 = .ok (.if_icmp .lt 8, 3) := by decide +kernel
theorem dX4_checkRange_5 : decode cX4_checkRange 5 = .ok (.iload_n 0, 1) := by decide +kernel
theorem dX4_checkRange_6 : decode cX4_checkRange 6 = .ok (.iload_n 2, 1) := by decide +kernel
theorem dX4_checkRange_7 : decode cX4_checkRange 7 = .ok (.if_icmp .le 14, 3) := by decide +kernel
theorem dX4_checkRange_10 : decode cX4_checkRange 10 = .ok (.new 132, 3) := by decide +kernel
theorem dX4_checkRange_13 : decode cX4_checkRange 13 = .ok (.dup, 1) := by decide +kernel
theorem dX4_checkRange_14 : decode cX4_checkRange 14 = .ok (.ldc_w 260, 3) := by decide +kernel
theorem dX4_checkRange_17 : decode cX4_checkRange 17 = .ok (.invokespecial 136, 3) := by decide +kernel
theorem dX4_checkRange_20 : decode cX4_checkRange 20 = .ok (.athrow, 1) := by decide +kernel
theorem dX4_checkRange_21 : decode cX4_checkRange 21 = .ok (.return_, 1) := by decide +kernel
theorem dX4_at_0 : decode cX4_at 0 = .ok (.iload_n 1, 1) := by decide +kernel
theorem dX4_at_1 : decode cX4_at 1 = .ok (.ifCond .lt 15, 3) := by decide +kernel
theorem dX4_at_4 : decode cX4_at 4 = .ok (.iload_n 1, 1) := by decide +kernel
theorem dX4_at_5 : decode cX4_at 5 = .ok (.aload_n 0, 1) := by decide +kernel
theorem dX4_at_6 : decode cX4_at 6 = .ok (.arraylength, 1) := by decide +kernel
theorem dX4_at_7 : decode cX4_at 7 = .ok (.if_icmp .ge 9, 3) := by decide +kernel
theorem dX4_at_10 : decode cX4_at 10 = .ok (.aload_n 0, 1) := by decide +kernel
theorem dX4_at_11 : decode cX4_at 11 = .ok (.iload_n 1, 1) := by decide +kernel
theorem dX4_at_12 : decode cX4_at 12 = .ok (.iaload, 1) := by decide +kernel
theorem dX4_at_13 : decode cX4_at 13 = .ok (.goto 4, 3) := by decide +kernel
theorem dX4_at_16 : decode cX4_at 16 = .ok (.iconst 0, 1) := by decide +kernel
theorem dX4_at_17 : decode cX4_at 17 = .ok (.ireturn, 1) := by decide +kernel
theorem dX4_put_0 : decode cX4_put 0 = .ok (.iload_n 1, 1) := by decide +kernel
theorem dX4_put_1 : decode cX4_put 1 = .ok (.ifCond .lt 13, 3) := by decide +kernel
theorem dX4_put_4 : decode cX4_put 4 = .ok (.iload_n 1, 1) := by decide +kernel
theorem dX4_put_5 : decode cX4_put 5 = .ok (.aload_n 0, 1) := by decide +kernel
theorem dX4_put_6 : decode cX4_put 6 = .ok (.arraylength, 1) := by decide +kernel
theorem dX4_put_7 : decode cX4_put 7 = .ok (.if_icmp .ge 7, 3) := by decide +kernel
theorem dX4_put_10 : decode cX4_put 10 = .ok (.aload_n 0, 1) := by decide +kernel
theorem dX4_put_11 : decode cX4_put 11 = .ok (.iload_n 1, 1) := by decide +kernel
theorem dX4_put_12 : decode cX4_put 12 = .ok (.iload_n 2, 1) := by decide +kernel
theorem dX4_put_13 : decode cX4_put 13 = .ok (.iastore, 1) := by decide +kernel
theorem dX4_put_14 : decode cX4_put 14 = .ok (.return_, 1) := by decide +kernel
theorem dX4_copyRow_0 : decode cX4_copyRow 0 = .ok (.iconst 0, 1) := by decide +kernel
theorem dX4_copyRow_1 : decode cX4_copyRow 1 = .ok (.istore_n 2, 1) := by decide +kernel
theorem dX4_copyRow_2 : decode cX4_copyRow 2 = .ok (.iload_n 2, 1) := by decide +kernel
theorem dX4_copyRow_3 : decode cX4_copyRow 3 = .ok (.aload_n 1, 1) := by decide +kernel
theorem dX4_copyRow_4 : decode cX4_copyRow 4 = .ok (.arraylength, 1) := by decide +kernel
theorem dX4_copyRow_5 : decode cX4_copyRow 5 = .ok (.if_icmp .ge 21, 3) := by decide +kernel
theorem dX4_copyRow_8 : decode cX4_copyRow 8 = .ok (.iload_n 2, 1) := by decide +kernel
theorem dX4_copyRow_9 : decode cX4_copyRow 9 = .ok (.aload_n 0, 1) := by decide +kernel
theorem dX4_copyRow_10 : decode cX4_copyRow 10 = .ok (.arraylength, 1) := by decide +kernel
theorem dX4_copyRow_11 : decode cX4_copyRow 11 = .ok (.if_icmp .ge 15, 3) := by decide +kernel
theorem dX4_copyRow_14 : decode cX4_copyRow 14 = .ok (.aload_n 1, 1) := by decide +kernel
theorem dX4_copyRow_15 : decode cX4_copyRow 15 = .ok (.iload_n 2, 1) := by decide +kernel
theorem dX4_copyRow_16 : decode cX4_copyRow 16 = .ok (.aload_n 0, 1) := by decide +kernel
theorem dX4_copyRow_17 : decode cX4_copyRow 17 = .ok (.iload_n 2, 1) := by decide +kernel
theorem dX4_copyRow_18 : decode cX4_copyRow 18 = .ok (.iaload, 1) := by decide +kernel
theorem dX4_copyRow_19 : decode cX4_copyRow 19 = .ok (.iastore, 1) := by decide +kernel
theorem dX4_copyRow_20 : decode cX4_copyRow 20 = .ok (.iinc 2 1, 3) := by decide +kernel
theorem dX4_copyRow_23 : decode cX4_copyRow 23 = .ok (.goto (-21), 3) := by decide +kernel
theorem dX4_copyRow_26 : decode cX4_copyRow 26 = .ok (.return_, 1) := by decide +kernel
theorem dL_setWeight_0 : decode cL_setWeight 0 = .ok (.aload_n 3, 1) := by decide +kernel
theorem dL_setWeight_1 : decode cL_setWeight 1 = .ok (.iconst 0, 1) := by decide +kernel
theorem dL_setWeight_2 : decode cL_setWeight 2 = .ok (.aload_n 0, 1) := by decide +kernel
theorem dL_setWeight_3 : decode cL_setWeight 3 = .ok (.iload_n 1, 1) := by decide +kernel
theorem dL_setWeight_4 : decode cL_setWeight 4 = .ok (.iload_n 2, 1) := by decide +kernel
theorem dL_setWeight_5 : decode cL_setWeight 5 = .ok (.invokevirtual 7, 3) := by decide +kernel
theorem dL_setWeight_8 : decode cL_setWeight 8 = .ok (.i2l, 1) := by decide +kernel
theorem dL_setWeight_9 : decode cL_setWeight 9 = .ok (.lastore, 1) := by decide +kernel
theorem dL_setWeight_10 : decode cL_setWeight 10 = .ok (.goto 11, 3) := by decide +kernel
theorem dL_setWeight_13 : decode cL_setWeight 13 = .ok (.astore 4, 2) := by decide +kernel
theorem dL_setWeight_15 : decode cL_setWeight 15 = .ok (.iconst 1, 1) := by decide +kernel
theorem dL_setWeight_16 : decode cL_setWeight 16 = .ok (.ireturn, 1) := by decide +kernel
theorem dL_setWeight_17 : decode cL_setWeight 17 = .ok (.astore 4, 2) := by decide +kernel
theorem dL_setWeight_19 : decode cL_setWeight 19 = .ok (.iconst 2, 1) := by decide +kernel
theorem dL_setWeight_20 : decode cL_setWeight 20 = .ok (.ireturn, 1) := by decide +kernel
theorem dL_setWeight_21 : decode cL_setWeight 21 = .ok (.iconst 0, 1) := by decide +kernel
theorem dL_setWeight_22 : decode cL_setWeight 22 = .ok (.ireturn, 1) := by decide +kernel
theorem dL_setFriction_0 : decode cL_setFriction 0 = .ok (.aload_n 2, 1) := by decide +kernel
theorem dL_setFriction_1 : decode cL_setFriction 1 = .ok (.iconst 0, 1) := by decide +kernel
theorem dL_setFriction_2 : decode cL_setFriction 2 = .ok (.aload_n 0, 1) := by decide +kernel
theorem dL_setFriction_3 : decode cL_setFriction 3 = .ok (.iload_n 1, 1) := by decide +kernel
theorem dL_setFriction_4 : decode cL_setFriction 4 = .ok (.invokevirtual 17, 3) := by decide +kernel
theorem dL_setFriction_7 : decode cL_setFriction 7 = .ok (.i2l, 1) := by decide +kernel
theorem dL_setFriction_8 : decode cL_setFriction 8 = .ok (.lastore, 1) := by decide +kernel
theorem dL_setFriction_9 : decode cL_setFriction 9 = .ok (.goto 6, 3) := by decide +kernel
theorem dL_setFriction_12 : decode cL_setFriction 12 = .ok (.astore_n 3, 1) := by decide +kernel
theorem dL_setFriction_13 : decode cL_setFriction 13 = .ok (.iconst 1, 1) := by decide +kernel
theorem dL_setFriction_14 : decode cL_setFriction 14 = .ok (.ireturn, 1) := by decide +kernel
theorem dL_setFriction_15 : decode cL_setFriction 15 = .ok (.iconst 0, 1) := by decide +kernel
theorem dL_setFriction_16 : decode cL_setFriction 16 = .ok (.ireturn, 1) := by decide +kernel
theorem dL_setLength_0 : decode cL_setLength 0 = .ok (.aload_n 2, 1) := by decide +kernel
theorem dL_setLength_1 : decode cL_setLength 1 = .ok (.iconst 0, 1) := by decide +kernel
theorem dL_setLength_2 : decode cL_setLength 2 = .ok (.aload_n 0, 1) := by decide +kernel
theorem dL_setLength_3 : decode cL_setLength 3 = .ok (.iload_n 1, 1) := by decide +kernel
theorem dL_setLength_4 : decode cL_setLength 4 = .ok (.invokevirtual 21, 3) := by decide +kernel
theorem dL_setLength_7 : decode cL_setLength 7 = .ok (.i2l, 1) := by decide +kernel
theorem dL_setLength_8 : decode cL_setLength 8 = .ok (.lastore, 1) := by decide +kernel
theorem dL_setLength_9 : decode cL_setLength 9 = .ok (.goto 9, 3) := by decide +kernel
theorem dL_setLength_12 : decode cL_setLength 12 = .ok (.astore_n 3, 1) := by decide +kernel
theorem dL_setLength_13 : decode cL_setLength 13 = .ok (.iconst 1, 1) := by decide +kernel
theorem dL_setLength_14 : decode cL_setLength 14 = .ok (.ireturn, 1) := by decide +kernel
theorem dL_setLength_15 : decode cL_setLength 15 = .ok (.astore_n 3, 1) := by decide +kernel
theorem dL_setLength_16 : decode cL_setLength 16 = .ok (.iconst 2, 1) := by decide +kernel
theorem dL_setLength_17 : decode cL_setLength 17 = .ok (.ireturn, 1) := by decide +kernel
theorem dL_setLength_18 : decode cL_setLength 18 = .ok (.iconst 0, 1) := by decide +kernel
theorem dL_setLength_19 : decode cL_setLength 19 = .ok (.ireturn, 1) := by decide +kernel
theorem dL_addPulley_0 : decode cL_addPulley 0 = .ok (.aload_n 2, 1) := by decide +kernel
theorem dL_addPulley_1 : decode cL_addPulley 1 = .ok (.iconst 0, 1) := by decide +kernel
theorem dL_addPulley_2 : decode cL_addPulley 2 = .ok (.aload_n 0, 1) := by decide +kernel
theorem dL_addPulley_3 : decode cL_addPulley 3 = .ok (.iload_n 1, 1) := by decide +kernel
theorem dL_addPulley_4 : decode cL_addPulley 4 = .ok (.invokevirtual 26, 3) := by decide +kernel
theorem dL_addPulley_7 : decode cL_addPulley 7 = .ok (.i2l, 1) := by decide +kernel
theorem dL_addPulley_8 : decode cL_addPulley 8 = .ok (.lastore, 1) := by decide +kernel
theorem dL_addPulley_9 : decode cL_addPulley 9 = .ok (.goto 9, 3) := by decide +kernel
theorem dL_addPulley_12 : decode cL_addPulley 12 = .ok (.astore_n 3, 1) := by decide +kernel
theorem dL_addPulley_13 : decode cL_addPulley 13 = .ok (.iconst 1, 1) := by decide +kernel
theorem dL_addPulley_14 : decode cL_addPulley 14 = .ok (.ireturn, 1) := by decide +kernel
theorem dL_addPulley_15 : decode cL_addPulley 15 = .ok (.astore_n 3, 1) := by decide +kernel
theorem dL_addPulley_16 : decode cL_addPulley 16 = .ok (.iconst 2, 1) := by decide +kernel
theorem dL_addPulley_17 : decode cL_addPulley 17 = .ok (.ireturn, 1) := by decide +kernel
theorem dL_addPulley_18 : decode cL_addPulley 18 = .ok (.iconst 0, 1) := by decide +kernel
theorem dL_addPulley_19 : decode cL_addPulley 19 = .ok (.ireturn, 1) := by decide +kernel
theorem dL_takePulley_0 : decode cL_takePulley 0 = .ok (.aload_n 1, 1) := by decide +kernel
theorem dL_takePulley_1 : decode cL_takePulley 1 = .ok (.iconst 0, 1) := by decide +kernel
theorem dL_takePulley_2 : decode cL_takePulley 2 = .ok (.aload_n 0, 1) := by decide +kernel
theorem dL_takePulley_3 : decode cL_takePulley 3 = .ok (.invokevirtual 29, 3) := by decide +kernel
theorem dL_takePulley_6 : decode cL_takePulley 6 = .ok (.i2l, 1) := by decide +kernel
theorem dL_takePulley_7 : decode cL_takePulley 7 = .ok (.lastore, 1) := by decide +kernel
theorem dL_takePulley_8 : decode cL_takePulley 8 = .ok (.goto 6, 3) := by decide +kernel
theorem dL_takePulley_11 : decode cL_takePulley 11 = .ok (.astore_n 2, 1) := by decide +kernel
theorem dL_takePulley_12 : decode cL_takePulley 12 = .ok (.iconst 1, 1) := by decide +kernel
theorem dL_takePulley_13 : decode cL_takePulley 13 = .ok (.ireturn, 1) := by decide +kernel
theorem dL_takePulley_14 : decode cL_takePulley 14 = .ok (.iconst 0, 1) := by decide +kernel
theorem dL_takePulley_15 : decode cL_takePulley 15 = .ok (.ireturn, 1) := by decide +kernel
theorem dL_setEnd_0 : decode cL_setEnd 0 = .ok (.aload_n 2, 1) := by decide +kernel
theorem dL_setEnd_1 : decode cL_setEnd 1 = .ok (.iconst 0, 1) := by decide +kernel
theorem dL_setEnd_2 : decode cL_setEnd 2 = .ok (.aload_n 0, 1) := by decide +kernel
theorem dL_setEnd_3 : decode cL_setEnd 3 = .ok (.iload_n 1, 1) := by decide +kernel
theorem dL_setEnd_4 : decode cL_setEnd 4 = .ok (.invokevirtual 33, 3) := by decide +kernel
theorem dL_setEnd_7 : decode cL_setEnd 7 = .ok (.i2l, 1) := by decide +kernel
theorem dL_setEnd_8 : decode cL_setEnd 8 = .ok (.lastore, 1) := by decide +kernel
theorem dL_setEnd_9 : decode cL_setEnd 9 = .ok (.goto 9, 3) := by decide +kernel
theorem dL_setEnd_12 : decode cL_setEnd 12 = .ok (.astore_n 3, 1) := by decide +kernel
theorem dL_setEnd_13 : decode cL_setEnd 13 = .ok (.iconst 1, 1) := by decide +kernel
theorem dL_setEnd_14 : decode cL_setEnd 14 = .ok (.ireturn, 1) := by decide +kernel
theorem dL_setEnd_15 : decode cL_setEnd 15 = .ok (.astore_n 3, 1) := by decide +kernel
theorem dL_setEnd_16 : decode cL_setEnd 16 = .ok (.iconst 2, 1) := by decide +kernel
theorem dL_setEnd_17 : decode cL_setEnd 17 = .ok (.ireturn, 1) := by decide +kernel
theorem dL_setEnd_18 : decode cL_setEnd 18 = .ok (.iconst 0, 1) := by decide +kernel
theorem dL_setEnd_19 : decode cL_setEnd 19 = .ok (.ireturn, 1) := by decide +kernel
theorem dL_haul_0 : decode cL_haul 0 = .ok (.aload_n 3, 1) := by decide +kernel
theorem dL_haul_1 : decode cL_haul 1 = .ok (.iconst 0, 1) := by decide +kernel
theorem dL_haul_2 : decode cL_haul 2 = .ok (.aload_n 0, 1) := by decide +kernel
theorem dL_haul_3 : decode cL_haul 3 = .ok (.iload_n 1, 1) := by decide +kernel
theorem dL_haul_4 : decode cL_haul 4 = .ok (.iload_n 2, 1) := by decide +kernel
theorem dL_haul_5 : decode cL_haul 5 = .ok (.invokevirtual 36, 3) := by decide +kernel
theorem dL_haul_8 : decode cL_haul 8 = .ok (.i2l, 1) := by decide +kernel
theorem dL_haul_9 : decode cL_haul 9 = .ok (.lastore, 1) := by decide +kernel
theorem dL_haul_10 : decode cL_haul 10 = .ok (.goto 7, 3) := by decide +kernel
theorem dL_haul_13 : decode cL_haul 13 = .ok (.astore 4, 2) := by decide +kernel
theorem dL_haul_15 : decode cL_haul 15 = .ok (.iconst 1, 1) := by decide +kernel
theorem dL_haul_16 : decode cL_haul 16 = .ok (.ireturn, 1) := by decide +kernel
theorem dL_haul_17 : decode cL_haul 17 = .ok (.iconst 0, 1) := by decide +kernel
theorem dL_haul_18 : decode cL_haul 18 = .ok (.ireturn, 1) := by decide +kernel
theorem dL_letOut_0 : decode cL_letOut 0 = .ok (.aload_n 3, 1) := by decide +kernel
theorem dL_letOut_1 : decode cL_letOut 1 = .ok (.iconst 0, 1) := by decide +kernel
theorem dL_letOut_2 : decode cL_letOut 2 = .ok (.aload_n 0, 1) := by decide +kernel
theorem dL_letOut_3 : decode cL_letOut 3 = .ok (.iload_n 1, 1) := by decide +kernel
theorem dL_letOut_4 : decode cL_letOut 4 = .ok (.iload_n 2, 1) := by decide +kernel
theorem dL_letOut_5 : decode cL_letOut 5 = .ok (.invokevirtual 39, 3) := by decide +kernel
theorem dL_letOut_8 : decode cL_letOut 8 = .ok (.i2l, 1) := by decide +kernel
theorem dL_letOut_9 : decode cL_letOut 9 = .ok (.lastore, 1) := by decide +kernel
theorem dL_letOut_10 : decode cL_letOut 10 = .ok (.goto 7, 3) := by decide +kernel
theorem dL_letOut_13 : decode cL_letOut 13 = .ok (.astore 4, 2) := by decide +kernel
theorem dL_letOut_15 : decode cL_letOut 15 = .ok (.iconst 1, 1) := by decide +kernel
theorem dL_letOut_16 : decode cL_letOut 16 = .ok (.ireturn, 1) := by decide +kernel
theorem dL_letOut_17 : decode cL_letOut 17 = .ok (.iconst 0, 1) := by decide +kernel
theorem dL_letOut_18 : decode cL_letOut 18 = .ok (.ireturn, 1) := by decide +kernel
theorem dL_block_0 : decode cL_block 0 = .ok (.aload_n 3, 1) := by decide +kernel
theorem dL_block_1 : decode cL_block 1 = .ok (.iconst 0, 1) := by decide +kernel
theorem dL_block_2 : decode cL_block 2 = .ok (.aload_n 0, 1) := by decide +kernel
theorem dL_block_3 : decode cL_block 3 = .ok (.iload_n 1, 1) := by decide +kernel
theorem dL_block_4 : decode cL_block 4 = .ok (.iload_n 2, 1) := by decide +kernel
theorem dL_block_5 : decode cL_block 5 = .ok (.invokevirtual 42, 3) := by decide +kernel
theorem dL_block_8 : decode cL_block 8 = .ok (.i2l, 1) := by decide +kernel
theorem dL_block_9 : decode cL_block 9 = .ok (.lastore, 1) := by decide +kernel
theorem dL_block_10 : decode cL_block 10 = .ok (.goto 11, 3) := by decide +kernel
theorem dL_block_13 : decode cL_block 13 = .ok (.astore 4, 2) := by decide +kernel
theorem dL_block_15 : decode cL_block 15 = .ok (.iconst 1, 1) := by decide +kernel
theorem dL_block_16 : decode cL_block 16 = .ok (.ireturn, 1) := by decide +kernel
theorem dL_block_17 : decode cL_block 17 = .ok (.astore 4, 2) := by decide +kernel
theorem dL_block_19 : decode cL_block 19 = .ok (.iconst 2, 1) := by decide +kernel
theorem dL_block_20 : decode cL_block 20 = .ok (.ireturn, 1) := by decide +kernel
theorem dL_block_21 : decode cL_block 21 = .ok (.iconst 0, 1) := by decide +kernel
theorem dL_block_22 : decode cL_block 22 = .ok (.ireturn, 1) := by decide +kernel
theorem dL_pulley_0 : decode cL_pulley 0 = .ok (.aload_n 2, 1) := by decide +kernel
theorem dL_pulley_1 : decode cL_pulley 1 = .ok (.iconst 0, 1) := by decide +kernel
theorem dL_pulley_2 : decode cL_pulley 2 = .ok (.aload_n 0, 1) := by decide +kernel
theorem dL_pulley_3 : decode cL_pulley 3 = .ok (.iload_n 1, 1) := by decide +kernel
theorem dL_pulley_4 : decode cL_pulley 4 = .ok (.invokevirtual 45, 3) := by decide +kernel
theorem dL_pulley_7 : decode cL_pulley 7 = .ok (.i2l, 1) := by decide +kernel
theorem dL_pulley_8 : decode cL_pulley 8 = .ok (.lastore, 1) := by decide +kernel
theorem dL_pulley_9 : decode cL_pulley 9 = .ok (.goto 6, 3) := by decide +kernel
theorem dL_pulley_12 : decode cL_pulley 12 = .ok (.astore_n 3, 1) := by decide +kernel
theorem dL_pulley_13 : decode cL_pulley 13 = .ok (.iconst 1, 1) := by decide +kernel
theorem dL_pulley_14 : decode cL_pulley 14 = .ok (.ireturn, 1) := by decide +kernel
theorem dL_pulley_15 : decode cL_pulley 15 = .ok (.iconst 0, 1) := by decide +kernel
theorem dL_pulley_16 : decode cL_pulley 16 = .ok (.ireturn, 1) := by decide +kernel
theorem dL_force_0 : decode cL_force 0 = .ok (.aload 4, 2) := by decide +kernel
theorem dL_force_2 : decode cL_force 2 = .ok (.iconst 0, 1) := by decide +kernel
theorem dL_force_3 : decode cL_force 3 = .ok (.aload_n 0, 1) := by decide +kernel
theorem dL_force_4 : decode cL_force 4 = .ok (.iload_n 1, 1) := by decide +kernel
theorem dL_force_5 : decode cL_force 5 = .ok (.iload_n 2, 1) := by decide +kernel
theorem dL_force_6 : decode cL_force 6 = .ok (.iload_n 3, 1) := by decide +kernel
theorem dL_force_7 : decode cL_force 7 = .ok (.invokevirtual 48, 3) := by decide +kernel
theorem dL_force_10 : decode cL_force 10 = .ok (.lastore, 1) := by decide +kernel
theorem dL_force_11 : decode cL_force 11 = .ok (.goto 7, 3) := by decide +kernel
theorem dL_force_14 : decode cL_force 14 = .ok (.astore 5, 2) := by decide +kernel
theorem dL_force_16 : decode cL_force 16 = .ok (.iconst 1, 1) := by decide +kernel
theorem dL_force_17 : decode cL_force 17 = .ok (.ireturn, 1) := by decide +kernel
theorem dL_force_18 : decode cL_force 18 = .ok (.iconst 0, 1) := by decide +kernel
theorem dL_force_19 : decode cL_force 19 = .ok (.ireturn, 1) := by decide +kernel
theorem dL_pull_0 : decode cL_pull 0 = .ok (.aload 4, 2) := by decide +kernel
theorem dL_pull_2 : decode cL_pull 2 = .ok (.iconst 0, 1) := by decide +kernel
theorem dL_pull_3 : decode cL_pull 3 = .ok (.aload_n 0, 1) := by decide +kernel
theorem dL_pull_4 : decode cL_pull 4 = .ok (.iload_n 1, 1) := by decide +kernel
theorem dL_pull_5 : decode cL_pull 5 = .ok (.iload_n 2, 1) := by decide +kernel
theorem dL_pull_6 : decode cL_pull 6 = .ok (.iload_n 3, 1) := by decide +kernel
theorem dL_pull_7 : decode cL_pull 7 = .ok (.invokevirtual 52, 3) := by decide +kernel
theorem dL_pull_10 : decode cL_pull 10 = .ok (.lastore, 1) := by decide +kernel
theorem dL_pull_11 : decode cL_pull 11 = .ok (.goto 11, 3) := by decide +kernel
theorem dL_pull_14 : decode cL_pull 14 = .ok (.astore 5, 2) := by decide +kernel
theorem dL_pull_16 : decode cL_pull 16 = .ok (.iconst 1, 1) := by decide +kernel
theorem dL_pull_17 : decode cL_pull 17 = .ok (.ireturn, 1) := by decide +kernel
theorem dL_pull_18 : decode cL_pull 18 = .ok (.astore 5, 2) := by decide +kernel
theorem dL_pull_20 : decode cL_pull 20 = .ok (.iconst 2, 1) := by decide +kernel
theorem dL_pull_21 : decode cL_pull 21 = .ok (.ireturn, 1) := by decide +kernel
theorem dL_pull_22 : decode cL_pull 22 = .ok (.iconst 0, 1) := by decide +kernel
theorem dL_pull_23 : decode cL_pull 23 = .ok (.ireturn, 1) := by decide +kernel
theorem dL_value_0 : decode cL_value 0 = .ok (.aload_n 2, 1) := by decide +kernel
theorem dL_value_1 : decode cL_value 1 = .ok (.iconst 0, 1) := by decide +kernel
theorem dL_value_2 : decode cL_value 2 = .ok (.aload_n 0, 1) := by decide +kernel
theorem dL_value_3 : decode cL_value 3 = .ok (.iload_n 1, 1) := by decide +kernel
theorem dL_value_4 : decode cL_value 4 = .ok (.invokevirtual 55, 3) := by decide +kernel
theorem dL_value_7 : decode cL_value 7 = .ok (.i2l, 1) := by decide +kernel
theorem dL_value_8 : decode cL_value 8 = .ok (.lastore, 1) := by decide +kernel
theorem dL_value_9 : decode cL_value 9 = .ok (.goto 6, 3) := by decide +kernel
theorem dL_value_12 : decode cL_value 12 = .ok (.astore_n 3, 1) := by decide +kernel
theorem dL_value_13 : decode cL_value 13 = .ok (.iconst 1, 1) := by decide +kernel
theorem dL_value_14 : decode cL_value 14 = .ok (.ireturn, 1) := by decide +kernel
theorem dL_value_15 : decode cL_value 15 = .ok (.iconst 0, 1) := by decide +kernel
theorem dL_value_16 : decode cL_value 16 = .ok (.ireturn, 1) := by decide +kernel
theorem dL_entry_0 : decode cL_entry 0 = .ok (.aload_n 3, 1) := by decide +kernel
theorem dL_entry_1 : decode cL_entry 1 = .ok (.iconst 0, 1) := by decide +kernel
theorem dL_entry_2 : decode cL_entry 2 = .ok (.aload_n 0, 1) := by decide +kernel
theorem dL_entry_3 : decode cL_entry 3 = .ok (.iload_n 1, 1) := by decide +kernel
theorem dL_entry_4 : decode cL_entry 4 = .ok (.iload_n 2, 1) := by decide +kernel
theorem dL_entry_5 : decode cL_entry 5 = .ok (.invokevirtual 58, 3) := by decide +kernel
theorem dL_entry_8 : decode cL_entry 8 = .ok (.i2l, 1) := by decide +kernel
theorem dL_entry_9 : decode cL_entry 9 = .ok (.lastore, 1) := by decide +kernel
theorem dL_entry_10 : decode cL_entry 10 = .ok (.goto 11, 3) := by decide +kernel
theorem dL_entry_13 : decode cL_entry 13 = .ok (.astore 4, 2) := by decide +kernel
theorem dL_entry_15 : decode cL_entry 15 = .ok (.iconst 1, 1) := by decide +kernel
theorem dL_entry_16 : decode cL_entry 16 = .ok (.ireturn, 1) := by decide +kernel
theorem dL_entry_17 : decode cL_entry 17 = .ok (.astore 4, 2) := by decide +kernel
theorem dL_entry_19 : decode cL_entry 19 = .ok (.iconst 2, 1) := by decide +kernel
theorem dL_entry_20 : decode cL_entry 20 = .ok (.ireturn, 1) := by decide +kernel
theorem dL_entry_21 : decode cL_entry 21 = .ok (.iconst 0, 1) := by decide +kernel
theorem dL_entry_22 : decode cL_entry 22 = .ok (.ireturn, 1) := by decide +kernel
theorem dL_pulleysFor_0 : decode cL_pulleysFor 0 = .ok (.aload_n 3, 1) := by decide +kernel
theorem dL_pulleysFor_1 : decode cL_pulleysFor 1 = .ok (.iconst 0, 1) := by decide +kernel
theorem dL_pulleysFor_2 : decode cL_pulleysFor 2 = .ok (.aload_n 0, 1) := by decide +kernel
theorem dL_pulleysFor_3 : decode cL_pulleysFor 3 = .ok (.iload_n 1, 1) := by decide +kernel
theorem dL_pulleysFor_4 : decode cL_pulleysFor 4 = .ok (.iload_n 2, 1) := by decide +kernel
theorem dL_pulleysFor_5 : decode cL_pulleysFor 5 = .ok (.invokevirtual 61, 3) := by decide +kernel
theorem dL_pulleysFor_8 : decode cL_pulleysFor 8 = .ok (.i2l, 1) := by decide +kernel
theorem dL_pulleysFor_9 : decode cL_pulleysFor 9 = .ok (.lastore, 1) := by decide +kernel
theorem dL_pulleysFor_10 : decode cL_pulleysFor 10 = .ok (.goto 11, 3) := by decide +kernel
theorem dL_pulleysFor_13 : decode cL_pulleysFor 13 = .ok (.astore 4, 2) := by decide +kernel
theorem dL_pulleysFor_15 : decode cL_pulleysFor 15 = .ok (.iconst 1, 1) := by decide +kernel
theorem dL_pulleysFor_16 : decode cL_pulleysFor 16 = .ok (.ireturn, 1) := by decide +kernel
theorem dL_pulleysFor_17 : decode cL_pulleysFor 17 = .ok (.astore 4, 2) := by decide +kernel
theorem dL_pulleysFor_19 : decode cL_pulleysFor 19 = .ok (.iconst 2, 1) := by decide +kernel
theorem dL_pulleysFor_20 : decode cL_pulleysFor 20 = .ok (.ireturn, 1) := by decide +kernel
theorem dL_pulleysFor_21 : decode cL_pulleysFor 21 = .ok (.iconst 0, 1) := by decide +kernel
theorem dL_pulleysFor_22 : decode cL_pulleysFor 22 = .ok (.ireturn, 1) := by decide +kernel
theorem dL_bestEnd_0 : decode cL_bestEnd 0 = .ok (.aload_n 2, 1) := by decide +kernel
theorem dL_bestEnd_1 : decode cL_bestEnd 1 = .ok (.iconst 0, 1) := by decide +kernel
theorem dL_bestEnd_2 : decode cL_bestEnd 2 = .ok (.aload_n 0, 1) := by decide +kernel
theorem dL_bestEnd_3 : decode cL_bestEnd 3 = .ok (.iload_n 1, 1) := by decide +kernel
theorem dL_bestEnd_4 : decode cL_bestEnd 4 = .ok (.invokevirtual 64, 3) := by decide +kernel
theorem dL_bestEnd_7 : decode cL_bestEnd 7 = .ok (.i2l, 1) := by decide +kernel
theorem dL_bestEnd_8 : decode cL_bestEnd 8 = .ok (.lastore, 1) := by decide +kernel
theorem dL_bestEnd_9 : decode cL_bestEnd 9 = .ok (.goto 6, 3) := by decide +kernel
theorem dL_bestEnd_12 : decode cL_bestEnd 12 = .ok (.astore_n 3, 1) := by decide +kernel
theorem dL_bestEnd_13 : decode cL_bestEnd 13 = .ok (.iconst 1, 1) := by decide +kernel
theorem dL_bestEnd_14 : decode cL_bestEnd 14 = .ok (.ireturn, 1) := by decide +kernel
theorem dL_bestEnd_15 : decode cL_bestEnd 15 = .ok (.iconst 0, 1) := by decide +kernel
theorem dL_bestEnd_16 : decode cL_bestEnd 16 = .ok (.ireturn, 1) := by decide +kernel
theorem dL_swapped_0 : decode cL_swapped 0 = .ok (.aload 4, 2) := by decide +kernel
theorem dL_swapped_2 : decode cL_swapped 2 = .ok (.iconst 0, 1) := by decide +kernel
theorem dL_swapped_3 : decode cL_swapped 3 = .ok (.aload_n 0, 1) := by decide +kernel
theorem dL_swapped_4 : decode cL_swapped 4 = .ok (.iload_n 1, 1) := by decide +kernel
theorem dL_swapped_5 : decode cL_swapped 5 = .ok (.iload_n 2, 1) := by decide +kernel
theorem dL_swapped_6 : decode cL_swapped 6 = .ok (.iload_n 3, 1) := by decide +kernel
theorem dL_swapped_7 : decode cL_swapped 7 = .ok (.invokevirtual 67, 3) := by decide +kernel
theorem dL_swapped_10 : decode cL_swapped 10 = .ok (.i2l, 1) := by decide +kernel
theorem dL_swapped_11 : decode cL_swapped 11 = .ok (.lastore, 1) := by decide +kernel
theorem dL_swapped_12 : decode cL_swapped 12 = .ok (.goto 7, 3) := by decide +kernel
theorem dL_swapped_15 : decode cL_swapped 15 = .ok (.astore 5, 2) := by decide +kernel
theorem dL_swapped_17 : decode cL_swapped 17 = .ok (.iconst 1, 1) := by decide +kernel
theorem dL_swapped_18 : decode cL_swapped 18 = .ok (.ireturn, 1) := by decide +kernel
theorem dL_swapped_19 : decode cL_swapped 19 = .ok (.iconst 0, 1) := by decide +kernel
theorem dL_swapped_20 : decode cL_swapped 20 = .ok (.ireturn, 1) := by decide +kernel
theorem dL_riseBy_0 : decode cL_riseBy 0 = .ok (.aload 4, 2) := by decide +kernel
theorem dL_riseBy_2 : decode cL_riseBy 2 = .ok (.iconst 0, 1) := by decide +kernel
theorem dL_riseBy_3 : decode cL_riseBy 3 = .ok (.aload_n 0, 1) := by decide +kernel
theorem dL_riseBy_4 : decode cL_riseBy 4 = .ok (.iload_n 1, 1) := by decide +kernel
theorem dL_riseBy_5 : decode cL_riseBy 5 = .ok (.iload_n 2, 1) := by decide +kernel
theorem dL_riseBy_6 : decode cL_riseBy 6 = .ok (.iload_n 3, 1) := by decide +kernel
theorem dL_riseBy_7 : decode cL_riseBy 7 = .ok (.invokevirtual 71, 3) := by decide +kernel
theorem dL_riseBy_10 : decode cL_riseBy 10 = .ok (.i2l, 1) := by decide +kernel
theorem dL_riseBy_11 : decode cL_riseBy 11 = .ok (.lastore, 1) := by decide +kernel
theorem dL_riseBy_12 : decode cL_riseBy 12 = .ok (.goto 11, 3) := by decide +kernel
theorem dL_riseBy_15 : decode cL_riseBy 15 = .ok (.astore 5, 2) := by decide +kernel
theorem dL_riseBy_17 : decode cL_riseBy 17 = .ok (.iconst 1, 1) := by decide +kernel
theorem dL_riseBy_18 : decode cL_riseBy 18 = .ok (.ireturn, 1) := by decide +kernel
theorem dL_riseBy_19 : decode cL_riseBy 19 = .ok (.astore 5, 2) := by decide +kernel
theorem dL_riseBy_21 : decode cL_riseBy 21 = .ok (.iconst 2, 1) := by decide +kernel
theorem dL_riseBy_22 : decode cL_riseBy 22 = .ok (.ireturn, 1) := by decide +kernel
theorem dL_riseBy_23 : decode cL_riseBy 23 = .ok (.iconst 0, 1) := by decide +kernel
theorem dL_riseBy_24 : decode cL_riseBy 24 = .ok (.ireturn, 1) := by decide +kernel
theorem dL_append_0 : decode cL_append 0 = .ok (.aload_n 2, 1) := by decide +kernel
theorem dL_append_1 : decode cL_append 1 = .ok (.iconst 0, 1) := by decide +kernel
theorem dL_append_2 : decode cL_append 2 = .ok (.aload_n 0, 1) := by decide +kernel
theorem dL_append_3 : decode cL_append 3 = .ok (.iload_n 1, 1) := by decide +kernel
theorem dL_append_4 : decode cL_append 4 = .ok (.invokevirtual 74, 3) := by decide +kernel
theorem dL_append_7 : decode cL_append 7 = .ok (.i2l, 1) := by decide +kernel
theorem dL_append_8 : decode cL_append 8 = .ok (.lastore, 1) := by decide +kernel
theorem dL_append_9 : decode cL_append 9 = .ok (.goto 9, 3) := by decide +kernel
theorem dL_append_12 : decode cL_append 12 = .ok (.astore_n 3, 1) := by decide +kernel
theorem dL_append_13 : decode cL_append 13 = .ok (.iconst 1, 1) := by decide +kernel
theorem dL_append_14 : decode cL_append 14 = .ok (.ireturn, 1) := by decide +kernel
theorem dL_append_15 : decode cL_append 15 = .ok (.astore_n 3, 1) := by decide +kernel
theorem dL_append_16 : decode cL_append 16 = .ok (.iconst 2, 1) := by decide +kernel
theorem dL_append_17 : decode cL_append 17 = .ok (.ireturn, 1) := by decide +kernel
theorem dL_append_18 : decode cL_append 18 = .ok (.iconst 0, 1) := by decide +kernel
theorem dL_append_19 : decode cL_append 19 = .ok (.ireturn, 1) := by decide +kernel
theorem dL_undo_0 : decode cL_undo 0 = .ok (.aload_n 1, 1) := by decide +kernel
theorem dL_undo_1 : decode cL_undo 1 = .ok (.iconst 0, 1) := by decide +kernel
theorem dL_undo_2 : decode cL_undo 2 = .ok (.aload_n 0, 1) := by decide +kernel
theorem dL_undo_3 : decode cL_undo 3 = .ok (.invokevirtual 77, 3) := by decide +kernel
theorem dL_undo_6 : decode cL_undo 6 = .ok (.i2l, 1) := by decide +kernel
theorem dL_undo_7 : decode cL_undo 7 = .ok (.lastore, 1) := by decide +kernel
theorem dL_undo_8 : decode cL_undo 8 = .ok (.goto 6, 3) := by decide +kernel
theorem dL_undo_11 : decode cL_undo 11 = .ok (.astore_n 2, 1) := by decide +kernel
theorem dL_undo_12 : decode cL_undo 12 = .ok (.iconst 1, 1) := by decide +kernel
theorem dL_undo_13 : decode cL_undo 13 = .ok (.ireturn, 1) := by decide +kernel
theorem dL_undo_14 : decode cL_undo 14 = .ok (.iconst 0, 1) := by decide +kernel
theorem dL_undo_15 : decode cL_undo 15 = .ok (.ireturn, 1) := by decide +kernel
end
section
theorem dX5_init_0 : decode cX5_init 0 = .ok (.aload_n 0, 1) := by decide +kernel
theorem dX5_init_1 : decode cX5_init 1 = .ok (.invokespecial 1, 3) := by decide +kernel
theorem dX5_init_4 : decode cX5_init 4 = .ok (.aload_n 0, 1) := by decide +kernel
theorem dX5_init_5 : decode cX5_init 5 = .ok (.bipush 75, 2) := by decide +kernel
theorem dX5_init_7 : decode cX5_init 7 = .ok (.newarray .long, 2) := by decide +kernel
theorem dX5_init_9 : decode cX5_init 9 = .ok (.putfield 7, 3) := by decide +kernel
theorem dX5_init_12 : decode cX5_init 12 = .ok (.aload_n 0, 1) := by decide +kernel
theorem dX5_init_13 : decode cX5_init 13 = .ok (.sipush 300, 3) := by decide +kernel
theorem dX5_init_16 : decode cX5_init 16 = .ok (.newarray .long, 2) := by decide +kernel
theorem dX5_init_18 : decode cX5_init 18 = .ok (.putfield 13, 3) := by decide +kernel
theorem dX5_init_21 : decode cX5_init 21 = .ok (.aload_n 0, 1) := by decide +kernel
theorem dX5_init_22 : decode cX5_init 22 = .ok (.bipush 75, 2) := by decide +kernel
theorem dX5_init_24 : decode cX5_init 24 = .ok (.newarray .long, 2) := by decide +kernel
theorem dX5_init_26 : decode cX5_init 26 = .ok (.putfield 16, 3) := by decide +kernel
theorem dX5_init_29 : decode cX5_init 29 = .ok (.aload_n 0, 1) := by decide +kernel
theorem dX5_init_30 : decode cX5_init 30 = .ok (.bipush 60, 2) := by decide +kernel
theorem dX5_init_32 : decode cX5_init 32 = .ok (.newarray .int, 2) := by decide +kernel
theorem dX5_init_34 : decode cX5_init 34 = .ok (.putfield 19, 3) := by decide +kernel
theorem dX5_init_37 : decode cX5_init 37 = .ok (.aload_n 0, 1) := by decide +kernel
theorem dX5_init_38 : decode cX5_init 38 = .ok (.bipush 10, 2) := by decide +kernel
theorem dX5_init_40 : decode cX5_init 40 = .ok (.newarray .int, 2) := by decide +kernel
theorem dX5_init_42 : decode cX5_init 42 = .ok (.putfield 23, 3) := by decide +kernel
theorem dX5_init_45 : decode cX5_init 45 = .ok (.aload_n 0, 1) := by decide +kernel
theorem dX5_init_46 : decode cX5_init 46 = .ok (.iconst 4, 1) := by decide +kernel
theorem dX5_init_47 : decode cX5_init 47 = .ok (.newarray .int, 2) := by decide +kernel
theorem dX5_init_49 : decode cX5_init 49 = .ok (.putfield 26, 3) := by decide +kernel
theorem dX5_init_52 : decode cX5_init 52 = .ok (.aload_n 0, 1) := by decide +kernel
theorem dX5_init_53 : decode cX5_init 53 = .ok (.getfield 7, 3) := by decide +kernel
theorem dX5_init_56 : decode cX5_init 56 = .ok (.iconst 0, 1) := by decide +kernel
theorem dX5_init_57 : decode cX5_init 57 = .ok (.ldc2_w 29, 3) := by decide +kernel
theorem dX5_init_60 : decode cX5_init 60 = .ok (.lastore, 1) := by decide +kernel
theorem dX5_init_61 : decode cX5_init 61 = .ok (.aload_n 0, 1) := by decide +kernel
theorem dX5_init_62 : decode cX5_init 62 = .ok (.getfield 7, 3) := by decide +kernel
theorem dX5_init_65 : decode cX5_init 65 = .ok (.iconst 1, 1) := by decide +kernel
theorem dX5_init_66 : decode cX5_init 66 = .ok (.ldc2_w 31, 3) := by decide +kernel
theorem dX5_init_69 : decode cX5_init 69 = .ok (.lastore, 1) := by decide +kernel
theorem dX5_init_70 : decode cX5_init 70 = .ok (.aload_n 0, 1) := by decide +kernel
theorem dX5_init_71 : decode cX5_init 71 = .ok (.getfield 7, 3) := by decide +kernel
theorem dX5_init_74 : decode cX5_init 74 = .ok (.iconst 2, 1) := by decide +kernel
theorem dX5_init_75 : decode cX5_init 75 = .ok (.lconst 1, 1) := by decide +kernel
theorem dX5_init_76 : decode cX5_init 76 = .ok (.lastore, 1) := by decide +kernel
theorem dX5_init_77 : decode cX5_init 77 = .ok (.aload_n 0, 1) := by decide +kernel
theorem dX5_init_78 : decode cX5_init 78 = .ok (.getfield 7, 3) := by decide +kernel
theorem dX5_init_81 : decode cX5_init 81 = .ok (.iconst 3, 1) := by decide +kernel
theorem dX5_init_82 : decode cX5_init 82 = .ok (.ldc2_w 33, 3) := by decide +kernel
theorem dX5_init_85 : decode cX5_init 85 = .ok (.lastore, 1) := by decide +kernel
theorem dX5_init_86 : decode cX5_init 86 = .ok (.iconst 0, 1) := by decide +kernel
theorem dX5_init_87 : decode cX5_init 87 = .ok (.istore_n 1, 1) := by decide +kernel
theorem dX5_init_88 : decode cX5_init 88 = .ok (.iload_n 1, 1) := by decide +kernel
theorem dX5_init_89 : decode cX5_init 89 = .ok (.iconst 4, 1) := by decide +kernel
theorem dX5_init_90 : decode cX5_init 90 = .ok (.if_icmp .ge 21, 3) := by decide +kernel
theorem dX5_init_93 : decode cX5_init 93 = .ok (.aload_n 0, 1) := by decide +kernel
theorem dX5_init_94 : decode cX5_init 94 = .ok (.getfield 7, 3) := by decide +kernel
theorem dX5_init_97 : decode cX5_init 97 = .ok (.bipush 9, 2) := by decide +kernel
theorem dX5_init_99 : decode cX5_init 99 = .ok (.iload_n 1, 1) := by decide +kernel
theorem dX5_init_100 : decode cX5_init 100 = .ok (.iadd, 1) := by decide +kernel
theorem dX5_init_101 : decode cX5_init 101 = .ok (.ldc2_w 35, 3) := by decide +kernel
theorem dX5_init_104 : decode cX5_init 104 = .ok (.lastore, 1) := by decide +kernel
theorem dX5_init_105 : decode cX5_init 105 = .ok (.iinc 1 1, 3) := by decide +kernel
theorem dX5_init_108 : decode cX5_init 108 = .ok (.goto (-20), 3) := by decide +kernel
theorem dX5_init_111 : decode cX5_init 111 = .ok (.return_, 1) := by decide +kernel
theorem dX5_thrown_0 : decode cX5_thrown 0 = .ok (.aload_n 0, 1) := by decide +kernel
theorem dX5_thrown_1 : decode cX5_thrown 1 = .ok (.getfield 37, 3) := by decide +kernel
theorem dX5_thrown_4 : decode cX5_thrown 4 = .ok (.ireturn, 1) := by decide +kernel
theorem dX5_in_0 : decode cX5_in 0 = .ok (.lload_n 0, 1) := by decide +kernel
theorem dX5_in_1 : decode cX5_in 1 = .ok (.lload_n 2, 1) := by decide +kernel
theorem dX5_in_2 : decode cX5_in 2 = .ok (.lcmp, 1) := by decide +kernel
theorem dX5_in_3 : decode cX5_in 3 = .ok (.ifCond .lt 14, 3) := by decide +kernel
theorem dX5_in_6 : decode cX5_in 6 = .ok (.lload_n 0, 1) := by decide +kernel
theorem dX5_in_7 : decode cX5_in 7 = .ok (.lload 4, 2) := by decide +kernel
theorem dX5_in_9 : decode cX5_in 9 = .ok (.lcmp, 1) := by decide +kernel
theorem dX5_in_10 : decode cX5_in 10 = .ok (.ifCond .gt 7, 3) := by decide +kernel
theorem dX5_in_13 : decode cX5_in 13 = .ok (.iconst 1, 1) := by decide +kernel
theorem dX5_in_14 : decode cX5_in 14 = .ok (.goto 4, 3) := by decide +kernel
theorem dX5_in_17 : decode cX5_in 17 = .ok (.iconst 0, 1) := by decide +kernel
theorem dX5_in_18 : decode cX5_in 18 = .ok (.ireturn, 1) := by decide +kernel
theorem dX5_fails_0 : decode cX5_fails 0 = .ok (.aload_n 0, 1) := by decide +kernel
theorem dX5_fails_1 : decode cX5_fails 1 = .ok (.iload_n 1, 1) := by decide +kernel
theorem dX5_fails_2 : decode cX5_fails 2 = .ok (.putfield 37, 3) := by decide +kernel
theorem dX5_fails_5 : decode cX5_fails 5 = .ok (.iconst 0, 1) := by decide +kernel
theorem dX5_fails_6 : decode cX5_fails 6 = .ok (.ireturn, 1) := by decide +kernel
theorem dX5_tells_0 : decode cX5_tells 0 = .ok (.aload_n 0, 1) := by decide +kernel
theorem dX5_tells_1 : decode cX5_tells 1 = .ok (.iconst 0, 1) := by decide +kernel
theorem dX5_tells_2 : decode cX5_tells 2 = .ok (.putfield 37, 3) := by decide +kernel
theorem dX5_tells_5 : decode cX5_tells 5 = .ok (.iload_n 1, 1) := by decide +kernel
theorem dX5_tells_6 : decode cX5_tells 6 = .ok (.ireturn, 1) := by decide +kernel
theorem dX5_isBlock_0 : decode cX5_isBlock 0 = .ok (.iload_n 0, 1) := by decide +kernel
theorem dX5_isBlock_1 : decode cX5_isBlock 1 = .ok (.i2l, 1) := by decide +kernel
theorem dX5_isBlock_2 : decode cX5_isBlock 2 = .ok (.lconst 0, 1) := by decide +kernel
theorem dX5_isBlock_3 : decode cX5_isBlock 3 = .ok (.ldc2_w 41, 3) := by decide +kernel
theorem dX5_isBlock_6 : decode cX5_isBlock 6 = .ok (.invokestatic 43, 3) := by decide +kernel
theorem dX5_isBlock_9 : decode cX5_isBlock 9 = .ok (.ireturn, 1) := by decide +kernel
theorem dX5_isForce_0 : decode cX5_isForce 0 = .ok (.iload_n 0, 1) := by decide +kernel
theorem dX5_isForce_1 : decode cX5_isForce 1 = .ok (.i2l, 1) := by decide +kernel
theorem dX5_isForce_2 : decode cX5_isForce 2 = .ok (.lconst 0, 1) := by decide +kernel
theorem dX5_isForce_3 : decode cX5_isForce 3 = .ok (.ldc2_w 47, 3) := by decide +kernel
theorem dX5_isForce_6 : decode cX5_isForce 6 = .ok (.invokestatic 43, 3) := by decide +kernel
theorem dX5_isForce_9 : decode cX5_isForce 9 = .ok (.ireturn, 1) := by decide +kernel
theorem dX5_saves_0 : decode cX5_saves 0 = .ok (.aload_n 0, 1) := by decide +kernel
theorem dX5_saves_1 : decode cX5_saves 1 = .ok (.getfield 49, 3) := by decide +kernel
theorem dX5_saves_4 : decode cX5_saves 4 = .ok (.iconst 4, 1) := by decide +kernel
theorem dX5_saves_5 : decode cX5_saves 5 = .ok (.if_icmp .ne 43, 3) := by decide +kernel
theorem dX5_saves_8 : decode cX5_saves 8 = .ok (.iconst 0, 1) := by decide +kernel
theorem dX5_saves_9 : decode cX5_saves 9 = .ok (.istore_n 1, 1) := by decide +kernel
theorem dX5_saves_10 : decode cX5_saves 10 = .ok (.iload_n 1, 1) := by decide +kernel
theorem dX5_saves_11 : decode cX5_saves 11 = .ok (.sipush 225, 3) := by decide +kernel
theorem dX5_saves_14 : decode cX5_saves 14 = .ok (.if_icmp .ge 24, 3) := by decide +kernel
theorem dX5_saves_17 : decode cX5_saves 17 = .ok (.aload_n 0, 1) := by decide +kernel
theorem dX5_saves_18 : decode cX5_saves 18 = .ok (.getfield 13, 3) := by decide +kernel
theorem dX5_saves_21 : decode cX5_saves 21 = .ok (.iload_n 1, 1) := by decide +kernel
theorem dX5_saves_22 : decode cX5_saves 22 = .ok (.aload_n 0, 1) := by decide +kernel
theorem dX5_saves_23 : decode cX5_saves 23 = .ok (.getfield 13, 3) := by decide +kernel
theorem dX5_saves_26 : decode cX5_saves 26 = .ok (.iload_n 1, 1) := by decide +kernel
theorem dX5_saves_27 : decode cX5_saves 27 = .ok (.bipush 75, 2) := by decide +kernel
theorem dX5_saves_29 : decode cX5_saves 29 = .ok (.iadd, 1) := by decide +kernel
theorem dX5_saves_30 : decode cX5_saves 30 = .ok (.laload, 1) := by decide +kernel
theorem dX5_saves_31 : decode cX5_saves 31 = .ok (.lastore, 1) := by decide +kernel
theorem dX5_saves_32 : decode cX5_saves 32 = .ok (.iinc 1 1, 3) := by decide +kernel
theorem dX5_saves_35 : decode cX5_saves 35 = .ok (.goto (-25), 3) := by decide +kernel
theorem dX5_saves_38 : decode cX5_saves 38 = .ok (.aload_n 0, 1) := by decide +kernel
theorem dX5_saves_39 : decode cX5_saves 39 = .ok (.dup, 1) := by decide +kernel
theorem dX5_saves_40 : decode cX5_saves 40 = .ok (.getfield 49, 3) := by decide +kernel
theorem dX5_saves_43 : decode cX5_saves 43 = .ok (.iconst 1, 1) := by decide +kernel
theorem dX5_saves_44 : decode cX5_saves 44 = .ok (.isub, 1) := by decide +kernel
theorem dX5_saves_45 : decode cX5_saves 45 = .ok (.putfield 49, 3) := by decide +kernel
theorem dX5_saves_48 : decode cX5_saves 48 = .ok (.iconst 0, 1) := by decide +kernel
theorem dX5_saves_49 : decode cX5_saves 49 = .ok (.istore_n 1, 1) := by decide +kernel
theorem dX5_saves_50 : decode cX5_saves 50 = .ok (.iload_n 1, 1) := by decide +kernel
theorem dX5_saves_51 : decode cX5_saves 51 = .ok (.bipush 75, 2) := by decide +kernel
theorem dX5_saves_53 : decode cX5_saves 53 = .ok (.if_icmp .ge 29, 3) := by decide +kernel
theorem dX5_saves_56 : decode cX5_saves 56 = .ok (.aload_n 0, 1) := by decide +kernel
theorem dX5_saves_57 : decode cX5_saves 57 = .ok (.getfield 13, 3) := by decide +kernel
theorem dX5_saves_60 : decode cX5_saves 60 = .ok (.bipush 75, 2) := by decide +kernel
theorem dX5_saves_62 : decode cX5_saves 62 = .ok (.aload_n 0, 1) := by decide +kernel
theorem dX5_saves_63 : decode cX5_saves 63 = .ok (.getfield 49, 3) := by decide +kernel
theorem dX5_saves_66 : decode cX5_saves 66 = .ok (.imul, 1) := by decide +kernel
theorem dX5_saves_67 : decode cX5_saves 67 = .ok (.iload_n 1, 1) := by decide +kernel
theorem dX5_saves_68 : decode cX5_saves 68 = .ok (.iadd, 1) := by decide +kernel
theorem dX5_saves_69 : decode cX5_saves 69 = .ok (.aload_n 0, 1) := by decide +kernel
theorem dX5_saves_70 : decode cX5_saves 70 = .ok (.getfield 7, 3) := by decide +kernel
theorem dX5_saves_73 : decode cX5_saves 73 = .ok (.iload_n 1, 1) := by decide +kernel
theorem dX5_saves_74 : decode cX5_saves 74 = .ok (.laload, 1) := by decide +kernel
theorem dX5_saves_75 : decode cX5_saves 75 = .ok (.lastore, 1) := by decide +kernel
theorem dX5_saves_76 : decode cX5_saves 76 = .ok (.iinc 1 1, 3) := by decide +kernel
theorem dX5_saves_79 : decode cX5_saves 79 = .ok (.goto (-29), 3) := by decide +kernel
theorem dX5_saves_82 : decode cX5_saves 82 = .ok (.aload_n 0, 1) := by decide +kernel
theorem dX5_saves_83 : decode cX5_saves 83 = .ok (.dup, 1) := by decide +kernel
theorem dX5_saves_84 : decode cX5_saves 84 = .ok (.getfield 49, 3) := by decide +kernel
theorem dX5_saves_87 : decode cX5_saves 87 = .ok (.iconst 1, 1) := by decide +kernel
theorem dX5_saves_88 : decode cX5_saves 88 = .ok (.iadd, 1) := by decide +kernel
theorem dX5_saves_89 : decode cX5_saves 89 = .ok (.putfield 49, 3) := by decide +kernel
theorem dX5_saves_92 : decode cX5_saves 92 = .ok (.return_, 1) := by decide +kernel
theorem dX5_laysAside_0 : decode cX5_laysAside 0 = .ok (.iconst 0, 1) := by decide +kernel
theorem dX5_laysAside_1 : decode cX5_laysAside 1 = .ok (.istore_n 1, 1) := by decide +kernel
theorem dX5_laysAside_2 : decode cX5_laysAside 2 = .ok (.iload_n 1, 1) := by decide +kernel
theorem dX5_laysAside_3 : decode cX5_laysAside 3 = .ok (.bipush 75, 2) := by decide +kernel
theorem dX5_laysAside_5 : decode cX5_laysAside 5 = .ok (.if_icmp .ge 21, 3) := by decide +kernel
theorem dX5_laysAside_8 : decode cX5_laysAside 8 = .ok (.aload_n 0, 1) := by decide +kernel
theorem dX5_laysAside_9 : decode cX5_laysAside 9 = .ok (.getfield 16, 3) := by decide +kernel
theorem dX5_laysAside_12 : decode cX5_laysAside 12 = .ok (.iload_n 1, 1) := by decide +kernel
theorem dX5_laysAside_13 : decode cX5_laysAside 13 = .ok (.aload_n 0, 1) := by decide +kernel
theorem dX5_laysAside_14 : decode cX5_laysAside 14 = .ok (.getfield 7, 3) := by decide +kernel
theorem dX5_laysAside_17 : decode cX5_laysAside 17 = .ok (.iload_n 1, 1) := by decide +kernel
theorem dX5_laysAside_18 : decode cX5_laysAside 18 = .ok (.laload, 1) := by decide +kernel
theorem dX5_laysAside_19 : decode cX5_laysAside 19 = .ok (.lastore, 1) := by decide +kernel
theorem dX5_laysAside_20 : decode cX5_laysAside 20 = .ok (.iinc 1 1, 3) := by decide +kernel
theorem dX5_laysAside_23 : decode cX5_laysAside 23 = .ok (.goto (-21), 3) := by decide +kernel
theorem dX5_laysAside_26 : decode cX5_laysAside 26 = .ok (.return_, 1) := by decide +kernel
theorem dX5_bringsBack_0 : decode cX5_bringsBack 0 = .ok (.iconst 0, 1) := by decide +kernel
theorem dX5_bringsBack_1 : decode cX5_bringsBack 1 = .ok (.istore_n 1, 1) := by decide +kernel
theorem dX5_bringsBack_2 : decode cX5_bringsBack 2 = .ok (.iload_n 1, 1) := by decide +kernel
theorem dX5_bringsBack_3 : decode cX5_bringsBack 3 = .ok (.bipush 75, 2) := by decide +kernel
theorem dX5_bringsBack_5 : decode cX5_bringsBack 5 = .ok (.if_icmp .ge 21, 3) := by decide +kernel
theorem dX5_bringsBack_8 : decode cX5_bringsBack 8 = .ok (.aload_n 0, 1) := by decide +kernel
theorem dX5_bringsBack_9 : decode cX5_bringsBack 9 = .ok (.getfield 7, 3) := by decide +kernel
theorem dX5_bringsBack_12 : decode cX5_bringsBack 12 = .ok (.iload_n 1, 1) := by decide +kernel
theorem dX5_bringsBack_13 : decode cX5_bringsBack 13 = .ok (.aload_n 0, 1) := by decide +kernel
theorem dX5_bringsBack_14 : decode cX5_bringsBack 14 = .ok (.getfield 16, 3) := by decide +kernel
theorem dX5_bringsBack_17 : decode cX5_bringsBack 17 = .ok (.iload_n 1, 1) := by decide +kernel
theorem dX5_bringsBack_18 : decode cX5_bringsBack 18 = .ok (.laload, 1) := by decide +kernel
theorem dX5_bringsBack_19 : decode cX5_bringsBack 19 = .ok (.lastore, 1) := by decide +kernel
theorem dX5_bringsBack_20 : decode cX5_bringsBack 20 = .ok (.iinc 1 1, 3) := by decide +kernel
theorem dX5_bringsBack_23 : decode cX5_bringsBack 23 = .ok (.goto (-21), 3) := by decide +kernel
theorem dX5_bringsBack_26 : decode cX5_bringsBack 26 = .ok (.return_, 1) := by decide +kernel
theorem dX5_pulleysOn_0 : decode cX5_pulleysOn 0 = .ok (.iconst 0, 1) := by decide +kernel
theorem dX5_pulleysOn_1 : decode cX5_pulleysOn 1 = .ok (.istore_n 2, 1) := by decide +kernel
theorem dX5_pulleysOn_2 : decode cX5_pulleysOn 2 = .ok (.iconst 0, 1) := by decide +kernel
theorem dX5_pulleysOn_3 : decode cX5_pulleysOn 3 = .ok (.istore_n 3, 1) := by decide +kernel
theorem dX5_pulleysOn_4 : decode cX5_pulleysOn 4 = .ok (.iload_n 3, 1) := by decide +kernel
theorem dX5_pulleysOn_5 : decode cX5_pulleysOn 5 = .ok (.i2l, 1) := by decide +kernel
theorem dX5_pulleysOn_6 : decode cX5_pulleysOn 6 = .ok (.aload_n 0, 1) := by decide +kernel
theorem dX5_pulleysOn_7 : decode cX5_pulleysOn 7 = .ok (.getfield 7, 3) := by decide +kernel
theorem dX5_pulleysOn_10 : decode cX5_pulleysOn 10 = .ok (.iconst 2, 1) := by decide +kernel
theorem dX5_pulleysOn_11 : decode cX5_pulleysOn 11 = .ok (.laload, 1) := by decide +kernel
theorem dX5_pulleysOn_12 : decode cX5_pulleysOn 12 = .ok (.lcmp, 1) := by decide +kernel
theorem dX5_pulleysOn_13 : decode cX5_pulleysOn 13 = .ok (.ifCond .ge 32, 3) := by decide +kernel
theorem dX5_pulleysOn_16 : decode cX5_pulleysOn 16 = .ok (.iload_n 2, 1) := by decide +kernel
theorem dX5_pulleysOn_17 : decode cX5_pulleysOn 17 = .ok (.aload_n 0, 1) := by decide +kernel
theorem dX5_pulleysOn_18 : decode cX5_pulleysOn 18 = .ok (.getfield 7, 3) := by decide +kernel
theorem dX5_pulleysOn_21 : decode cX5_pulleysOn 21 = .ok (.bipush 17, 2) := by decide +kernel
theorem dX5_pulleysOn_23 : decode cX5_pulleysOn 23 = .ok (.iload_n 3, 1) := by decide +kernel
theorem dX5_pulleysOn_24 : decode cX5_pulleysOn 24 = .ok (.iadd, 1) := by decide +kernel
theorem dX5_pulleysOn_25 : decode cX5_pulleysOn 25 = .ok (.laload, 1) := by decide +kernel
theorem dX5_pulleysOn_26 : decode cX5_pulleysOn 26 = .ok (.iload_n 1, 1) := by decide +kernel
theorem dX5_pulleysOn_27 : decode cX5_pulleysOn 27 = .ok (.i2l, 1) := by decide +kernel
theorem dX5_pulleysOn_28 : decode cX5_pulleysOn 28 = .ok (.lcmp, 1) := by decide +kernel
theorem dX5_pulleysOn_29 : decode cX5_pulleysOn 29 = .ok (.ifCond .ne 7, 3) := by decide +kernel
theorem dX5_pulleysOn_32 : decode cX5_pulleysOn 32 = .ok (.iconst 1, 1) := by decide +kernel
theorem dX5_pulleysOn_33 : decode cX5_pulleysOn 33 = .ok (.goto 4, 3) := by decide +kernel
theorem dX5_pulleysOn_36 : decode cX5_pulleysOn 36 = .ok (.iconst 0, 1) := by decide +kernel
theorem dX5_pulleysOn_37 : decode cX5_pulleysOn 37 = .ok (.iadd, 1) := by decide +kernel
theorem dX5_pulleysOn_38 : decode cX5_pulleysOn 38 = .ok (.istore_n 2, 1) := by decide +kernel
theorem dX5_pulleysOn_39 : decode cX5_pulleysOn 39 = .ok (.iinc 3 1, 3) := by decide +kernel
theorem dX5_pulleysOn_42 : decode cX5_pulleysOn 42 = .ok (.goto (-38), 3) := by decide +kernel
theorem dX5_pulleysOn_45 : decode cX5_pulleysOn 45 = .ok (.iload_n 2, 1) := by decide +kernel
theorem dX5_pulleysOn_46 : decode cX5_pulleysOn 46 = .ok (.ireturn, 1) := by decide +kernel
theorem dX5_strands_0 : decode cX5_strands 0 = .ok (.iconst 2, 1) := by decide +kernel
theorem dX5_strands_1 : decode cX5_strands 1 = .ok (.aload_n 0, 1) := by decide +kernel
theorem dX5_strands_2 : decode cX5_strands 2 = .ok (.iload_n 1, 1) := by decide +kernel
theorem dX5_strands_3 : decode cX5_strands 3 = .ok (.invokevirtual 52, 3) := by decide +kernel
theorem dX5_strands_6 : decode cX5_strands 6 = .ok (.imul, 1) := by decide +kernel
theorem dX5_strands_7 : decode cX5_strands 7 = .ok (.aload_n 0, 1) := by decide +kernel
theorem dX5_strands_8 : decode cX5_strands 8 = .ok (.getfield 7, 3) := by decide +kernel
theorem dX5_strands_11 : decode cX5_strands 11 = .ok (.iconst 3, 1) := by decide +kernel
theorem dX5_strands_12 : decode cX5_strands 12 = .ok (.laload, 1) := by decide +kernel
theorem dX5_strands_13 : decode cX5_strands 13 = .ok (.iload_n 1, 1) := by decide +kernel
theorem dX5_strands_14 : decode cX5_strands 14 = .ok (.i2l, 1) := by decide +kernel
theorem dX5_strands_15 : decode cX5_strands 15 = .ok (.lcmp, 1) := by decide +kernel
theorem dX5_strands_16 : decode cX5_strands 16 = .ok (.ifCond .ne 7, 3) := by decide +kernel
theorem dX5_strands_19 : decode cX5_strands 19 = .ok (.iconst 1, 1) := by decide +kernel
theorem dX5_strands_20 : decode cX5_strands 20 = .ok (.goto 4, 3) := by decide +kernel
theorem dX5_strands_23 : decode cX5_strands 23 = .ok (.iconst 0, 1) := by decide +kernel
theorem dX5_strands_24 : decode cX5_strands 24 = .ok (.iadd, 1) := by decide +kernel
theorem dX5_strands_25 : decode cX5_strands 25 = .ok (.ireturn, 1) := by decide +kernel
theorem dX5_hanging_0 : decode cX5_hanging 0 = .ok (.iconst 0, 1) := by decide +kernel
theorem dX5_hanging_1 : decode cX5_hanging 1 = .ok (.istore_n 1, 1) := by decide +kernel
theorem dX5_hanging_2 : decode cX5_hanging 2 = .ok (.iconst 0, 1) := by decide +kernel
theorem dX5_hanging_3 : decode cX5_hanging 3 = .ok (.istore_n 2, 1) := by decide +kernel
theorem dX5_hanging_4 : decode cX5_hanging 4 = .ok (.iload_n 2, 1) := by decide +kernel
theorem dX5_hanging_5 : decode cX5_hanging 5 = .ok (.iconst 4, 1) := by decide +kernel
theorem dX5_hanging_6 : decode cX5_hanging 6 = .ok (.if_icmp .ge 32, 3) := by decide +kernel
theorem dX5_hanging_9 : decode cX5_hanging 9 = .ok (.iload_n 1, 1) := by decide +kernel
theorem dX5_hanging_10 : decode cX5_hanging 10 = .ok (.aload_n 0, 1) := by decide +kernel
theorem dX5_hanging_11 : decode cX5_hanging 11 = .ok (.iload_n 2, 1) := by decide +kernel
theorem dX5_hanging_12 : decode cX5_hanging 12 = .ok (.invokevirtual 56, 3) := by decide +kernel
theorem dX5_hanging_15 : decode cX5_hanging 15 = .ok (.sipush 10000, 3) := by decide +kernel
theorem dX5_hanging_18 : decode cX5_hanging 18 = .ok (.aload_n 0, 1) := by decide +kernel
theorem dX5_hanging_19 : decode cX5_hanging 19 = .ok (.getfield 7, 3) := by decide +kernel
theorem dX5_hanging_22 : decode cX5_hanging 22 = .ok (.bipush 13, 2) := by decide +kernel
theorem dX5_hanging_24 : decode cX5_hanging 24 = .ok (.iload_n 2, 1) := by decide +kernel
theorem dX5_hanging_25 : decode cX5_hanging 25 = .ok (.iadd, 1) := by decide +kernel
theorem dX5_hanging_26 : decode cX5_hanging 26 = .ok (.laload, 1) := by decide +kernel
theorem dX5_hanging_27 : decode cX5_hanging 27 = .ok (.l2i, 1) := by decide +kernel
theorem dX5_hanging_28 : decode cX5_hanging 28 = .ok (.isub, 1) := by decide +kernel
theorem dX5_hanging_29 : decode cX5_hanging 29 = .ok (.imul, 1) := by decide +kernel
theorem dX5_hanging_30 : decode cX5_hanging 30 = .ok (.iadd, 1) := by decide +kernel
theorem dX5_hanging_31 : decode cX5_hanging 31 = .ok (.istore_n 1, 1) := by decide +kernel
theorem dX5_hanging_32 : decode cX5_hanging 32 = .ok (.iinc 2 1, 3) := by decide +kernel
theorem dX5_hanging_35 : decode cX5_hanging 35 = .ok (.goto (-31), 3) := by decide +kernel
theorem dX5_hanging_38 : decode cX5_hanging 38 = .ok (.iload_n 1, 1) := by decide +kernel
theorem dX5_hanging_39 : decode cX5_hanging 39 = .ok (.ireturn, 1) := by decide +kernel
theorem dX5_inHand_0 : decode cX5_inHand 0 = .ok (.aload_n 0, 1) := by decide +kernel
theorem dX5_inHand_1 : decode cX5_inHand 1 = .ok (.getfield 7, 3) := by decide +kernel
theorem dX5_inHand_4 : decode cX5_inHand 4 = .ok (.iconst 0, 1) := by decide +kernel
theorem dX5_inHand_5 : decode cX5_inHand 5 = .ok (.laload, 1) := by decide +kernel
theorem dX5_inHand_6 : decode cX5_inHand 6 = .ok (.l2i, 1) := by decide +kernel
theorem dX5_inHand_7 : decode cX5_inHand 7 = .ok (.aload_n 0, 1) := by decide +kernel
theorem dX5_inHand_8 : decode cX5_inHand 8 = .ok (.invokevirtual 59, 3) := by decide +kernel
theorem dX5_inHand_11 : decode cX5_inHand 11 = .ok (.isub, 1) := by decide +kernel
theorem dX5_inHand_12 : decode cX5_inHand 12 = .ok (.ireturn, 1) := by decide +kernel
theorem dX5_passes_0 : decode cX5_passes 0 = .ok (.iconst 2, 1) := by decide +kernel
theorem dX5_passes_1 : decode cX5_passes 1 = .ok (.aload_n 0, 1) := by decide +kernel
theorem dX5_passes_2 : decode cX5_passes 2 = .ok (.getfield 7, 3) := by decide +kernel
theorem dX5_passes_5 : decode cX5_passes 5 = .ok (.iconst 2, 1) := by decide +kernel
theorem dX5_passes_6 : decode cX5_passes 6 = .ok (.laload, 1) := by decide +kernel
theorem dX5_passes_7 : decode cX5_passes 7 = .ok (.l2i, 1) := by decide +kernel
theorem dX5_passes_8 : decode cX5_passes 8 = .ok (.imul, 1) := by decide +kernel
theorem dX5_passes_9 : decode cX5_passes 9 = .ok (.aload_n 0, 1) := by decide +kernel
theorem dX5_passes_10 : decode cX5_passes 10 = .ok (.getfield 7, 3) := by decide +kernel
theorem dX5_passes_13 : decode cX5_passes 13 = .ok (.iconst 3, 1) := by decide +kernel
theorem dX5_passes_14 : decode cX5_passes 14 = .ok (.laload, 1) := by decide +kernel
theorem dX5_passes_15 : decode cX5_passes 15 = .ok (.ldc2_w 33, 3) := by decide +kernel
theorem dX5_passes_18 : decode cX5_passes 18 = .ok (.lcmp, 1) := by decide +kernel
theorem dX5_passes_19 : decode cX5_passes 19 = .ok (.ifCond .ne 7, 3) := by decide +kernel
theorem dX5_passes_22 : decode cX5_passes 22 = .ok (.iconst 0, 1) := by decide +kernel
theorem dX5_passes_23 : decode cX5_passes 23 = .ok (.goto 4, 3) := by decide +kernel
theorem dX5_passes_26 : decode cX5_passes 26 = .ok (.iconst 1, 1) := by decide +kernel
theorem dX5_passes_27 : decode cX5_passes 27 = .ok (.iadd, 1) := by decide +kernel
theorem dX5_passes_28 : decode cX5_passes 28 = .ok (.ireturn, 1) := by decide +kernel
theorem dX5_behind_0 : decode cX5_behind 0 = .ok (.lload_n 1, 1) := by decide +kernel
theorem dX5_behind_1 : decode cX5_behind 1 = .ok (.aload_n 0, 1) := by decide +kernel
theorem dX5_behind_2 : decode cX5_behind 2 = .ok (.getfield 7, 3) := by decide +kernel
theorem dX5_behind_5 : decode cX5_behind 5 = .ok (.iconst 1, 1) := by decide +kernel
theorem dX5_behind_6 : decode cX5_behind 6 = .ok (.laload, 1) := by decide +kernel
theorem dX5_behind_7 : decode cX5_behind 7 = .ok (.lmul, 1) := by decide +kernel
theorem dX5_behind_8 : decode cX5_behind 8 = .ok (.ldc2_w 63, 3) := by decide +kernel
theorem dX5_behind_11 : decode cX5_behind 11 = .ok (.ldiv, 1) := by decide +kernel
theorem dX5_behind_12 : decode cX5_behind 12 = .ok (.lstore 4, 2) := by decide +kernel
theorem dX5_behind_14 : decode cX5_behind 14 = .ok (.iload_n 3, 1) := by decide +kernel
theorem dX5_behind_15 : decode cX5_behind 15 = .ok (.ifCond .eq 10, 3) := by decide +kernel
theorem dX5_behind_18 : decode cX5_behind 18 = .ok (.lload_n 1, 1) := by decide +kernel
theorem dX5_behind_19 : decode cX5_behind 19 = .ok (.lload 4, 2) := by decide +kernel
theorem dX5_behind_21 : decode cX5_behind 21 = .ok (.lsub, 1) := by decide +kernel
theorem dX5_behind_22 : decode cX5_behind 22 = .ok (.goto 7, 3) := by decide +kernel
theorem dX5_behind_25 : decode cX5_behind 25 = .ok (.lload_n 1, 1) := by decide +kernel
theorem dX5_behind_26 : decode cX5_behind 26 = .ok (.lload 4, 2) := by decide +kernel
theorem dX5_behind_28 : decode cX5_behind 28 = .ok (.ladd, 1) := by decide +kernel
theorem dX5_behind_29 : decode cX5_behind 29 = .ok (.lreturn, 1) := by decide +kernel
theorem dX5_forceAt_0 : decode cX5_forceAt 0 = .ok (.iload_n 1, 1) := by decide +kernel
theorem dX5_forceAt_1 : decode cX5_forceAt 1 = .ok (.i2l, 1) := by decide +kernel
theorem dX5_forceAt_2 : decode cX5_forceAt 2 = .ok (.lstore 4, 2) := by decide +kernel
theorem dX5_forceAt_4 : decode cX5_forceAt 4 = .ok (.iconst 0, 1) := by decide +kernel
theorem dX5_forceAt_5 : decode cX5_forceAt 5 = .ok (.istore 6, 2) := by decide +kernel
theorem dX5_forceAt_7 : decode cX5_forceAt 7 = .ok (.iload 6, 2) := by decide +kernel
theorem dX5_forceAt_9 : decode cX5_forceAt 9 = .ok (.iload_n 2, 1) := by decide +kernel
theorem dX5_forceAt_10 : decode cX5_forceAt 10 = .ok (.if_icmp .ge 18, 3) := by decide +kernel
theorem dX5_forceAt_13 : decode cX5_forceAt 13 = .ok (.aload_n 0, 1) := by decide +kernel
theorem dX5_forceAt_14 : decode cX5_forceAt 14 = .ok (.lload 4, 2) := by decide +kernel
theorem dX5_forceAt_16 : decode cX5_forceAt 16 = .ok (.iload_n 3, 1) := by decide +kernel
theorem dX5_forceAt_17 : decode cX5_forceAt 17 = .ok (.invokevirtual 65, 3) := by decide +kernel
theorem dX5_forceAt_20 : decode cX5_forceAt 20 = .ok (.lstore 4, 2) := by decide +kernel
theorem dX5_forceAt_22 : decode cX5_forceAt 22 = .ok (.iinc 6 1, 3) := by decide +kernel
theorem dX5_forceAt_25 : decode cX5_forceAt 25 = .ok (.goto (-18), 3) := by decide +kernel
theorem dX5_forceAt_28 : decode cX5_forceAt 28 = .ok (.lload 4, 2) := by decide +kernel
theorem dX5_forceAt_30 : decode cX5_forceAt 30 = .ok (.lreturn, 1) := by decide +kernel
theorem dX5_pullOn_0 : decode cX5_pullOn 0 = .ok (.iload_n 2, 1) := by decide +kernel
theorem dX5_pullOn_1 : decode cX5_pullOn 1 = .ok (.i2l, 1) := by decide +kernel
theorem dX5_pullOn_2 : decode cX5_pullOn 2 = .ok (.lstore 4, 2) := by decide +kernel
theorem dX5_pullOn_4 : decode cX5_pullOn 4 = .ok (.lconst 0, 1) := by decide +kernel
theorem dX5_pullOn_5 : decode cX5_pullOn 5 = .ok (.lstore 6, 2) := by decide +kernel
theorem dX5_pullOn_7 : decode cX5_pullOn 7 = .ok (.iconst 0, 1) := by decide +kernel
theorem dX5_pullOn_8 : decode cX5_pullOn 8 = .ok (.istore 8, 2) := by decide +kernel
theorem dX5_pullOn_10 : decode cX5_pullOn 10 = .ok (.iload 8, 2) := by decide +kernel
theorem dX5_pullOn_12 : decode cX5_pullOn 12 = .ok (.i2l, 1) := by decide +kernel
theorem dX5_pullOn_13 : decode cX5_pullOn 13 = .ok (.aload_n 0, 1) := by decide +kernel
theorem dX5_pullOn_14 : decode cX5_pullOn 14 = .ok (.getfield 7, 3) := by decide +kernel
theorem dX5_pullOn_17 : decode cX5_pullOn 17 = .ok (.iconst 2, 1) := by decide +kernel
theorem dX5_pullOn_18 : decode cX5_pullOn 18 = .ok (.laload, 1) := by decide +kernel
theorem dX5_pullOn_19 : decode cX5_pullOn 19 = .ok (.lcmp, 1) := by decide +kernel
theorem dX5_pullOn_20 : decode cX5_pullOn 20 = .ok (.ifCond .ge 57, 3) := by decide +kernel
theorem dX5_pullOn_23 : decode cX5_pullOn 23 = .ok (.aload_n 0, 1) := by decide +kernel
theorem dX5_pullOn_24 : decode cX5_pullOn 24 = .ok (.lload 4, 2) := by decide +kernel
theorem dX5_pullOn_26 : decode cX5_pullOn 26 = .ok (.iload_n 3, 1) := by decide +kernel
theorem dX5_pullOn_27 : decode cX5_pullOn 27 = .ok (.invokevirtual 65, 3) := by decide +kernel
theorem dX5_pullOn_30 : decode cX5_pullOn 30 = .ok (.lstore 9, 2) := by decide +kernel
theorem dX5_pullOn_32 : decode cX5_pullOn 32 = .ok (.aload_n 0, 1) := by decide +kernel
theorem dX5_pullOn_33 : decode cX5_pullOn 33 = .ok (.lload 9, 2) := by decide +kernel
theorem dX5_pullOn_35 : decode cX5_pullOn 35 = .ok (.iload_n 3, 1) := by decide +kernel
theorem dX5_pullOn_36 : decode cX5_pullOn 36 = .ok (.invokevirtual 65, 3) := by decide +kernel
theorem dX5_pullOn_39 : decode cX5_pullOn 39 = .ok (.lstore 4, 2) := by decide +kernel
theorem dX5_pullOn_41 : decode cX5_pullOn 41 = .ok (.lload 6, 2) := by decide +kernel
theorem dX5_pullOn_43 : decode cX5_pullOn 43 = .ok (.aload_n 0, 1) := by decide +kernel
theorem dX5_pullOn_44 : decode cX5_pullOn 44 = .ok (.getfield 7, 3) := by decide +kernel
theorem dX5_pullOn_47 : decode cX5_pullOn 47 = .ok (.bipush 17, 2) := by decide +kernel
theorem dX5_pullOn_49 : decode cX5_pullOn 49 = .ok (.iload 8, 2) := by decide +kernel
theorem dX5_pullOn_51 : decode cX5_pullOn 51 = .ok (.iadd, 1) := by decide +kernel
theorem dX5_pullOn_52 : decode cX5_pullOn 52 = .ok (.laload, 1) := by decide +kernel
theorem dX5_pullOn_53 : decode cX5_pullOn 53 = .ok (.iload_n 1, 1) := by decide +kernel
theorem dX5_pullOn_54 : decode cX5_pullOn 54 = .ok (.i2l, 1) := by decide +kernel
theorem dX5_pullOn_55 : decode cX5_pullOn 55 = .ok (.lcmp, 1) := by decide +kernel
theorem dX5_pullOn_56 : decode cX5_pullOn 56 = .ok (.ifCond .ne 11, 3) := by decide +kernel
theorem dX5_pullOn_59 : decode cX5_pullOn 59 = .ok (.lload 9, 2) := by decide +kernel
theorem dX5_pullOn_61 : decode cX5_pullOn 61 = .ok (.lload 4, 2) := by decide +kernel
theorem dX5_pullOn_63 : decode cX5_pullOn 63 = .ok (.ladd, 1) := by decide +kernel
theorem dX5_pullOn_64 : decode cX5_pullOn 64 = .ok (.goto 4, 3) := by decide +kernel
theorem dX5_pullOn_67 : decode cX5_pullOn 67 = .ok (.lconst 0, 1) := by decide +kernel
theorem dX5_pullOn_68 : decode cX5_pullOn 68 = .ok (.ladd, 1) := by decide +kernel
theorem dX5_pullOn_69 : decode cX5_pullOn 69 = .ok (.lstore 6, 2) := by decide +kernel
theorem dX5_pullOn_71 : decode cX5_pullOn 71 = .ok (.iinc 8 1, 3) := by decide +kernel
theorem dX5_pullOn_74 : decode cX5_pullOn 74 = .ok (.goto (-64), 3) := by decide +kernel
theorem dX5_pullOn_77 : decode cX5_pullOn 77 = .ok (.aload_n 0, 1) := by decide +kernel
theorem dX5_pullOn_78 : decode cX5_pullOn 78 = .ok (.getfield 7, 3) := by decide +kernel
theorem dX5_pullOn_81 : decode cX5_pullOn 81 = .ok (.iconst 3, 1) := by decide +kernel
theorem dX5_pullOn_82 : decode cX5_pullOn 82 = .ok (.laload, 1) := by decide +kernel
theorem dX5_pullOn_83 : decode cX5_pullOn 83 = .ok (.iload_n 1, 1) := by decide +kernel
theorem dX5_pullOn_84 : decode cX5_pullOn 84 = .ok (.i2l, 1) := by decide +kernel
theorem dX5_pullOn_85 : decode cX5_pullOn 85 = .ok (.lcmp, 1) := by decide +kernel
theorem dX5_pullOn_86 : decode cX5_pullOn 86 = .ok (.ifCond .ne 16, 3) := by decide +kernel
theorem dX5_pullOn_89 : decode cX5_pullOn 89 = .ok (.lload 6, 2) := by decide +kernel
theorem dX5_pullOn_91 : decode cX5_pullOn 91 = .ok (.aload_n 0, 1) := by decide +kernel
theorem dX5_pullOn_92 : decode cX5_pullOn 92 = .ok (.lload 4, 2) := by decide +kernel
theorem dX5_pullOn_94 : decode cX5_pullOn 94 = .ok (.iload_n 3, 1) := by decide +kernel
theorem dX5_pullOn_95 : decode cX5_pullOn 95 = .ok (.invokevirtual 65, 3) := by decide +kernel
theorem dX5_pullOn_98 : decode cX5_pullOn 98 = .ok (.ladd, 1) := by decide +kernel
theorem dX5_pullOn_99 : decode cX5_pullOn 99 = .ok (.goto 5, 3) := by decide +kernel
theorem dX5_pullOn_102 : decode cX5_pullOn 102 = .ok (.lload 6, 2) := by decide +kernel
theorem dX5_pullOn_104 : decode cX5_pullOn 104 = .ok (.lreturn, 1) := by decide +kernel
theorem dX5_least_0 : decode cX5_least 0 = .ok (.aload_n 0, 1) := by decide +kernel
theorem dX5_least_1 : decode cX5_least 1 = .ok (.iload_n 1, 1) := by decide +kernel
theorem dX5_least_2 : decode cX5_least 2 = .ok (.invokevirtual 56, 3) := by decide +kernel
theorem dX5_least_5 : decode cX5_least 5 = .ok (.ifCond .eq 24, 3) := by decide +kernel
theorem dX5_least_8 : decode cX5_least 8 = .ok (.aload_n 0, 1) := by decide +kernel
theorem dX5_least_9 : decode cX5_least 9 = .ok (.iload_n 1, 1) := by decide +kernel
theorem dX5_least_10 : decode cX5_least 10 = .ok (.ldc 69, 2) := by decide +kernel
theorem dX5_least_12 : decode cX5_least 12 = .ok (.iload_n 2, 1) := by decide +kernel
theorem dX5_least_13 : decode cX5_least 13 = .ok (.invokevirtual 70, 3) := by decide +kernel
theorem dX5_least_16 : decode cX5_least 16 = .ok (.aload_n 0, 1) := by decide +kernel
theorem dX5_least_17 : decode cX5_least 17 = .ok (.getfield 7, 3) := by decide +kernel
theorem dX5_least_20 : decode cX5_least 20 = .ok (.bipush 9, 2) := by decide +kernel
theorem dX5_least_22 : decode cX5_least 22 = .ok (.iload_n 1, 1) := by decide +kernel
theorem dX5_least_23 : decode cX5_least 23 = .ok (.iadd, 1) := by decide +kernel
theorem dX5_least_24 : decode cX5_least 24 = .ok (.laload, 1) := by decide +kernel
theorem dX5_least_25 : decode cX5_least 25 = .ok (.lcmp, 1) := by decide +kernel
theorem dX5_least_26 : decode cX5_least 26 = .ok (.ifCond .ge 5, 3) := by decide +kernel
theorem dX5_least_29 : decode cX5_least 29 = .ok (.iconst (-1), 1) := by decide +kernel
theorem dX5_least_30 : decode cX5_least 30 = .ok (.ireturn, 1) := by decide +kernel
theorem dX5_least_31 : decode cX5_least 31 = .ok (.iconst (-1), 1) := by decide +kernel
theorem dX5_least_32 : decode cX5_least 32 = .ok (.istore_n 3, 1) := by decide +kernel
theorem dX5_least_33 : decode cX5_least 33 = .ok (.ldc 74, 2) := by decide +kernel
theorem dX5_least_35 : decode cX5_least 35 = .ok (.istore 4, 2) := by decide +kernel
theorem dX5_least_37 : decode cX5_least 37 = .ok (.iload 4, 2) := by decide +kernel
theorem dX5_least_39 : decode cX5_least 39 = .ok (.ifCond .le 53, 3) := by decide +kernel
theorem dX5_least_42 : decode cX5_least 42 = .ok (.iload_n 3, 1) := by decide +kernel
theorem dX5_least_43 : decode cX5_least 43 = .ok (.iload 4, 2) := by decide +kernel
theorem dX5_least_45 : decode cX5_least 45 = .ok (.iadd, 1) := by decide +kernel
theorem dX5_least_46 : decode cX5_least 46 = .ok (.istore 5, 2) := by decide +kernel
theorem dX5_least_48 : decode cX5_least 48 = .ok (.iload 5, 2) := by decide +kernel
theorem dX5_least_50 : decode cX5_least 50 = .ok (.ldc 69, 2) := by decide +kernel
theorem dX5_least_52 : decode cX5_least 52 = .ok (.if_icmp .gt 29, 3) := by decide +kernel
theorem dX5_least_55 : decode cX5_least 55 = .ok (.aload_n 0, 1) := by decide +kernel
theorem dX5_least_56 : decode cX5_least 56 = .ok (.iload_n 1, 1) := by decide +kernel
theorem dX5_least_57 : decode cX5_least 57 = .ok (.iload 5, 2) := by decide +kernel
theorem dX5_least_59 : decode cX5_least 59 = .ok (.iload_n 2, 1) := by decide +kernel
theorem dX5_least_60 : decode cX5_least 60 = .ok (.invokevirtual 70, 3) := by decide +kernel
theorem dX5_least_63 : decode cX5_least 63 = .ok (.aload_n 0, 1) := by decide +kernel
theorem dX5_least_64 : decode cX5_least 64 = .ok (.getfield 7, 3) := by decide +kernel
theorem dX5_least_67 : decode cX5_least 67 = .ok (.bipush 9, 2) := by decide +kernel
theorem dX5_least_69 : decode cX5_least 69 = .ok (.iload_n 1, 1) := by decide +kernel
theorem dX5_least_70 : decode cX5_least 70 = .ok (.iadd, 1) := by decide +kernel
theorem dX5_least_71 : decode cX5_least 71 = .ok (.laload, 1) := by decide +kernel
theorem dX5_least_72 : decode cX5_least 72 = .ok (.lcmp, 1) := by decide +kernel
theorem dX5_least_73 : decode cX5_least 73 = .ok (.ifCond .ge 8, 3) := by decide +kernel
theorem dX5_least_76 : decode cX5_least 76 = .ok (.iload 5, 2) := by decide +kernel
theorem dX5_least_78 : decode cX5_least 78 = .ok (.goto 4, 3) := by decide +kernel
theorem dX5_least_81 : decode cX5_least 81 = .ok (.iload_n 3, 1) := by decide +kernel
theorem dX5_least_82 : decode cX5_least 82 = .ok (.istore_n 3, 1) := by decide +kernel
theorem dX5_least_83 : decode cX5_least 83 = .ok (.iload 4, 2) := by decide +kernel
theorem dX5_least_85 : decode cX5_least 85 = .ok (.iconst 2, 1) := by decide +kernel
theorem dX5_least_86 : decode cX5_least 86 = .ok (.idiv, 1) := by decide +kernel
theorem dX5_least_87 : decode cX5_least 87 = .ok (.istore 4, 2) := by decide +kernel
theorem dX5_least_89 : decode cX5_least 89 = .ok (.goto (-52), 3) := by decide +kernel
theorem dX5_least_92 : decode cX5_least 92 = .ok (.iload_n 3, 1) := by decide +kernel
theorem dX5_least_93 : decode cX5_least 93 = .ok (.iconst 1, 1) := by decide +kernel
theorem dX5_least_94 : decode cX5_least 94 = .ok (.iadd, 1) := by decide +kernel
theorem dX5_least_95 : decode cX5_least 95 = .ok (.ireturn, 1) := by decide +kernel
theorem dX5_puts_0 : decode cX5_puts 0 = .ok (.aload_n 0, 1) := by decide +kernel
theorem dX5_puts_1 : decode cX5_puts 1 = .ok (.invokevirtual 75, 3) := by decide +kernel
theorem dX5_puts_4 : decode cX5_puts 4 = .ok (.aload_n 0, 1) := by decide +kernel
theorem dX5_puts_5 : decode cX5_puts 5 = .ok (.getfield 7, 3) := by decide +kernel
theorem dX5_puts_8 : decode cX5_puts 8 = .ok (.iload_n 1, 1) := by decide +kernel
theorem dX5_puts_9 : decode cX5_puts 9 = .ok (.laload, 1) := by decide +kernel
theorem dX5_puts_10 : decode cX5_puts 10 = .ok (.l2i, 1) := by decide +kernel
theorem dX5_puts_11 : decode cX5_puts 11 = .ok (.istore_n 3, 1) := by decide +kernel
theorem dX5_puts_12 : decode cX5_puts 12 = .ok (.aload_n 0, 1) := by decide +kernel
theorem dX5_puts_13 : decode cX5_puts 13 = .ok (.getfield 7, 3) := by decide +kernel
theorem dX5_puts_16 : decode cX5_puts 16 = .ok (.iload_n 1, 1) := by decide +kernel
theorem dX5_puts_17 : decode cX5_puts 17 = .ok (.iload_n 2, 1) := by decide +kernel
theorem dX5_puts_18 : decode cX5_puts 18 = .ok (.i2l, 1) := by decide +kernel
theorem dX5_puts_19 : decode cX5_puts 19 = .ok (.lastore, 1) := by decide +kernel
theorem dX5_puts_20 : decode cX5_puts 20 = .ok (.aload_n 0, 1) := by decide +kernel
theorem dX5_puts_21 : decode cX5_puts 21 = .ok (.iload_n 3, 1) := by decide +kernel
theorem dX5_puts_22 : decode cX5_puts 22 = .ok (.invokevirtual 78, 3) := by decide +kernel
theorem dX5_puts_25 : decode cX5_puts 25 = .ok (.ireturn, 1) := by decide +kernel
theorem dX5_setWeight_0 : decode cX5_setWeight 0 = .ok (.iload_n 1, 1) := by decide +kernel
theorem dX5_setWeight_1 : decode cX5_setWeight 1 = .ok (.invokestatic 81, 3) := by decide +kernel
theorem dX5_setWeight_4 : decode cX5_setWeight 4 = .ok (.ifCond .ne 9, 3) := by decide +kernel
theorem dX5_setWeight_7 : decode cX5_setWeight 7 = .ok (.aload_n 0, 1) := by decide +kernel
theorem dX5_setWeight_8 : decode cX5_setWeight 8 = .ok (.iconst 1, 1) := by decide +kernel
theorem dX5_setWeight_9 : decode cX5_setWeight 9 = .ok (.invokevirtual 85, 3) := by decide +kernel
theorem dX5_setWeight_12 : decode cX5_setWeight 12 = .ok (.ireturn, 1) := by decide +kernel
theorem dX5_setWeight_13 : decode cX5_setWeight 13 = .ok (.iload_n 2, 1) := by decide +kernel
theorem dX5_setWeight_14 : decode cX5_setWeight 14 = .ok (.i2l, 1) := by decide +kernel
theorem dX5_setWeight_15 : decode cX5_setWeight 15 = .ok (.lconst 0, 1) := by decide +kernel
theorem dX5_setWeight_16 : decode cX5_setWeight 16 = .ok (.ldc2_w 88, 3) := by decide +kernel
theorem dX5_setWeight_19 : decode cX5_setWeight 19 = .ok (.invokestatic 43, 3) := by decide +kernel
theorem dX5_setWeight_22 : decode cX5_setWeight 22 = .ok (.ifCond .eq 15, 3) := by decide +kernel
theorem dX5_setWeight_25 : decode cX5_setWeight 25 = .ok (.aload_n 0, 1) := by decide +kernel
theorem dX5_setWeight_26 : decode cX5_setWeight 26 = .ok (.bipush 9, 2) := by decide +kernel
theorem dX5_setWeight_28 : decode cX5_setWeight 28 = .ok (.iload_n 1, 1) := by decide +kernel
theorem dX5_setWeight_29 : decode cX5_setWeight 29 = .ok (.iadd, 1) := by decide +kernel
theorem dX5_setWeight_30 : decode cX5_setWeight 30 = .ok (.iload_n 2, 1) := by decide +kernel
theorem dX5_setWeight_31 : decode cX5_setWeight 31 = .ok (.invokevirtual 90, 3) := by decide +kernel
theorem dX5_setWeight_34 : decode cX5_setWeight 34 = .ok (.goto 8, 3) := by decide +kernel
theorem dX5_setWeight_37 : decode cX5_setWeight 37 = .ok (.aload_n 0, 1) := by decide +kernel
theorem dX5_setWeight_38 : decode cX5_setWeight 38 = .ok (.iconst 2, 1) := by decide +kernel
theorem dX5_setWeight_39 : decode cX5_setWeight 39 = .ok (.invokevirtual 85, 3) := by decide +kernel
theorem dX5_setWeight_42 : decode cX5_setWeight 42 = .ok (.ireturn, 1) := by decide +kernel
theorem dX5_setFriction_0 : decode cX5_setFriction 0 = .ok (.iload_n 1, 1) := by decide +kernel
theorem dX5_setFriction_1 : decode cX5_setFriction 1 = .ok (.i2l, 1) := by decide +kernel
theorem dX5_setFriction_2 : decode cX5_setFriction 2 = .ok (.lconst 0, 1) := by decide +kernel
theorem dX5_setFriction_3 : decode cX5_setFriction 3 = .ok (.ldc2_w 94, 3) := by decide +kernel
theorem dX5_setFriction_6 : decode cX5_setFriction 6 = .ok (.invokestatic 43, 3) := by decide +kernel
theorem dX5_setFriction_9 : decode cX5_setFriction 9 = .ok (.ifCond .eq 12, 3) := by decide +kernel
theorem dX5_setFriction_12 : decode cX5_setFriction 12 = .ok (.aload_n 0, 1) := by decide +kernel
theorem dX5_setFriction_13 : decode cX5_setFriction 13 = .ok (.iconst 1, 1) := by decide +kernel
theorem dX5_setFriction_14 : decode cX5_setFriction 14 = .ok (.iload_n 1, 1) := by decide +kernel
theorem dX5_setFriction_15 : decode cX5_setFriction 15 = .ok (.invokevirtual 90, 3) := by decide +kernel
theorem dX5_setFriction_18 : decode cX5_setFriction 18 = .ok (.goto 8, 3) := by decide +kernel
theorem dX5_setFriction_21 : decode cX5_setFriction 21 = .ok (.aload_n 0, 1) := by decide +kernel
theorem dX5_setFriction_22 : decode cX5_setFriction 22 = .ok (.iconst 1, 1) := by decide +kernel
theorem dX5_setFriction_23 : decode cX5_setFriction 23 = .ok (.invokevirtual 85, 3) := by decide +kernel
theorem dX5_setFriction_26 : decode cX5_setFriction 26 = .ok (.ireturn, 1) := by decide +kernel
theorem dX5_setLength_0 : decode cX5_setLength 0 = .ok (.iload_n 1, 1) := by decide +kernel
theorem dX5_setLength_1 : decode cX5_setLength 1 = .ok (.i2l, 1) := by decide +kernel
theorem dX5_setLength_2 : decode cX5_setLength 2 = .ok (.ldc2_w 35, 3) := by decide +kernel
theorem dX5_setLength_5 : decode cX5_setLength 5 = .ok (.ldc2_w 96, 3) := by decide +kernel
theorem dX5_setLength_8 : decode cX5_setLength 8 = .ok (.invokestatic 43, 3) := by decide +kernel
theorem dX5_setLength_11 : decode cX5_setLength 11 = .ok (.ifCond .ne 9, 3) := by decide +kernel
theorem dX5_setLength_14 : decode cX5_setLength 14 = .ok (.aload_n 0, 1) := by decide +kernel
theorem dX5_setLength_15 : decode cX5_setLength 15 = .ok (.iconst 1, 1) := by decide +kernel
theorem dX5_setLength_16 : decode cX5_setLength 16 = .ok (.invokevirtual 85, 3) := by decide +kernel
theorem dX5_setLength_19 : decode cX5_setLength 19 = .ok (.ireturn, 1) := by decide +kernel
theorem dX5_setLength_20 : decode cX5_setLength 20 = .ok (.iload_n 1, 1) := by decide +kernel
theorem dX5_setLength_21 : decode cX5_setLength 21 = .ok (.aload_n 0, 1) := by decide +kernel
theorem dX5_setLength_22 : decode cX5_setLength 22 = .ok (.invokevirtual 59, 3) := by decide +kernel
theorem dX5_setLength_25 : decode cX5_setLength 25 = .ok (.if_icmp .ge 9, 3) := by decide +kernel
theorem dX5_setLength_28 : decode cX5_setLength 28 = .ok (.aload_n 0, 1) := by decide +kernel
theorem dX5_setLength_29 : decode cX5_setLength 29 = .ok (.iconst 2, 1) := by decide +kernel
theorem dX5_setLength_30 : decode cX5_setLength 30 = .ok (.invokevirtual 85, 3) := by decide +kernel
theorem dX5_setLength_33 : decode cX5_setLength 33 = .ok (.ireturn, 1) := by decide +kernel
theorem dX5_setLength_34 : decode cX5_setLength 34 = .ok (.aload_n 0, 1) := by decide +kernel
theorem dX5_setLength_35 : decode cX5_setLength 35 = .ok (.invokevirtual 75, 3) := by decide +kernel
theorem dX5_setLength_38 : decode cX5_setLength 38 = .ok (.aload_n 0, 1) := by decide +kernel
theorem dX5_setLength_39 : decode cX5_setLength 39 = .ok (.getfield 7, 3) := by decide +kernel
theorem dX5_setLength_42 : decode cX5_setLength 42 = .ok (.iconst 0, 1) := by decide +kernel
theorem dX5_setLength_43 : decode cX5_setLength 43 = .ok (.iload_n 1, 1) := by decide +kernel
theorem dX5_setLength_44 : decode cX5_setLength 44 = .ok (.i2l, 1) := by decide +kernel
theorem dX5_setLength_45 : decode cX5_setLength 45 = .ok (.lastore, 1) := by decide +kernel
theorem dX5_setLength_46 : decode cX5_setLength 46 = .ok (.aload_n 0, 1) := by decide +kernel
theorem dX5_setLength_47 : decode cX5_setLength 47 = .ok (.aload_n 0, 1) := by decide +kernel
theorem dX5_setLength_48 : decode cX5_setLength 48 = .ok (.invokevirtual 98, 3) := by decide +kernel
theorem dX5_setLength_51 : decode cX5_setLength 51 = .ok (.invokevirtual 78, 3) := by decide +kernel
theorem dX5_setLength_54 : decode cX5_setLength 54 = .ok (.ireturn, 1) := by decide +kernel
theorem dX5_addPulley_0 : decode cX5_addPulley 0 = .ok (.iload_n 1, 1) := by decide +kernel
theorem dX5_addPulley_1 : decode cX5_addPulley 1 = .ok (.invokestatic 81, 3) := by decide +kernel
theorem dX5_addPulley_4 : decode cX5_addPulley 4 = .ok (.ifCond .ne 9, 3) := by decide +kernel
theorem dX5_addPulley_7 : decode cX5_addPulley 7 = .ok (.aload_n 0, 1) := by decide +kernel
theorem dX5_addPulley_8 : decode cX5_addPulley 8 = .ok (.iconst 1, 1) := by decide +kernel
theorem dX5_addPulley_9 : decode cX5_addPulley 9 = .ok (.invokevirtual 85, 3) := by decide +kernel
theorem dX5_addPulley_12 : decode cX5_addPulley 12 = .ok (.ireturn, 1) := by decide +kernel
theorem dX5_addPulley_13 : decode cX5_addPulley 13 = .ok (.aload_n 0, 1) := by decide +kernel
theorem dX5_addPulley_14 : decode cX5_addPulley 14 = .ok (.getfield 7, 3) := by decide +kernel
theorem dX5_addPulley_17 : decode cX5_addPulley 17 = .ok (.iconst 2, 1) := by decide +kernel
theorem dX5_addPulley_18 : decode cX5_addPulley 18 = .ok (.laload, 1) := by decide +kernel
theorem dX5_addPulley_19 : decode cX5_addPulley 19 = .ok (.ldc2_w 31, 3) := by decide +kernel
theorem dX5_addPulley_22 : decode cX5_addPulley 22 = .ok (.lcmp, 1) := by decide +kernel
theorem dX5_addPulley_23 : decode cX5_addPulley 23 = .ok (.ifCond .eq 29, 3) := by decide +kernel
theorem dX5_addPulley_26 : decode cX5_addPulley 26 = .ok (.aload_n 0, 1) := by decide +kernel
theorem dX5_addPulley_27 : decode cX5_addPulley 27 = .ok (.invokevirtual 98, 3) := by decide +kernel
theorem dX5_addPulley_30 : decode cX5_addPulley 30 = .ok (.i2l, 1) := by decide +kernel
theorem dX5_addPulley_31 : decode cX5_addPulley 31 = .ok (.ldc2_w 101, 3) := by decide +kernel
theorem dX5_addPulley_34 : decode cX5_addPulley 34 = .ok (.ldc2_w 103, 3) := by decide +kernel
theorem dX5_addPulley_37 : decode cX5_addPulley 37 = .ok (.aload_n 0, 1) := by decide +kernel
theorem dX5_addPulley_38 : decode cX5_addPulley 38 = .ok (.getfield 7, 3) := by decide +kernel
theorem dX5_addPulley_41 : decode cX5_addPulley 41 = .ok (.bipush 13, 2) := by decide +kernel
theorem dX5_addPulley_43 : decode cX5_addPulley 43 = .ok (.iload_n 1, 1) := by decide +kernel
theorem dX5_addPulley_44 : decode cX5_addPulley 44 = .ok (.iadd, 1) := by decide +kernel
theorem dX5_addPulley_45 : decode cX5_addPulley 45 = .ok (.laload, 1) := by decide +kernel
theorem dX5_addPulley_46 : decode cX5_addPulley 46 = .ok (.lsub, 1) := by decide +kernel
theorem dX5_addPulley_47 : decode cX5_addPulley 47 = .ok (.lmul, 1) := by decide +kernel
theorem dX5_addPulley_48 : decode cX5_addPulley 48 = .ok (.lcmp, 1) := by decide +kernel
theorem dX5_addPulley_49 : decode cX5_addPulley 49 = .ok (.ifCond .ge 9, 3) := by decide +kernel
theorem dX5_addPulley_52 : decode cX5_addPulley 52 = .ok (.aload_n 0, 1) := by decide +kernel
theorem dX5_addPulley_53 : decode cX5_addPulley 53 = .ok (.iconst 2, 1) := by decide +kernel
theorem dX5_addPulley_54 : decode cX5_addPulley 54 = .ok (.invokevirtual 85, 3) := by decide +kernel
theorem dX5_addPulley_57 : decode cX5_addPulley 57 = .ok (.ireturn, 1) := by decide +kernel
theorem dX5_addPulley_58 : decode cX5_addPulley 58 = .ok (.aload_n 0, 1) := by decide +kernel
theorem dX5_addPulley_59 : decode cX5_addPulley 59 = .ok (.invokevirtual 75, 3) := by decide +kernel
theorem dX5_addPulley_62 : decode cX5_addPulley 62 = .ok (.aload_n 0, 1) := by decide +kernel
theorem dX5_addPulley_63 : decode cX5_addPulley 63 = .ok (.getfield 7, 3) := by decide +kernel
theorem dX5_addPulley_66 : decode cX5_addPulley 66 = .ok (.bipush 17, 2) := by decide +kernel
theorem dX5_addPulley_68 : decode cX5_addPulley 68 = .ok (.aload_n 0, 1) := by decide +kernel
theorem dX5_addPulley_69 : decode cX5_addPulley 69 = .ok (.getfield 7, 3) := by decide +kernel
theorem dX5_addPulley_72 : decode cX5_addPulley 72 = .ok (.iconst 2, 1) := by decide +kernel
theorem dX5_addPulley_73 : decode cX5_addPulley 73 = .ok (.laload, 1) := by decide +kernel
theorem dX5_addPulley_74 : decode cX5_addPulley 74 = .ok (.l2i, 1) := by decide +kernel
theorem dX5_addPulley_75 : decode cX5_addPulley 75 = .ok (.iadd, 1) := by decide +kernel
theorem dX5_addPulley_76 : decode cX5_addPulley 76 = .ok (.iload_n 1, 1) := by decide +kernel
theorem dX5_addPulley_77 : decode cX5_addPulley 77 = .ok (.i2l, 1) := by decide +kernel
theorem dX5_addPulley_78 : decode cX5_addPulley 78 = .ok (.lastore, 1) := by decide +kernel
theorem dX5_addPulley_79 : decode cX5_addPulley 79 = .ok (.aload_n 0, 1) := by decide +kernel
theorem dX5_addPulley_80 : decode cX5_addPulley 80 = .ok (.getfield 7, 3) := by decide +kernel
theorem dX5_addPulley_83 : decode cX5_addPulley 83 = .ok (.iconst 2, 1) := by decide +kernel
theorem dX5_addPulley_84 : decode cX5_addPulley 84 = .ok (.dup2, 1) := by decide +kernel
theorem dX5_addPulley_85 : decode cX5_addPulley 85 = .ok (.laload, 1) := by decide +kernel
theorem dX5_addPulley_86 : decode cX5_addPulley 86 = .ok (.lconst 1, 1) := by decide +kernel
theorem dX5_addPulley_87 : decode cX5_addPulley 87 = .ok (.ladd, 1) := by decide +kernel
theorem dX5_addPulley_88 : decode cX5_addPulley 88 = .ok (.lastore, 1) := by decide +kernel
theorem dX5_addPulley_89 : decode cX5_addPulley 89 = .ok (.aload_n 0, 1) := by decide +kernel
theorem dX5_addPulley_90 : decode cX5_addPulley 90 = .ok (.aload_n 0, 1) := by decide +kernel
theorem dX5_addPulley_91 : decode cX5_addPulley 91 = .ok (.getfield 7, 3) := by decide +kernel
theorem dX5_addPulley_94 : decode cX5_addPulley 94 = .ok (.iconst 2, 1) := by decide +kernel
theorem dX5_addPulley_95 : decode cX5_addPulley 95 = .ok (.laload, 1) := by decide +kernel
theorem dX5_addPulley_96 : decode cX5_addPulley 96 = .ok (.l2i, 1) := by decide +kernel
theorem dX5_addPulley_97 : decode cX5_addPulley 97 = .ok (.invokevirtual 78, 3) := by decide +kernel
theorem dX5_addPulley_100 : decode cX5_addPulley 100 = .ok (.ireturn, 1) := by decide +kernel
theorem dX5_takePulley_0 : decode cX5_takePulley 0 = .ok (.aload_n 0, 1) := by decide +kernel
theorem dX5_takePulley_1 : decode cX5_takePulley 1 = .ok (.getfield 7, 3) := by decide +kernel
theorem dX5_takePulley_4 : decode cX5_takePulley 4 = .ok (.iconst 2, 1) := by decide +kernel
theorem dX5_takePulley_5 : decode cX5_takePulley 5 = .ok (.laload, 1) := by decide +kernel
theorem dX5_takePulley_6 : decode cX5_takePulley 6 = .ok (.lconst 0, 1) := by decide +kernel
theorem dX5_takePulley_7 : decode cX5_takePulley 7 = .ok (.lcmp, 1) := by decide +kernel
theorem dX5_takePulley_8 : decode cX5_takePulley 8 = .ok (.ifCond .ne 9, 3) := by decide +kernel
theorem dX5_takePulley_11 : decode cX5_takePulley 11 = .ok (.aload_n 0, 1) := by decide +kernel
theorem dX5_takePulley_12 : decode cX5_takePulley 12 = .ok (.iconst 1, 1) := by decide +kernel
theorem dX5_takePulley_13 : decode cX5_takePulley 13 = .ok (.invokevirtual 85, 3) := by decide +kernel
theorem dX5_takePulley_16 : decode cX5_takePulley 16 = .ok (.ireturn, 1) := by decide +kernel
theorem dX5_takePulley_17 : decode cX5_takePulley 17 = .ok (.aload_n 0, 1) := by decide +kernel
theorem dX5_takePulley_18 : decode cX5_takePulley 18 = .ok (.invokevirtual 75, 3) := by decide +kernel
theorem dX5_takePulley_21 : decode cX5_takePulley 21 = .ok (.aload_n 0, 1) := by decide +kernel
theorem dX5_takePulley_22 : decode cX5_takePulley 22 = .ok (.getfield 7, 3) := by decide +kernel
theorem dX5_takePulley_25 : decode cX5_takePulley 25 = .ok (.iconst 2, 1) := by decide +kernel
theorem dX5_takePulley_26 : decode cX5_takePulley 26 = .ok (.dup2, 1) := by decide +kernel
theorem dX5_takePulley_27 : decode cX5_takePulley 27 = .ok (.laload, 1) := by decide +kernel
theorem dX5_takePulley_28 : decode cX5_takePulley 28 = .ok (.lconst 1, 1) := by decide +kernel
theorem dX5_takePulley_29 : decode cX5_takePulley 29 = .ok (.lsub, 1) := by decide +kernel
theorem dX5_takePulley_30 : decode cX5_takePulley 30 = .ok (.lastore, 1) := by decide +kernel
theorem dX5_takePulley_31 : decode cX5_takePulley 31 = .ok (.aload_n 0, 1) := by decide +kernel
theorem dX5_takePulley_32 : decode cX5_takePulley 32 = .ok (.aload_n 0, 1) := by decide +kernel
theorem dX5_takePulley_33 : decode cX5_takePulley 33 = .ok (.getfield 7, 3) := by decide +kernel
theorem dX5_takePulley_36 : decode cX5_takePulley 36 = .ok (.bipush 17, 2) := by decide +kernel
theorem dX5_takePulley_38 : decode cX5_takePulley 38 = .ok (.aload_n 0, 1) := by decide +kernel
theorem dX5_takePulley_39 : decode cX5_takePulley 39 = .ok (.getfield 7, 3) := by decide +kernel
theorem dX5_takePulley_42 : decode cX5_takePulley 42 = .ok (.iconst 2, 1) := by decide +kernel
theorem dX5_takePulley_43 : decode cX5_takePulley 43 = .ok (.laload, 1) := by decide +kernel
theorem dX5_takePulley_44 : decode cX5_takePulley 44 = .ok (.l2i, 1) := by decide +kernel
theorem dX5_takePulley_45 : decode cX5_takePulley 45 = .ok (.iadd, 1) := by decide +kernel
theorem dX5_takePulley_46 : decode cX5_takePulley 46 = .ok (.laload, 1) := by decide +kernel
theorem dX5_takePulley_47 : decode cX5_takePulley 47 = .ok (.l2i, 1) := by decide +kernel
theorem dX5_takePulley_48 : decode cX5_takePulley 48 = .ok (.invokevirtual 78, 3) := by decide +kernel
theorem dX5_takePulley_51 : decode cX5_takePulley 51 = .ok (.ireturn, 1) := by decide +kernel
theorem dX5_endStrand_0 : decode cX5_endStrand 0 = .ok (.iload_n 1, 1) := by decide +kernel
theorem dX5_endStrand_1 : decode cX5_endStrand 1 = .ok (.iconst 4, 1) := by decide +kernel
theorem dX5_endStrand_2 : decode cX5_endStrand 2 = .ok (.if_icmp .ne 7, 3) := by decide +kernel
theorem dX5_endStrand_5 : decode cX5_endStrand 5 = .ok (.iconst 0, 1) := by decide +kernel
theorem dX5_endStrand_6 : decode cX5_endStrand 6 = .ok (.goto 17, 3) := by decide +kernel
theorem dX5_endStrand_9 : decode cX5_endStrand 9 = .ok (.sipush 10000, 3) := by decide +kernel
theorem dX5_endStrand_12 : decode cX5_endStrand 12 = .ok (.aload_n 0, 1) := by decide +kernel
theorem dX5_endStrand_13 : decode cX5_endStrand 13 = .ok (.getfield 7, 3) := by decide +kernel
theorem dX5_endStrand_16 : decode cX5_endStrand 16 = .ok (.bipush 13, 2) := by decide +kernel
theorem dX5_endStrand_18 : decode cX5_endStrand 18 = .ok (.iload_n 1, 1) := by decide +kernel
theorem dX5_endStrand_19 : decode cX5_endStrand 19 = .ok (.iadd, 1) := by decide +kernel
theorem dX5_endStrand_20 : decode cX5_endStrand 20 = .ok (.laload, 1) := by decide +kernel
theorem dX5_endStrand_21 : decode cX5_endStrand 21 = .ok (.l2i, 1) := by decide +kernel
theorem dX5_endStrand_22 : decode cX5_endStrand 22 = .ok (.isub, 1) := by decide +kernel
theorem dX5_endStrand_23 : decode cX5_endStrand 23 = .ok (.ireturn, 1) := by decide +kernel
theorem dX5_setEnd_0 : decode cX5_setEnd 0 = .ok (.iload_n 1, 1) := by decide +kernel
theorem dX5_setEnd_1 : decode cX5_setEnd 1 = .ok (.i2l, 1) := by decide +kernel
theorem dX5_setEnd_2 : decode cX5_setEnd 2 = .ok (.lconst 0, 1) := by decide +kernel
theorem dX5_setEnd_3 : decode cX5_setEnd 3 = .ok (.ldc2_w 33, 3) := by decide +kernel
theorem dX5_setEnd_6 : decode cX5_setEnd 6 = .ok (.invokestatic 43, 3) := by decide +kernel
theorem dX5_setEnd_9 : decode cX5_setEnd 9 = .ok (.ifCond .ne 9, 3) := by decide +kernel
theorem dX5_setEnd_12 : decode cX5_setEnd 12 = .ok (.aload_n 0, 1) := by decide +kernel
theorem dX5_setEnd_13 : decode cX5_setEnd 13 = .ok (.iconst 1, 1) := by decide +kernel
theorem dX5_setEnd_14 : decode cX5_setEnd 14 = .ok (.invokevirtual 85, 3) := by decide +kernel
theorem dX5_setEnd_17 : decode cX5_setEnd 17 = .ok (.ireturn, 1) := by decide +kernel
theorem dX5_setEnd_18 : decode cX5_setEnd 18 = .ok (.aload_n 0, 1) := by decide +kernel
theorem dX5_setEnd_19 : decode cX5_setEnd 19 = .ok (.invokevirtual 98, 3) := by decide +kernel
theorem dX5_setEnd_22 : decode cX5_setEnd 22 = .ok (.aload_n 0, 1) := by decide +kernel
theorem dX5_setEnd_23 : decode cX5_setEnd 23 = .ok (.aload_n 0, 1) := by decide +kernel
theorem dX5_setEnd_24 : decode cX5_setEnd 24 = .ok (.getfield 7, 3) := by decide +kernel
theorem dX5_setEnd_27 : decode cX5_setEnd 27 = .ok (.iconst 3, 1) := by decide +kernel
theorem dX5_setEnd_28 : decode cX5_setEnd 28 = .ok (.laload, 1) := by decide +kernel
theorem dX5_setEnd_29 : decode cX5_setEnd 29 = .ok (.l2i, 1) := by decide +kernel
theorem dX5_setEnd_30 : decode cX5_setEnd 30 = .ok (.invokevirtual 105, 3) := by decide +kernel
theorem dX5_setEnd_33 : decode cX5_setEnd 33 = .ok (.iadd, 1) := by decide +kernel
theorem dX5_setEnd_34 : decode cX5_setEnd 34 = .ok (.aload_n 0, 1) := by decide +kernel
theorem dX5_setEnd_35 : decode cX5_setEnd 35 = .ok (.iload_n 1, 1) := by decide +kernel
theorem dX5_setEnd_36 : decode cX5_setEnd 36 = .ok (.invokevirtual 105, 3) := by decide +kernel
theorem dX5_setEnd_39 : decode cX5_setEnd 39 = .ok (.if_icmp .ge 9, 3) := by decide +kernel
theorem dX5_setEnd_42 : decode cX5_setEnd 42 = .ok (.aload_n 0, 1) := by decide +kernel
theorem dX5_setEnd_43 : decode cX5_setEnd 43 = .ok (.iconst 2, 1) := by decide +kernel
theorem dX5_setEnd_44 : decode cX5_setEnd 44 = .ok (.invokevirtual 85, 3) := by decide +kernel
theorem dX5_setEnd_47 : decode cX5_setEnd 47 = .ok (.ireturn, 1) := by decide +kernel
theorem dX5_setEnd_48 : decode cX5_setEnd 48 = .ok (.aload_n 0, 1) := by decide +kernel
theorem dX5_setEnd_49 : decode cX5_setEnd 49 = .ok (.iconst 3, 1) := by decide +kernel
theorem dX5_setEnd_50 : decode cX5_setEnd 50 = .ok (.iload_n 1, 1) := by decide +kernel
theorem dX5_setEnd_51 : decode cX5_setEnd 51 = .ok (.invokevirtual 90, 3) := by decide +kernel
theorem dX5_setEnd_54 : decode cX5_setEnd 54 = .ok (.ireturn, 1) := by decide +kernel
theorem dX5_enters_0 : decode cX5_enters 0 = .ok (.bipush 47, 2) := by decide +kernel
theorem dX5_enters_2 : decode cX5_enters 2 = .ok (.istore 4, 2) := by decide +kernel
theorem dX5_enters_4 : decode cX5_enters 4 = .ok (.iload 4, 2) := by decide +kernel
theorem dX5_enters_6 : decode cX5_enters 6 = .ok (.iconst 2, 1) := by decide +kernel
theorem dX5_enters_7 : decode cX5_enters 7 = .ok (.if_icmp .le 31, 3) := by decide +kernel
theorem dX5_enters_10 : decode cX5_enters 10 = .ok (.aload_n 0, 1) := by decide +kernel
theorem dX5_enters_11 : decode cX5_enters 11 = .ok (.getfield 7, 3) := by decide +kernel
theorem dX5_enters_14 : decode cX5_enters 14 = .ok (.bipush 27, 2) := by decide +kernel
theorem dX5_enters_16 : decode cX5_enters 16 = .ok (.iload 4, 2) := by decide +kernel
theorem dX5_enters_18 : decode cX5_enters 18 = .ok (.iadd, 1) := by decide +kernel
theorem dX5_enters_19 : decode cX5_enters 19 = .ok (.aload_n 0, 1) := by decide +kernel
theorem dX5_enters_20 : decode cX5_enters 20 = .ok (.getfield 7, 3) := by decide +kernel
theorem dX5_enters_23 : decode cX5_enters 23 = .ok (.bipush 27, 2) := by decide +kernel
theorem dX5_enters_25 : decode cX5_enters 25 = .ok (.iload 4, 2) := by decide +kernel
theorem dX5_enters_27 : decode cX5_enters 27 = .ok (.iadd, 1) := by decide +kernel
theorem dX5_enters_28 : decode cX5_enters 28 = .ok (.iconst 3, 1) := by decide +kernel
theorem dX5_enters_29 : decode cX5_enters 29 = .ok (.isub, 1) := by decide +kernel
theorem dX5_enters_30 : decode cX5_enters 30 = .ok (.laload, 1) := by decide +kernel
theorem dX5_enters_31 : decode cX5_enters 31 = .ok (.lastore, 1) := by decide +kernel
theorem dX5_enters_32 : decode cX5_enters 32 = .ok (.iinc 4 (-1), 3) := by decide +kernel
theorem dX5_enters_35 : decode cX5_enters 35 = .ok (.goto (-31), 3) := by decide +kernel
theorem dX5_enters_38 : decode cX5_enters 38 = .ok (.aload_n 0, 1) := by decide +kernel
theorem dX5_enters_39 : decode cX5_enters 39 = .ok (.getfield 7, 3) := by decide +kernel
theorem dX5_enters_42 : decode cX5_enters 42 = .ok (.bipush 27, 2) := by decide +kernel
theorem dX5_enters_44 : decode cX5_enters 44 = .ok (.iload_n 1, 1) := by decide +kernel
theorem dX5_enters_45 : decode cX5_enters 45 = .ok (.i2l, 1) := by decide +kernel
theorem dX5_enters_46 : decode cX5_enters 46 = .ok (.lastore, 1) := by decide +kernel
theorem dX5_enters_47 : decode cX5_enters 47 = .ok (.aload_n 0, 1) := by decide +kernel
theorem dX5_enters_48 : decode cX5_enters 48 = .ok (.getfield 7, 3) := by decide +kernel
theorem dX5_enters_51 : decode cX5_enters 51 = .ok (.bipush 28, 2) := by decide +kernel
theorem dX5_enters_53 : decode cX5_enters 53 = .ok (.iload_n 2, 1) := by decide +kernel
theorem dX5_enters_54 : decode cX5_enters 54 = .ok (.i2l, 1) := by decide +kernel
theorem dX5_enters_55 : decode cX5_enters 55 = .ok (.lastore, 1) := by decide +kernel
theorem dX5_enters_56 : decode cX5_enters 56 = .ok (.aload_n 0, 1) := by decide +kernel
theorem dX5_enters_57 : decode cX5_enters 57 = .ok (.getfield 7, 3) := by decide +kernel
theorem dX5_enters_60 : decode cX5_enters 60 = .ok (.bipush 29, 2) := by decide +kernel
theorem dX5_enters_62 : decode cX5_enters 62 = .ok (.iload_n 3, 1) := by decide +kernel
theorem dX5_enters_63 : decode cX5_enters 63 = .ok (.i2l, 1) := by decide +kernel
theorem dX5_enters_64 : decode cX5_enters 64 = .ok (.lastore, 1) := by decide +kernel
theorem dX5_enters_65 : decode cX5_enters 65 = .ok (.aload_n 0, 1) := by decide +kernel
theorem dX5_enters_66 : decode cX5_enters 66 = .ok (.getfield 7, 3) := by decide +kernel
theorem dX5_enters_69 : decode cX5_enters 69 = .ok (.bipush 6, 2) := by decide +kernel
theorem dX5_enters_71 : decode cX5_enters 71 = .ok (.dup2, 1) := by decide +kernel
theorem dX5_enters_72 : decode cX5_enters 72 = .ok (.laload, 1) := by decide +kernel
theorem dX5_enters_73 : decode cX5_enters 73 = .ok (.aload_n 0, 1) := by decide +kernel
theorem dX5_enters_74 : decode cX5_enters 74 = .ok (.getfield 7, 3) := by decide +kernel
theorem dX5_enters_77 : decode cX5_enters 77 = .ok (.bipush 6, 2) := by decide +kernel
theorem dX5_enters_79 : decode cX5_enters 79 = .ok (.laload, 1) := by decide +kernel
theorem dX5_enters_80 : decode cX5_enters 80 = .ok (.ldc2_w 108, 3) := by decide +kernel
theorem dX5_enters_83 : decode cX5_enters 83 = .ok (.lcmp, 1) := by decide +kernel
theorem dX5_enters_84 : decode cX5_enters 84 = .ok (.ifCond .ge 7, 3) := by decide +kernel
theorem dX5_enters_87 : decode cX5_enters 87 = .ok (.lconst 1, 1) := by decide +kernel
theorem dX5_enters_88 : decode cX5_enters 88 = .ok (.goto 4, 3) := by decide +kernel
theorem dX5_enters_91 : decode cX5_enters 91 = .ok (.lconst 0, 1) := by decide +kernel
theorem dX5_enters_92 : decode cX5_enters 92 = .ok (.ladd, 1) := by decide +kernel
theorem dX5_enters_93 : decode cX5_enters 93 = .ok (.lastore, 1) := by decide +kernel
theorem dX5_enters_94 : decode cX5_enters 94 = .ok (.aload_n 0, 1) := by decide +kernel
theorem dX5_enters_95 : decode cX5_enters 95 = .ok (.getfield 7, 3) := by decide +kernel
theorem dX5_enters_98 : decode cX5_enters 98 = .ok (.iload_n 2, 1) := by decide +kernel
theorem dX5_enters_99 : decode cX5_enters 99 = .ok (.ifCond .le 7, 3) := by decide +kernel
theorem dX5_enters_102 : decode cX5_enters 102 = .ok (.iconst 4, 1) := by decide +kernel
theorem dX5_enters_103 : decode cX5_enters 103 = .ok (.goto 4, 3) := by decide +kernel
theorem dX5_enters_106 : decode cX5_enters 106 = .ok (.iconst 5, 1) := by decide +kernel
theorem dX5_enters_107 : decode cX5_enters 107 = .ok (.dup2, 1) := by decide +kernel
theorem dX5_enters_108 : decode cX5_enters 108 = .ok (.laload, 1) := by decide +kernel
theorem dX5_enters_109 : decode cX5_enters 109 = .ok (.lconst 1, 1) := by decide +kernel
theorem dX5_enters_110 : decode cX5_enters 110 = .ok (.ladd, 1) := by decide +kernel
theorem dX5_enters_111 : decode cX5_enters 111 = .ok (.lastore, 1) := by decide +kernel
theorem dX5_enters_112 : decode cX5_enters 112 = .ok (.return_, 1) := by decide +kernel
theorem dX5_riser_0 : decode cX5_riser 0 = .ok (.iconst (-1), 1) := by decide +kernel
theorem dX5_riser_1 : decode cX5_riser 1 = .ok (.istore_n 2, 1) := by decide +kernel
theorem dX5_riser_2 : decode cX5_riser 2 = .ok (.iconst 0, 1) := by decide +kernel
theorem dX5_riser_3 : decode cX5_riser 3 = .ok (.istore_n 3, 1) := by decide +kernel
theorem dX5_riser_4 : decode cX5_riser 4 = .ok (.iconst 0, 1) := by decide +kernel
theorem dX5_riser_5 : decode cX5_riser 5 = .ok (.istore 4, 2) := by decide +kernel
theorem dX5_riser_7 : decode cX5_riser 7 = .ok (.iload 4, 2) := by decide +kernel
theorem dX5_riser_9 : decode cX5_riser 9 = .ok (.iconst 4, 1) := by decide +kernel
theorem dX5_riser_10 : decode cX5_riser 10 = .ok (.if_icmp .ge 93, 3) := by decide +kernel
theorem dX5_riser_13 : decode cX5_riser 13 = .ok (.aload_n 0, 1) := by decide +kernel
theorem dX5_riser_14 : decode cX5_riser 14 = .ok (.getfield 7, 3) := by decide +kernel
theorem dX5_riser_17 : decode cX5_riser 17 = .ok (.bipush 13, 2) := by decide +kernel
theorem dX5_riser_19 : decode cX5_riser 19 = .ok (.iload 4, 2) := by decide +kernel
theorem dX5_riser_21 : decode cX5_riser 21 = .ok (.iadd, 1) := by decide +kernel
theorem dX5_riser_22 : decode cX5_riser 22 = .ok (.laload, 1) := by decide +kernel
theorem dX5_riser_23 : decode cX5_riser 23 = .ok (.ldc2_w 110, 3) := by decide +kernel
theorem dX5_riser_26 : decode cX5_riser 26 = .ok (.lcmp, 1) := by decide +kernel
theorem dX5_riser_27 : decode cX5_riser 27 = .ok (.ifCond .ge 13, 3) := by decide +kernel
theorem dX5_riser_30 : decode cX5_riser 30 = .ok (.aload_n 0, 1) := by decide +kernel
theorem dX5_riser_31 : decode cX5_riser 31 = .ok (.iload 4, 2) := by decide +kernel
theorem dX5_riser_33 : decode cX5_riser 33 = .ok (.iconst 1, 1) := by decide +kernel
theorem dX5_riser_34 : decode cX5_riser 34 = .ok (.invokevirtual 112, 3) := by decide +kernel
theorem dX5_riser_37 : decode cX5_riser 37 = .ok (.goto 4, 3) := by decide +kernel
theorem dX5_riser_40 : decode cX5_riser 40 = .ok (.iconst (-1), 1) := by decide +kernel
theorem dX5_riser_41 : decode cX5_riser 41 = .ok (.istore 5, 2) := by decide +kernel
theorem dX5_riser_43 : decode cX5_riser 43 = .ok (.iload 5, 2) := by decide +kernel
theorem dX5_riser_45 : decode cX5_riser 45 = .ok (.iconst (-1), 1) := by decide +kernel
theorem dX5_riser_46 : decode cX5_riser 46 = .ok (.if_icmp .eq 24, 3) := by decide +kernel
theorem dX5_riser_49 : decode cX5_riser 49 = .ok (.iload 5, 2) := by decide +kernel
theorem dX5_riser_51 : decode cX5_riser 51 = .ok (.iload_n 1, 1) := by decide +kernel
theorem dX5_riser_52 : decode cX5_riser 52 = .ok (.if_icmp .gt 18, 3) := by decide +kernel
theorem dX5_riser_55 : decode cX5_riser 55 = .ok (.iload_n 2, 1) := by decide +kernel
theorem dX5_riser_56 : decode cX5_riser 56 = .ok (.iconst (-1), 1) := by decide +kernel
theorem dX5_riser_57 : decode cX5_riser 57 = .ok (.if_icmp .eq 9, 3) := by decide +kernel
theorem dX5_riser_60 : decode cX5_riser 60 = .ok (.iload 5, 2) := by decide +kernel
theorem dX5_riser_62 : decode cX5_riser 62 = .ok (.iload_n 3, 1) := by decide +kernel
theorem dX5_riser_63 : decode cX5_riser 63 = .ok (.if_icmp .ge 7, 3) := by decide +kernel
theorem dX5_riser_66 : decode cX5_riser 66 = .ok (.iconst 1, 1) := by decide +kernel
theorem dX5_riser_67 : decode cX5_riser 67 = .ok (.goto 4, 3) := by decide +kernel
theorem dX5_riser_70 : decode cX5_riser 70 = .ok (.iconst 0, 1) := by decide +kernel
theorem dX5_riser_71 : decode cX5_riser 71 = .ok (.istore 6, 2) := by decide +kernel
theorem dX5_riser_73 : decode cX5_riser 73 = .ok (.iload 6, 2) := by decide +kernel
theorem dX5_riser_75 : decode cX5_riser 75 = .ok (.ifCond .eq 8, 3) := by decide +kernel
theorem dX5_riser_78 : decode cX5_riser 78 = .ok (.iload 5, 2) := by decide +kernel
theorem dX5_riser_80 : decode cX5_riser 80 = .ok (.goto 4, 3) := by decide +kernel
theorem dX5_riser_83 : decode cX5_riser 83 = .ok (.iload_n 3, 1) := by decide +kernel
theorem dX5_riser_84 : decode cX5_riser 84 = .ok (.istore_n 3, 1) := by decide +kernel
theorem dX5_riser_85 : decode cX5_riser 85 = .ok (.iload 6, 2) := by decide +kernel
theorem dX5_riser_87 : decode cX5_riser 87 = .ok (.ifCond .eq 8, 3) := by decide +kernel
theorem dX5_riser_90 : decode cX5_riser 90 = .ok (.iload 4, 2) := by decide +kernel
theorem dX5_riser_92 : decode cX5_riser 92 = .ok (.goto 4, 3) := by decide +kernel
theorem dX5_riser_95 : decode cX5_riser 95 = .ok (.iload_n 2, 1) := by decide +kernel
theorem dX5_riser_96 : decode cX5_riser 96 = .ok (.istore_n 2, 1) := by decide +kernel
theorem dX5_riser_97 : decode cX5_riser 97 = .ok (.iinc 4 1, 3) := by decide +kernel
theorem dX5_riser_100 : decode cX5_riser 100 = .ok (.goto (-93), 3) := by decide +kernel
theorem dX5_riser_103 : decode cX5_riser 103 = .ok (.iload_n 2, 1) := by decide +kernel
theorem dX5_riser_104 : decode cX5_riser 104 = .ok (.ireturn, 1) := by decide +kernel
theorem dX5_sinker_0 : decode cX5_sinker 0 = .ok (.iconst (-1), 1) := by decide +kernel
theorem dX5_sinker_1 : decode cX5_sinker 1 = .ok (.istore_n 2, 1) := by decide +kernel
theorem dX5_sinker_2 : decode cX5_sinker 2 = .ok (.iload_n 1, 1) := by decide +kernel
theorem dX5_sinker_3 : decode cX5_sinker 3 = .ok (.istore_n 3, 1) := by decide +kernel
theorem dX5_sinker_4 : decode cX5_sinker 4 = .ok (.iconst 0, 1) := by decide +kernel
theorem dX5_sinker_5 : decode cX5_sinker 5 = .ok (.istore 4, 2) := by decide +kernel
theorem dX5_sinker_7 : decode cX5_sinker 7 = .ok (.iload 4, 2) := by decide +kernel
theorem dX5_sinker_9 : decode cX5_sinker 9 = .ok (.iconst 4, 1) := by decide +kernel
theorem dX5_sinker_10 : decode cX5_sinker 10 = .ok (.if_icmp .ge 63, 3) := by decide +kernel
theorem dX5_sinker_13 : decode cX5_sinker 13 = .ok (.aload_n 0, 1) := by decide +kernel
theorem dX5_sinker_14 : decode cX5_sinker 14 = .ok (.getfield 7, 3) := by decide +kernel
theorem dX5_sinker_17 : decode cX5_sinker 17 = .ok (.bipush 13, 2) := by decide +kernel
theorem dX5_sinker_19 : decode cX5_sinker 19 = .ok (.iload 4, 2) := by decide +kernel
theorem dX5_sinker_21 : decode cX5_sinker 21 = .ok (.iadd, 1) := by decide +kernel
theorem dX5_sinker_22 : decode cX5_sinker 22 = .ok (.laload, 1) := by decide +kernel
theorem dX5_sinker_23 : decode cX5_sinker 23 = .ok (.lconst 0, 1) := by decide +kernel
theorem dX5_sinker_24 : decode cX5_sinker 24 = .ok (.lcmp, 1) := by decide +kernel
theorem dX5_sinker_25 : decode cX5_sinker 25 = .ok (.ifCond .le 13, 3) := by decide +kernel
theorem dX5_sinker_28 : decode cX5_sinker 28 = .ok (.aload_n 0, 1) := by decide +kernel
theorem dX5_sinker_29 : decode cX5_sinker 29 = .ok (.iload 4, 2) := by decide +kernel
theorem dX5_sinker_31 : decode cX5_sinker 31 = .ok (.iconst 0, 1) := by decide +kernel
theorem dX5_sinker_32 : decode cX5_sinker 32 = .ok (.invokevirtual 112, 3) := by decide +kernel
theorem dX5_sinker_35 : decode cX5_sinker 35 = .ok (.goto 4, 3) := by decide +kernel
theorem dX5_sinker_38 : decode cX5_sinker 38 = .ok (.iconst (-1), 1) := by decide +kernel
theorem dX5_sinker_39 : decode cX5_sinker 39 = .ok (.istore 5, 2) := by decide +kernel
theorem dX5_sinker_41 : decode cX5_sinker 41 = .ok (.iload 5, 2) := by decide +kernel
theorem dX5_sinker_43 : decode cX5_sinker 43 = .ok (.iload_n 3, 1) := by decide +kernel
theorem dX5_sinker_44 : decode cX5_sinker 44 = .ok (.if_icmp .le 8, 3) := by decide +kernel
theorem dX5_sinker_47 : decode cX5_sinker 47 = .ok (.iload 4, 2) := by decide +kernel
theorem dX5_sinker_49 : decode cX5_sinker 49 = .ok (.goto 4, 3) := by decide +kernel
theorem dX5_sinker_52 : decode cX5_sinker 52 = .ok (.iload_n 2, 1) := by decide +kernel
theorem dX5_sinker_53 : decode cX5_sinker 53 = .ok (.istore_n 2, 1) := by decide +kernel
theorem dX5_sinker_54 : decode cX5_sinker 54 = .ok (.iload 5, 2) := by decide +kernel
theorem dX5_sinker_56 : decode cX5_sinker 56 = .ok (.iload_n 3, 1) := by decide +kernel
theorem dX5_sinker_57 : decode cX5_sinker 57 = .ok (.if_icmp .le 8, 3) := by decide +kernel
theorem dX5_sinker_60 : decode cX5_sinker 60 = .ok (.iload 5, 2) := by decide +kernel
theorem dX5_sinker_62 : decode cX5_sinker 62 = .ok (.goto 4, 3) := by decide +kernel
theorem dX5_sinker_65 : decode cX5_sinker 65 = .ok (.iload_n 3, 1) := by decide +kernel
theorem dX5_sinker_66 : decode cX5_sinker 66 = .ok (.istore_n 3, 1) := by decide +kernel
theorem dX5_sinker_67 : decode cX5_sinker 67 = .ok (.iinc 4 1, 3) := by decide +kernel
theorem dX5_sinker_70 : decode cX5_sinker 70 = .ok (.goto (-63), 3) := by decide +kernel
theorem dX5_sinker_73 : decode cX5_sinker 73 = .ok (.iload_n 2, 1) := by decide +kernel
theorem dX5_sinker_74 : decode cX5_sinker 74 = .ok (.ireturn, 1) := by decide +kernel
theorem dX5_lesser_0 : decode cX5_lesser 0 = .ok (.lload_n 0, 1) := by decide +kernel
theorem dX5_lesser_1 : decode cX5_lesser 1 = .ok (.lload_n 2, 1) := by decide +kernel
theorem dX5_lesser_2 : decode cX5_lesser 2 = .ok (.lcmp, 1) := by decide +kernel
theorem dX5_lesser_3 : decode cX5_lesser 3 = .ok (.ifCond .ge 7, 3) := by decide +kernel
theorem dX5_lesser_6 : decode cX5_lesser 6 = .ok (.lload_n 0, 1) := by decide +kernel
theorem dX5_lesser_7 : decode cX5_lesser 7 = .ok (.goto 4, 3) := by decide +kernel
theorem dX5_lesser_10 : decode cX5_lesser 10 = .ok (.lload_n 2, 1) := by decide +kernel
theorem dX5_lesser_11 : decode cX5_lesser 11 = .ok (.l2i, 1) := by decide +kernel
theorem dX5_lesser_12 : decode cX5_lesser 12 = .ok (.ireturn, 1) := by decide +kernel
theorem dX5_hauls_0 : decode cX5_hauls 0 = .ok (.iload_n 2, 1) := by decide +kernel
theorem dX5_hauls_1 : decode cX5_hauls 1 = .ok (.istore_n 3, 1) := by decide +kernel
theorem dX5_hauls_2 : decode cX5_hauls 2 = .ok (.aload_n 0, 1) := by decide +kernel
theorem dX5_hauls_3 : decode cX5_hauls 3 = .ok (.iload_n 1, 1) := by decide +kernel
theorem dX5_hauls_4 : decode cX5_hauls 4 = .ok (.invokevirtual 116, 3) := by decide +kernel
theorem dX5_hauls_7 : decode cX5_hauls 7 = .ok (.istore 4, 2) := by decide +kernel
theorem dX5_hauls_9 : decode cX5_hauls 9 = .ok (.iload 4, 2) := by decide +kernel
theorem dX5_hauls_11 : decode cX5_hauls 11 = .ok (.iconst (-1), 1) := by decide +kernel
theorem dX5_hauls_12 : decode cX5_hauls 12 = .ok (.if_icmp .ne 7, 3) := by decide +kernel
theorem dX5_hauls_15 : decode cX5_hauls 15 = .ok (.iconst 0, 1) := by decide +kernel
theorem dX5_hauls_16 : decode cX5_hauls 16 = .ok (.goto 29, 3) := by decide +kernel
theorem dX5_hauls_19 : decode cX5_hauls 19 = .ok (.iload_n 3, 1) := by decide +kernel
theorem dX5_hauls_20 : decode cX5_hauls 20 = .ok (.aload_n 0, 1) := by decide +kernel
theorem dX5_hauls_21 : decode cX5_hauls 21 = .ok (.iload 4, 2) := by decide +kernel
theorem dX5_hauls_23 : decode cX5_hauls 23 = .ok (.invokevirtual 56, 3) := by decide +kernel
theorem dX5_hauls_26 : decode cX5_hauls 26 = .ok (.idiv, 1) := by decide +kernel
theorem dX5_hauls_27 : decode cX5_hauls 27 = .ok (.i2l, 1) := by decide +kernel
theorem dX5_hauls_28 : decode cX5_hauls 28 = .ok (.ldc2_w 110, 3) := by decide +kernel
theorem dX5_hauls_31 : decode cX5_hauls 31 = .ok (.aload_n 0, 1) := by decide +kernel
theorem dX5_hauls_32 : decode cX5_hauls 32 = .ok (.getfield 7, 3) := by decide +kernel
theorem dX5_hauls_35 : decode cX5_hauls 35 = .ok (.bipush 13, 2) := by decide +kernel
theorem dX5_hauls_37 : decode cX5_hauls 37 = .ok (.iload 4, 2) := by decide +kernel
theorem dX5_hauls_39 : decode cX5_hauls 39 = .ok (.iadd, 1) := by decide +kernel
theorem dX5_hauls_40 : decode cX5_hauls 40 = .ok (.laload, 1) := by decide +kernel
theorem dX5_hauls_41 : decode cX5_hauls 41 = .ok (.lsub, 1) := by decide +kernel
theorem dX5_hauls_42 : decode cX5_hauls 42 = .ok (.invokestatic 119, 3) := by decide +kernel
theorem dX5_hauls_45 : decode cX5_hauls 45 = .ok (.istore 5, 2) := by decide +kernel
theorem dX5_hauls_47 : decode cX5_hauls 47 = .ok (.iload 5, 2) := by decide +kernel
theorem dX5_hauls_49 : decode cX5_hauls 49 = .ok (.ifCond .le 120, 3) := by decide +kernel
theorem dX5_hauls_52 : decode cX5_hauls 52 = .ok (.aload_n 0, 1) := by decide +kernel
theorem dX5_hauls_53 : decode cX5_hauls 53 = .ok (.getfield 7, 3) := by decide +kernel
theorem dX5_hauls_56 : decode cX5_hauls 56 = .ok (.bipush 13, 2) := by decide +kernel
theorem dX5_hauls_58 : decode cX5_hauls 58 = .ok (.iload 4, 2) := by decide +kernel
theorem dX5_hauls_60 : decode cX5_hauls 60 = .ok (.iadd, 1) := by decide +kernel
theorem dX5_hauls_61 : decode cX5_hauls 61 = .ok (.dup2, 1) := by decide +kernel
theorem dX5_hauls_62 : decode cX5_hauls 62 = .ok (.laload, 1) := by decide +kernel
theorem dX5_hauls_63 : decode cX5_hauls 63 = .ok (.iload 5, 2) := by decide +kernel
theorem dX5_hauls_65 : decode cX5_hauls 65 = .ok (.i2l, 1) := by decide +kernel
theorem dX5_hauls_66 : decode cX5_hauls 66 = .ok (.ladd, 1) := by decide +kernel
theorem dX5_hauls_67 : decode cX5_hauls 67 = .ok (.lastore, 1) := by decide +kernel
theorem dX5_hauls_68 : decode cX5_hauls 68 = .ok (.aload_n 0, 1) := by decide +kernel
theorem dX5_hauls_69 : decode cX5_hauls 69 = .ok (.getfield 7, 3) := by decide +kernel
theorem dX5_hauls_72 : decode cX5_hauls 72 = .ok (.bipush 8, 2) := by decide +kernel
theorem dX5_hauls_74 : decode cX5_hauls 74 = .ok (.dup2, 1) := by decide +kernel
theorem dX5_hauls_75 : decode cX5_hauls 75 = .ok (.laload, 1) := by decide +kernel
theorem dX5_hauls_76 : decode cX5_hauls 76 = .ok (.aload_n 0, 1) := by decide +kernel
theorem dX5_hauls_77 : decode cX5_hauls 77 = .ok (.getfield 7, 3) := by decide +kernel
theorem dX5_hauls_80 : decode cX5_hauls 80 = .ok (.bipush 9, 2) := by decide +kernel
theorem dX5_hauls_82 : decode cX5_hauls 82 = .ok (.iload 4, 2) := by decide +kernel
theorem dX5_hauls_84 : decode cX5_hauls 84 = .ok (.iadd, 1) := by decide +kernel
theorem dX5_hauls_85 : decode cX5_hauls 85 = .ok (.laload, 1) := by decide +kernel
theorem dX5_hauls_86 : decode cX5_hauls 86 = .ok (.iload 5, 2) := by decide +kernel
theorem dX5_hauls_88 : decode cX5_hauls 88 = .ok (.i2l, 1) := by decide +kernel
theorem dX5_hauls_89 : decode cX5_hauls 89 = .ok (.lmul, 1) := by decide +kernel
theorem dX5_hauls_90 : decode cX5_hauls 90 = .ok (.ladd, 1) := by decide +kernel
theorem dX5_hauls_91 : decode cX5_hauls 91 = .ok (.lastore, 1) := by decide +kernel
theorem dX5_hauls_92 : decode cX5_hauls 92 = .ok (.iload_n 3, 1) := by decide +kernel
theorem dX5_hauls_93 : decode cX5_hauls 93 = .ok (.aload_n 0, 1) := by decide +kernel
theorem dX5_hauls_94 : decode cX5_hauls 94 = .ok (.iload 4, 2) := by decide +kernel
theorem dX5_hauls_96 : decode cX5_hauls 96 = .ok (.invokevirtual 56, 3) := by decide +kernel
theorem dX5_hauls_99 : decode cX5_hauls 99 = .ok (.iload 5, 2) := by decide +kernel
theorem dX5_hauls_101 : decode cX5_hauls 101 = .ok (.imul, 1) := by decide +kernel
theorem dX5_hauls_102 : decode cX5_hauls 102 = .ok (.isub, 1) := by decide +kernel
theorem dX5_hauls_103 : decode cX5_hauls 103 = .ok (.istore_n 3, 1) := by decide +kernel
theorem dX5_hauls_104 : decode cX5_hauls 104 = .ok (.aload_n 0, 1) := by decide +kernel
theorem dX5_hauls_105 : decode cX5_hauls 105 = .ok (.iload 4, 2) := by decide +kernel
theorem dX5_hauls_107 : decode cX5_hauls 107 = .ok (.iload 5, 2) := by decide +kernel
theorem dX5_hauls_109 : decode cX5_hauls 109 = .ok (.aload_n 0, 1) := by decide +kernel
theorem dX5_hauls_110 : decode cX5_hauls 110 = .ok (.iload 4, 2) := by decide +kernel
theorem dX5_hauls_112 : decode cX5_hauls 112 = .ok (.invokevirtual 56, 3) := by decide +kernel
theorem dX5_hauls_115 : decode cX5_hauls 115 = .ok (.iload 5, 2) := by decide +kernel
theorem dX5_hauls_117 : decode cX5_hauls 117 = .ok (.imul, 1) := by decide +kernel
theorem dX5_hauls_118 : decode cX5_hauls 118 = .ok (.invokevirtual 123, 3) := by decide +kernel
theorem dX5_hauls_121 : decode cX5_hauls 121 = .ok (.aload_n 0, 1) := by decide +kernel
theorem dX5_hauls_122 : decode cX5_hauls 122 = .ok (.iload_n 1, 1) := by decide +kernel
theorem dX5_hauls_123 : decode cX5_hauls 123 = .ok (.invokevirtual 116, 3) := by decide +kernel
theorem dX5_hauls_126 : decode cX5_hauls 126 = .ok (.istore 4, 2) := by decide +kernel
theorem dX5_hauls_128 : decode cX5_hauls 128 = .ok (.iload 4, 2) := by decide +kernel
theorem dX5_hauls_130 : decode cX5_hauls 130 = .ok (.iconst (-1), 1) := by decide +kernel
theorem dX5_hauls_131 : decode cX5_hauls 131 = .ok (.if_icmp .ne 7, 3) := by decide +kernel
theorem dX5_hauls_134 : decode cX5_hauls 134 = .ok (.iconst 0, 1) := by decide +kernel
theorem dX5_hauls_135 : decode cX5_hauls 135 = .ok (.goto 29, 3) := by decide +kernel
theorem dX5_hauls_138 : decode cX5_hauls 138 = .ok (.iload_n 3, 1) := by decide +kernel
theorem dX5_hauls_139 : decode cX5_hauls 139 = .ok (.aload_n 0, 1) := by decide +kernel
theorem dX5_hauls_140 : decode cX5_hauls 140 = .ok (.iload 4, 2) := by decide +kernel
theorem dX5_hauls_142 : decode cX5_hauls 142 = .ok (.invokevirtual 56, 3) := by decide +kernel
theorem dX5_hauls_145 : decode cX5_hauls 145 = .ok (.idiv, 1) := by decide +kernel
theorem dX5_hauls_146 : decode cX5_hauls 146 = .ok (.i2l, 1) := by decide +kernel
theorem dX5_hauls_147 : decode cX5_hauls 147 = .ok (.ldc2_w 110, 3) := by decide +kernel
theorem dX5_hauls_150 : decode cX5_hauls 150 = .ok (.aload_n 0, 1) := by decide +kernel
theorem dX5_hauls_151 : decode cX5_hauls 151 = .ok (.getfield 7, 3) := by decide +kernel
theorem dX5_hauls_154 : decode cX5_hauls 154 = .ok (.bipush 13, 2) := by decide +kernel
theorem dX5_hauls_156 : decode cX5_hauls 156 = .ok (.iload 4, 2) := by decide +kernel
theorem dX5_hauls_158 : decode cX5_hauls 158 = .ok (.iadd, 1) := by decide +kernel
theorem dX5_hauls_159 : decode cX5_hauls 159 = .ok (.laload, 1) := by decide +kernel
theorem dX5_hauls_160 : decode cX5_hauls 160 = .ok (.lsub, 1) := by decide +kernel
theorem dX5_hauls_161 : decode cX5_hauls 161 = .ok (.invokestatic 119, 3) := by decide +kernel
theorem dX5_hauls_164 : decode cX5_hauls 164 = .ok (.istore 5, 2) := by decide +kernel
theorem dX5_hauls_166 : decode cX5_hauls 166 = .ok (.goto (-119), 3) := by decide +kernel
theorem dX5_hauls_169 : decode cX5_hauls 169 = .ok (.aload_n 0, 1) := by decide +kernel
theorem dX5_hauls_170 : decode cX5_hauls 170 = .ok (.getfield 7, 3) := by decide +kernel
theorem dX5_hauls_173 : decode cX5_hauls 173 = .ok (.bipush 7, 2) := by decide +kernel
theorem dX5_hauls_175 : decode cX5_hauls 175 = .ok (.dup2, 1) := by decide +kernel
theorem dX5_hauls_176 : decode cX5_hauls 176 = .ok (.laload, 1) := by decide +kernel
theorem dX5_hauls_177 : decode cX5_hauls 177 = .ok (.iload_n 1, 1) := by decide +kernel
theorem dX5_hauls_178 : decode cX5_hauls 178 = .ok (.i2l, 1) := by decide +kernel
theorem dX5_hauls_179 : decode cX5_hauls 179 = .ok (.iload_n 2, 1) := by decide +kernel
theorem dX5_hauls_180 : decode cX5_hauls 180 = .ok (.iload_n 3, 1) := by decide +kernel
theorem dX5_hauls_181 : decode cX5_hauls 181 = .ok (.isub, 1) := by decide +kernel
theorem dX5_hauls_182 : decode cX5_hauls 182 = .ok (.i2l, 1) := by decide +kernel
theorem dX5_hauls_183 : decode cX5_hauls 183 = .ok (.lmul, 1) := by decide +kernel
theorem dX5_hauls_184 : decode cX5_hauls 184 = .ok (.ladd, 1) := by decide +kernel
theorem dX5_hauls_185 : decode cX5_hauls 185 = .ok (.lastore, 1) := by decide +kernel
theorem dX5_hauls_186 : decode cX5_hauls 186 = .ok (.iload_n 2, 1) := by decide +kernel
theorem dX5_hauls_187 : decode cX5_hauls 187 = .ok (.iload_n 3, 1) := by decide +kernel
theorem dX5_hauls_188 : decode cX5_hauls 188 = .ok (.isub, 1) := by decide +kernel
theorem dX5_hauls_189 : decode cX5_hauls 189 = .ok (.ireturn, 1) := by decide +kernel
theorem dX5_haul_0 : decode cX5_haul 0 = .ok (.iload_n 1, 1) := by decide +kernel
theorem dX5_haul_1 : decode cX5_haul 1 = .ok (.invokestatic 127, 3) := by decide +kernel
theorem dX5_haul_4 : decode cX5_haul 4 = .ok (.ifCond .eq 15, 3) := by decide +kernel
theorem dX5_haul_7 : decode cX5_haul 7 = .ok (.iload_n 2, 1) := by decide +kernel
theorem dX5_haul_8 : decode cX5_haul 8 = .ok (.i2l, 1) := by decide +kernel
theorem dX5_haul_9 : decode cX5_haul 9 = .ok (.lconst 0, 1) := by decide +kernel
theorem dX5_haul_10 : decode cX5_haul 10 = .ok (.ldc2_w 130, 3) := by decide +kernel
theorem dX5_haul_13 : decode cX5_haul 13 = .ok (.invokestatic 43, 3) := by decide +kernel
theorem dX5_haul_16 : decode cX5_haul 16 = .ok (.ifCond .ne 9, 3) := by decide +kernel
theorem dX5_haul_19 : decode cX5_haul 19 = .ok (.aload_n 0, 1) := by decide +kernel
theorem dX5_haul_20 : decode cX5_haul 20 = .ok (.iconst 1, 1) := by decide +kernel
theorem dX5_haul_21 : decode cX5_haul 21 = .ok (.invokevirtual 85, 3) := by decide +kernel
theorem dX5_haul_24 : decode cX5_haul 24 = .ok (.ireturn, 1) := by decide +kernel
theorem dX5_haul_25 : decode cX5_haul 25 = .ok (.aload_n 0, 1) := by decide +kernel
theorem dX5_haul_26 : decode cX5_haul 26 = .ok (.invokevirtual 75, 3) := by decide +kernel
theorem dX5_haul_29 : decode cX5_haul 29 = .ok (.aload_n 0, 1) := by decide +kernel
theorem dX5_haul_30 : decode cX5_haul 30 = .ok (.aload_n 0, 1) := by decide +kernel
theorem dX5_haul_31 : decode cX5_haul 31 = .ok (.iload_n 1, 1) := by decide +kernel
theorem dX5_haul_32 : decode cX5_haul 32 = .ok (.iload_n 2, 1) := by decide +kernel
theorem dX5_haul_33 : decode cX5_haul 33 = .ok (.invokevirtual 132, 3) := by decide +kernel
theorem dX5_haul_36 : decode cX5_haul 36 = .ok (.invokevirtual 78, 3) := by decide +kernel
theorem dX5_haul_39 : decode cX5_haul 39 = .ok (.ireturn, 1) := by decide +kernel
theorem dX5_letOut_0 : decode cX5_letOut 0 = .ok (.iload_n 1, 1) := by decide +kernel
theorem dX5_letOut_1 : decode cX5_letOut 1 = .ok (.invokestatic 127, 3) := by decide +kernel
theorem dX5_letOut_4 : decode cX5_letOut 4 = .ok (.ifCond .eq 15, 3) := by decide +kernel
theorem dX5_letOut_7 : decode cX5_letOut 7 = .ok (.iload_n 2, 1) := by decide +kernel
theorem dX5_letOut_8 : decode cX5_letOut 8 = .ok (.i2l, 1) := by decide +kernel
theorem dX5_letOut_9 : decode cX5_letOut 9 = .ok (.lconst 0, 1) := by decide +kernel
theorem dX5_letOut_10 : decode cX5_letOut 10 = .ok (.ldc2_w 130, 3) := by decide +kernel
theorem dX5_letOut_13 : decode cX5_letOut 13 = .ok (.invokestatic 43, 3) := by decide +kernel
theorem dX5_letOut_16 : decode cX5_letOut 16 = .ok (.ifCond .ne 9, 3) := by decide +kernel
theorem dX5_letOut_19 : decode cX5_letOut 19 = .ok (.aload_n 0, 1) := by decide +kernel
theorem dX5_letOut_20 : decode cX5_letOut 20 = .ok (.iconst 1, 1) := by decide +kernel
theorem dX5_letOut_21 : decode cX5_letOut 21 = .ok (.invokevirtual 85, 3) := by decide +kernel
theorem dX5_letOut_24 : decode cX5_letOut 24 = .ok (.ireturn, 1) := by decide +kernel
theorem dX5_letOut_25 : decode cX5_letOut 25 = .ok (.aload_n 0, 1) := by decide +kernel
theorem dX5_letOut_26 : decode cX5_letOut 26 = .ok (.invokevirtual 75, 3) := by decide +kernel
theorem dX5_letOut_29 : decode cX5_letOut 29 = .ok (.iload_n 2, 1) := by decide +kernel
theorem dX5_letOut_30 : decode cX5_letOut 30 = .ok (.i2l, 1) := by decide +kernel
theorem dX5_letOut_31 : decode cX5_letOut 31 = .ok (.aload_n 0, 1) := by decide +kernel
theorem dX5_letOut_32 : decode cX5_letOut 32 = .ok (.invokevirtual 98, 3) := by decide +kernel
theorem dX5_letOut_35 : decode cX5_letOut 35 = .ok (.i2l, 1) := by decide +kernel
theorem dX5_letOut_36 : decode cX5_letOut 36 = .ok (.invokestatic 119, 3) := by decide +kernel
theorem dX5_letOut_39 : decode cX5_letOut 39 = .ok (.istore_n 3, 1) := by decide +kernel
theorem dX5_letOut_40 : decode cX5_letOut 40 = .ok (.iload_n 3, 1) := by decide +kernel
theorem dX5_letOut_41 : decode cX5_letOut 41 = .ok (.istore 4, 2) := by decide +kernel
theorem dX5_letOut_43 : decode cX5_letOut 43 = .ok (.aload_n 0, 1) := by decide +kernel
theorem dX5_letOut_44 : decode cX5_letOut 44 = .ok (.iload_n 1, 1) := by decide +kernel
theorem dX5_letOut_45 : decode cX5_letOut 45 = .ok (.invokevirtual 135, 3) := by decide +kernel
theorem dX5_letOut_48 : decode cX5_letOut 48 = .ok (.istore 5, 2) := by decide +kernel
theorem dX5_letOut_50 : decode cX5_letOut 50 = .ok (.iload 5, 2) := by decide +kernel
theorem dX5_letOut_52 : decode cX5_letOut 52 = .ok (.iconst (-1), 1) := by decide +kernel
theorem dX5_letOut_53 : decode cX5_letOut 53 = .ok (.if_icmp .ne 7, 3) := by decide +kernel
theorem dX5_letOut_56 : decode cX5_letOut 56 = .ok (.iconst 0, 1) := by decide +kernel
theorem dX5_letOut_57 : decode cX5_letOut 57 = .ok (.goto 26, 3) := by decide +kernel
theorem dX5_letOut_60 : decode cX5_letOut 60 = .ok (.iload 4, 2) := by decide +kernel
theorem dX5_letOut_62 : decode cX5_letOut 62 = .ok (.aload_n 0, 1) := by decide +kernel
theorem dX5_letOut_63 : decode cX5_letOut 63 = .ok (.iload 5, 2) := by decide +kernel
theorem dX5_letOut_65 : decode cX5_letOut 65 = .ok (.invokevirtual 56, 3) := by decide +kernel
theorem dX5_letOut_68 : decode cX5_letOut 68 = .ok (.idiv, 1) := by decide +kernel
theorem dX5_letOut_69 : decode cX5_letOut 69 = .ok (.i2l, 1) := by decide +kernel
theorem dX5_letOut_70 : decode cX5_letOut 70 = .ok (.aload_n 0, 1) := by decide +kernel
theorem dX5_letOut_71 : decode cX5_letOut 71 = .ok (.getfield 7, 3) := by decide +kernel
theorem dX5_letOut_74 : decode cX5_letOut 74 = .ok (.bipush 13, 2) := by decide +kernel
theorem dX5_letOut_76 : decode cX5_letOut 76 = .ok (.iload 5, 2) := by decide +kernel
theorem dX5_letOut_78 : decode cX5_letOut 78 = .ok (.iadd, 1) := by decide +kernel
theorem dX5_letOut_79 : decode cX5_letOut 79 = .ok (.laload, 1) := by decide +kernel
theorem dX5_letOut_80 : decode cX5_letOut 80 = .ok (.invokestatic 119, 3) := by decide +kernel
theorem dX5_letOut_83 : decode cX5_letOut 83 = .ok (.istore 6, 2) := by decide +kernel
theorem dX5_letOut_85 : decode cX5_letOut 85 = .ok (.iload 6, 2) := by decide +kernel
theorem dX5_letOut_87 : decode cX5_letOut 87 = .ok (.ifCond .le 97, 3) := by decide +kernel
theorem dX5_letOut_90 : decode cX5_letOut 90 = .ok (.aload_n 0, 1) := by decide +kernel
theorem dX5_letOut_91 : decode cX5_letOut 91 = .ok (.getfield 7, 3) := by decide +kernel
theorem dX5_letOut_94 : decode cX5_letOut 94 = .ok (.bipush 13, 2) := by decide +kernel
theorem dX5_letOut_96 : decode cX5_letOut 96 = .ok (.iload 5, 2) := by decide +kernel
theorem dX5_letOut_98 : decode cX5_letOut 98 = .ok (.iadd, 1) := by decide +kernel
theorem dX5_letOut_99 : decode cX5_letOut 99 = .ok (.dup2, 1) := by decide +kernel
theorem dX5_letOut_100 : decode cX5_letOut 100 = .ok (.laload, 1) := by decide +kernel
theorem dX5_letOut_101 : decode cX5_letOut 101 = .ok (.iload 6, 2) := by decide +kernel
theorem dX5_letOut_103 : decode cX5_letOut 103 = .ok (.i2l, 1) := by decide +kernel
theorem dX5_letOut_104 : decode cX5_letOut 104 = .ok (.lsub, 1) := by decide +kernel
theorem dX5_letOut_105 : decode cX5_letOut 105 = .ok (.lastore, 1) := by decide +kernel
theorem dX5_letOut_106 : decode cX5_letOut 106 = .ok (.iload 4, 2) := by decide +kernel
theorem dX5_letOut_108 : decode cX5_letOut 108 = .ok (.aload_n 0, 1) := by decide +kernel
theorem dX5_letOut_109 : decode cX5_letOut 109 = .ok (.iload 5, 2) := by decide +kernel
theorem dX5_letOut_111 : decode cX5_letOut 111 = .ok (.invokevirtual 56, 3) := by decide +kernel
theorem dX5_letOut_114 : decode cX5_letOut 114 = .ok (.iload 6, 2) := by decide +kernel
theorem dX5_letOut_116 : decode cX5_letOut 116 = .ok (.imul, 1) := by decide +kernel
theorem dX5_letOut_117 : decode cX5_letOut 117 = .ok (.isub, 1) := by decide +kernel
theorem dX5_letOut_118 : decode cX5_letOut 118 = .ok (.istore 4, 2) := by decide +kernel
theorem dX5_letOut_120 : decode cX5_letOut 120 = .ok (.aload_n 0, 1) := by decide +kernel
theorem dX5_letOut_121 : decode cX5_letOut 121 = .ok (.iload 5, 2) := by decide +kernel
theorem dX5_letOut_123 : decode cX5_letOut 123 = .ok (.iload 6, 2) := by decide +kernel
theorem dX5_letOut_125 : decode cX5_letOut 125 = .ok (.ineg, 1) := by decide +kernel
theorem dX5_letOut_126 : decode cX5_letOut 126 = .ok (.aload_n 0, 1) := by decide +kernel
theorem dX5_letOut_127 : decode cX5_letOut 127 = .ok (.iload 5, 2) := by decide +kernel
theorem dX5_letOut_129 : decode cX5_letOut 129 = .ok (.invokevirtual 56, 3) := by decide +kernel
theorem dX5_letOut_132 : decode cX5_letOut 132 = .ok (.ineg, 1) := by decide +kernel
theorem dX5_letOut_133 : decode cX5_letOut 133 = .ok (.iload 6, 2) := by decide +kernel
theorem dX5_letOut_135 : decode cX5_letOut 135 = .ok (.imul, 1) := by decide +kernel
theorem dX5_letOut_136 : decode cX5_letOut 136 = .ok (.invokevirtual 123, 3) := by decide +kernel
theorem dX5_letOut_139 : decode cX5_letOut 139 = .ok (.aload_n 0, 1) := by decide +kernel
theorem dX5_letOut_140 : decode cX5_letOut 140 = .ok (.iload_n 1, 1) := by decide +kernel
theorem dX5_letOut_141 : decode cX5_letOut 141 = .ok (.invokevirtual 135, 3) := by decide +kernel
theorem dX5_letOut_144 : decode cX5_letOut 144 = .ok (.istore 5, 2) := by decide +kernel
theorem dX5_letOut_146 : decode cX5_letOut 146 = .ok (.iload 5, 2) := by decide +kernel
theorem dX5_letOut_148 : decode cX5_letOut 148 = .ok (.iconst (-1), 1) := by decide +kernel
theorem dX5_letOut_149 : decode cX5_letOut 149 = .ok (.if_icmp .ne 7, 3) := by decide +kernel
theorem dX5_letOut_152 : decode cX5_letOut 152 = .ok (.iconst 0, 1) := by decide +kernel
theorem dX5_letOut_153 : decode cX5_letOut 153 = .ok (.goto 26, 3) := by decide +kernel
theorem dX5_letOut_156 : decode cX5_letOut 156 = .ok (.iload 4, 2) := by decide +kernel
theorem dX5_letOut_158 : decode cX5_letOut 158 = .ok (.aload_n 0, 1) := by decide +kernel
theorem dX5_letOut_159 : decode cX5_letOut 159 = .ok (.iload 5, 2) := by decide +kernel
theorem dX5_letOut_161 : decode cX5_letOut 161 = .ok (.invokevirtual 56, 3) := by decide +kernel
theorem dX5_letOut_164 : decode cX5_letOut 164 = .ok (.idiv, 1) := by decide +kernel
theorem dX5_letOut_165 : decode cX5_letOut 165 = .ok (.i2l, 1) := by decide +kernel
theorem dX5_letOut_166 : decode cX5_letOut 166 = .ok (.aload_n 0, 1) := by decide +kernel
theorem dX5_letOut_167 : decode cX5_letOut 167 = .ok (.getfield 7, 3) := by decide +kernel
theorem dX5_letOut_170 : decode cX5_letOut 170 = .ok (.bipush 13, 2) := by decide +kernel
theorem dX5_letOut_172 : decode cX5_letOut 172 = .ok (.iload 5, 2) := by decide +kernel
theorem dX5_letOut_174 : decode cX5_letOut 174 = .ok (.iadd, 1) := by decide +kernel
theorem dX5_letOut_175 : decode cX5_letOut 175 = .ok (.laload, 1) := by decide +kernel
theorem dX5_letOut_176 : decode cX5_letOut 176 = .ok (.invokestatic 119, 3) := by decide +kernel
theorem dX5_letOut_179 : decode cX5_letOut 179 = .ok (.istore 6, 2) := by decide +kernel
theorem dX5_letOut_181 : decode cX5_letOut 181 = .ok (.goto (-96), 3) := by decide +kernel
theorem dX5_letOut_184 : decode cX5_letOut 184 = .ok (.aload_n 0, 1) := by decide +kernel
theorem dX5_letOut_185 : decode cX5_letOut 185 = .ok (.iload_n 3, 1) := by decide +kernel
theorem dX5_letOut_186 : decode cX5_letOut 186 = .ok (.iload 4, 2) := by decide +kernel
theorem dX5_letOut_188 : decode cX5_letOut 188 = .ok (.isub, 1) := by decide +kernel
theorem dX5_letOut_189 : decode cX5_letOut 189 = .ok (.invokevirtual 78, 3) := by decide +kernel
theorem dX5_letOut_192 : decode cX5_letOut 192 = .ok (.ireturn, 1) := by decide +kernel
theorem dX5_blockTold_0 : decode cX5_blockTold 0 = .ok (.iload_n 2, 1) := by decide +kernel
theorem dX5_blockTold_1 : decode cX5_blockTold 1 = .ok (.tableswitch 87 0 5 #[39, 50, 61, 67, 73, 80], 39) := by decide +kernel
theorem dX5_blockTold_40 : decode cX5_blockTold 40 = .ok (.aload_n 0, 1) := by decide +kernel
theorem dX5_blockTold_41 : decode cX5_blockTold 41 = .ok (.getfield 7, 3) := by decide +kernel
theorem dX5_blockTold_44 : decode cX5_blockTold 44 = .ok (.bipush 9, 2) := by decide +kernel
theorem dX5_blockTold_46 : decode cX5_blockTold 46 = .ok (.iload_n 1, 1) := by decide +kernel
theorem dX5_blockTold_47 : decode cX5_blockTold 47 = .ok (.iadd, 1) := by decide +kernel
theorem dX5_blockTold_48 : decode cX5_blockTold 48 = .ok (.laload, 1) := by decide +kernel
theorem dX5_blockTold_49 : decode cX5_blockTold 49 = .ok (.l2i, 1) := by decide +kernel
theorem dX5_blockTold_50 : decode cX5_blockTold 50 = .ok (.ireturn, 1) := by decide +kernel
theorem dX5_blockTold_51 : decode cX5_blockTold 51 = .ok (.aload_n 0, 1) := by decide +kernel
theorem dX5_blockTold_52 : decode cX5_blockTold 52 = .ok (.getfield 7, 3) := by decide +kernel
theorem dX5_blockTold_55 : decode cX5_blockTold 55 = .ok (.bipush 13, 2) := by decide +kernel
theorem dX5_blockTold_57 : decode cX5_blockTold 57 = .ok (.iload_n 1, 1) := by decide +kernel
theorem dX5_blockTold_58 : decode cX5_blockTold 58 = .ok (.iadd, 1) := by decide +kernel
theorem dX5_blockTold_59 : decode cX5_blockTold 59 = .ok (.laload, 1) := by decide +kernel
theorem dX5_blockTold_60 : decode cX5_blockTold 60 = .ok (.l2i, 1) := by decide +kernel
theorem dX5_blockTold_61 : decode cX5_blockTold 61 = .ok (.ireturn, 1) := by decide +kernel
theorem dX5_blockTold_62 : decode cX5_blockTold 62 = .ok (.aload_n 0, 1) := by decide +kernel
theorem dX5_blockTold_63 : decode cX5_blockTold 63 = .ok (.iload_n 1, 1) := by decide +kernel
theorem dX5_blockTold_64 : decode cX5_blockTold 64 = .ok (.invokevirtual 56, 3) := by decide +kernel
theorem dX5_blockTold_67 : decode cX5_blockTold 67 = .ok (.ireturn, 1) := by decide +kernel
theorem dX5_blockTold_68 : decode cX5_blockTold 68 = .ok (.aload_n 0, 1) := by decide +kernel
theorem dX5_blockTold_69 : decode cX5_blockTold 69 = .ok (.iload_n 1, 1) := by decide +kernel
theorem dX5_blockTold_70 : decode cX5_blockTold 70 = .ok (.invokevirtual 52, 3) := by decide +kernel
theorem dX5_blockTold_73 : decode cX5_blockTold 73 = .ok (.ireturn, 1) := by decide +kernel
theorem dX5_blockTold_74 : decode cX5_blockTold 74 = .ok (.aload_n 0, 1) := by decide +kernel
theorem dX5_blockTold_75 : decode cX5_blockTold 75 = .ok (.iload_n 1, 1) := by decide +kernel
theorem dX5_blockTold_76 : decode cX5_blockTold 76 = .ok (.iconst 1, 1) := by decide +kernel
theorem dX5_blockTold_77 : decode cX5_blockTold 77 = .ok (.invokevirtual 112, 3) := by decide +kernel
theorem dX5_blockTold_80 : decode cX5_blockTold 80 = .ok (.ireturn, 1) := by decide +kernel
theorem dX5_blockTold_81 : decode cX5_blockTold 81 = .ok (.aload_n 0, 1) := by decide +kernel
theorem dX5_blockTold_82 : decode cX5_blockTold 82 = .ok (.iload_n 1, 1) := by decide +kernel
theorem dX5_blockTold_83 : decode cX5_blockTold 83 = .ok (.iconst 0, 1) := by decide +kernel
theorem dX5_blockTold_84 : decode cX5_blockTold 84 = .ok (.invokevirtual 112, 3) := by decide +kernel
theorem dX5_blockTold_87 : decode cX5_blockTold 87 = .ok (.ireturn, 1) := by decide +kernel
theorem dX5_blockTold_88 : decode cX5_blockTold 88 = .ok (.aload_n 0, 1) := by decide +kernel
theorem dX5_blockTold_89 : decode cX5_blockTold 89 = .ok (.iload_n 1, 1) := by decide +kernel
theorem dX5_blockTold_90 : decode cX5_blockTold 90 = .ok (.invokevirtual 56, 3) := by decide +kernel
theorem dX5_blockTold_93 : decode cX5_blockTold 93 = .ok (.sipush 9000, 3) := by decide +kernel
theorem dX5_blockTold_96 : decode cX5_blockTold 96 = .ok (.aload_n 0, 1) := by decide +kernel
theorem dX5_blockTold_97 : decode cX5_blockTold 97 = .ok (.getfield 7, 3) := by decide +kernel
theorem dX5_blockTold_100 : decode cX5_blockTold 100 = .ok (.bipush 13, 2) := by decide +kernel
theorem dX5_blockTold_102 : decode cX5_blockTold 102 = .ok (.iload_n 1, 1) := by decide +kernel
theorem dX5_blockTold_103 : decode cX5_blockTold 103 = .ok (.iadd, 1) := by decide +kernel
theorem dX5_blockTold_104 : decode cX5_blockTold 104 = .ok (.laload, 1) := by decide +kernel
theorem dX5_blockTold_105 : decode cX5_blockTold 105 = .ok (.l2i, 1) := by decide +kernel
theorem dX5_blockTold_106 : decode cX5_blockTold 106 = .ok (.isub, 1) := by decide +kernel
theorem dX5_blockTold_107 : decode cX5_blockTold 107 = .ok (.imul, 1) := by decide +kernel
theorem dX5_blockTold_108 : decode cX5_blockTold 108 = .ok (.ireturn, 1) := by decide +kernel
theorem dX5_block_0 : decode cX5_block 0 = .ok (.iload_n 1, 1) := by decide +kernel
theorem dX5_block_1 : decode cX5_block 1 = .ok (.invokestatic 81, 3) := by decide +kernel
theorem dX5_block_4 : decode cX5_block 4 = .ok (.ifCond .ne 9, 3) := by decide +kernel
theorem dX5_block_7 : decode cX5_block 7 = .ok (.aload_n 0, 1) := by decide +kernel
theorem dX5_block_8 : decode cX5_block 8 = .ok (.iconst 1, 1) := by decide +kernel
theorem dX5_block_9 : decode cX5_block 9 = .ok (.invokevirtual 85, 3) := by decide +kernel
theorem dX5_block_12 : decode cX5_block 12 = .ok (.ireturn, 1) := by decide +kernel
theorem dX5_block_13 : decode cX5_block 13 = .ok (.iload_n 2, 1) := by decide +kernel
theorem dX5_block_14 : decode cX5_block 14 = .ok (.i2l, 1) := by decide +kernel
theorem dX5_block_15 : decode cX5_block 15 = .ok (.lconst 0, 1) := by decide +kernel
theorem dX5_block_16 : decode cX5_block 16 = .ok (.ldc2_w 138, 3) := by decide +kernel
theorem dX5_block_19 : decode cX5_block 19 = .ok (.invokestatic 43, 3) := by decide +kernel
theorem dX5_block_22 : decode cX5_block 22 = .ok (.ifCond .eq 16, 3) := by decide +kernel
theorem dX5_block_25 : decode cX5_block 25 = .ok (.aload_n 0, 1) := by decide +kernel
theorem dX5_block_26 : decode cX5_block 26 = .ok (.aload_n 0, 1) := by decide +kernel
theorem dX5_block_27 : decode cX5_block 27 = .ok (.iload_n 1, 1) := by decide +kernel
theorem dX5_block_28 : decode cX5_block 28 = .ok (.iload_n 2, 1) := by decide +kernel
theorem dX5_block_29 : decode cX5_block 29 = .ok (.invokevirtual 140, 3) := by decide +kernel
theorem dX5_block_32 : decode cX5_block 32 = .ok (.invokevirtual 78, 3) := by decide +kernel
theorem dX5_block_35 : decode cX5_block 35 = .ok (.goto 8, 3) := by decide +kernel
theorem dX5_block_38 : decode cX5_block 38 = .ok (.aload_n 0, 1) := by decide +kernel
theorem dX5_block_39 : decode cX5_block 39 = .ok (.iconst 2, 1) := by decide +kernel
theorem dX5_block_40 : decode cX5_block 40 = .ok (.invokevirtual 85, 3) := by decide +kernel
theorem dX5_block_43 : decode cX5_block 43 = .ok (.ireturn, 1) := by decide +kernel
theorem dX5_pulley_0 : decode cX5_pulley 0 = .ok (.iload_n 1, 1) := by decide +kernel
theorem dX5_pulley_1 : decode cX5_pulley 1 = .ok (.i2l, 1) := by decide +kernel
theorem dX5_pulley_2 : decode cX5_pulley 2 = .ok (.lconst 0, 1) := by decide +kernel
theorem dX5_pulley_3 : decode cX5_pulley 3 = .ok (.aload_n 0, 1) := by decide +kernel
theorem dX5_pulley_4 : decode cX5_pulley 4 = .ok (.getfield 7, 3) := by decide +kernel
theorem dX5_pulley_7 : decode cX5_pulley 7 = .ok (.iconst 2, 1) := by decide +kernel
theorem dX5_pulley_8 : decode cX5_pulley 8 = .ok (.laload, 1) := by decide +kernel
theorem dX5_pulley_9 : decode cX5_pulley 9 = .ok (.lconst 1, 1) := by decide +kernel
theorem dX5_pulley_10 : decode cX5_pulley 10 = .ok (.lsub, 1) := by decide +kernel
theorem dX5_pulley_11 : decode cX5_pulley 11 = .ok (.invokestatic 43, 3) := by decide +kernel
theorem dX5_pulley_14 : decode cX5_pulley 14 = .ok (.ifCond .eq 20, 3) := by decide +kernel
theorem dX5_pulley_17 : decode cX5_pulley 17 = .ok (.aload_n 0, 1) := by decide +kernel
theorem dX5_pulley_18 : decode cX5_pulley 18 = .ok (.aload_n 0, 1) := by decide +kernel
theorem dX5_pulley_19 : decode cX5_pulley 19 = .ok (.getfield 7, 3) := by decide +kernel
theorem dX5_pulley_22 : decode cX5_pulley 22 = .ok (.bipush 17, 2) := by decide +kernel
theorem dX5_pulley_24 : decode cX5_pulley 24 = .ok (.iload_n 1, 1) := by decide +kernel
theorem dX5_pulley_25 : decode cX5_pulley 25 = .ok (.iadd, 1) := by decide +kernel
theorem dX5_pulley_26 : decode cX5_pulley 26 = .ok (.laload, 1) := by decide +kernel
theorem dX5_pulley_27 : decode cX5_pulley 27 = .ok (.l2i, 1) := by decide +kernel
theorem dX5_pulley_28 : decode cX5_pulley 28 = .ok (.invokevirtual 78, 3) := by decide +kernel
theorem dX5_pulley_31 : decode cX5_pulley 31 = .ok (.goto 8, 3) := by decide +kernel
theorem dX5_pulley_34 : decode cX5_pulley 34 = .ok (.aload_n 0, 1) := by decide +kernel
theorem dX5_pulley_35 : decode cX5_pulley 35 = .ok (.iconst 1, 1) := by decide +kernel
theorem dX5_pulley_36 : decode cX5_pulley 36 = .ok (.invokevirtual 85, 3) := by decide +kernel
theorem dX5_pulley_39 : decode cX5_pulley 39 = .ok (.ireturn, 1) := by decide +kernel
theorem dX5_force_0 : decode cX5_force 0 = .ok (.iload_n 1, 1) := by decide +kernel
theorem dX5_force_1 : decode cX5_force 1 = .ok (.invokestatic 127, 3) := by decide +kernel
theorem dX5_force_4 : decode cX5_force 4 = .ok (.ifCond .eq 21, 3) := by decide +kernel
theorem dX5_force_7 : decode cX5_force 7 = .ok (.iload_n 2, 1) := by decide +kernel
theorem dX5_force_8 : decode cX5_force 8 = .ok (.i2l, 1) := by decide +kernel
theorem dX5_force_9 : decode cX5_force 9 = .ok (.lconst 0, 1) := by decide +kernel
theorem dX5_force_10 : decode cX5_force 10 = .ok (.aload_n 0, 1) := by decide +kernel
theorem dX5_force_11 : decode cX5_force 11 = .ok (.invokevirtual 143, 3) := by decide +kernel
theorem dX5_force_14 : decode cX5_force 14 = .ok (.i2l, 1) := by decide +kernel
theorem dX5_force_15 : decode cX5_force 15 = .ok (.invokestatic 43, 3) := by decide +kernel
theorem dX5_force_18 : decode cX5_force 18 = .ok (.ifCond .eq 7, 3) := by decide +kernel
theorem dX5_force_21 : decode cX5_force 21 = .ok (.iconst 1, 1) := by decide +kernel
theorem dX5_force_22 : decode cX5_force 22 = .ok (.goto 4, 3) := by decide +kernel
theorem dX5_force_25 : decode cX5_force 25 = .ok (.iconst 0, 1) := by decide +kernel
theorem dX5_force_26 : decode cX5_force 26 = .ok (.istore 4, 2) := by decide +kernel
theorem dX5_force_28 : decode cX5_force 28 = .ok (.aload_n 0, 1) := by decide +kernel
theorem dX5_force_29 : decode cX5_force 29 = .ok (.iload 4, 2) := by decide +kernel
theorem dX5_force_31 : decode cX5_force 31 = .ok (.ifCond .eq 7, 3) := by decide +kernel
theorem dX5_force_34 : decode cX5_force 34 = .ok (.iconst 0, 1) := by decide +kernel
theorem dX5_force_35 : decode cX5_force 35 = .ok (.goto 4, 3) := by decide +kernel
theorem dX5_force_38 : decode cX5_force 38 = .ok (.iconst 1, 1) := by decide +kernel
theorem dX5_force_39 : decode cX5_force 39 = .ok (.putfield 37, 3) := by decide +kernel
theorem dX5_force_42 : decode cX5_force 42 = .ok (.iload 4, 2) := by decide +kernel
theorem dX5_force_44 : decode cX5_force 44 = .ok (.ifCond .eq 13, 3) := by decide +kernel
theorem dX5_force_47 : decode cX5_force 47 = .ok (.aload_n 0, 1) := by decide +kernel
theorem dX5_force_48 : decode cX5_force 48 = .ok (.iload_n 1, 1) := by decide +kernel
theorem dX5_force_49 : decode cX5_force 49 = .ok (.iload_n 2, 1) := by decide +kernel
theorem dX5_force_50 : decode cX5_force 50 = .ok (.iload_n 3, 1) := by decide +kernel
theorem dX5_force_51 : decode cX5_force 51 = .ok (.invokevirtual 146, 3) := by decide +kernel
theorem dX5_force_54 : decode cX5_force 54 = .ok (.goto 4, 3) := by decide +kernel
theorem dX5_force_57 : decode cX5_force 57 = .ok (.lconst 0, 1) := by decide +kernel
theorem dX5_force_58 : decode cX5_force 58 = .ok (.lreturn, 1) := by decide +kernel
theorem dX5_pull_0 : decode cX5_pull 0 = .ok (.aload_n 0, 1) := by decide +kernel
theorem dX5_pull_1 : decode cX5_pull 1 = .ok (.iload_n 1, 1) := by decide +kernel
theorem dX5_pull_2 : decode cX5_pull 2 = .ok (.invokestatic 81, 3) := by decide +kernel
theorem dX5_pull_5 : decode cX5_pull 5 = .ok (.ifCond .ne 7, 3) := by decide +kernel
theorem dX5_pull_8 : decode cX5_pull 8 = .ok (.iconst 1, 1) := by decide +kernel
theorem dX5_pull_9 : decode cX5_pull 9 = .ok (.goto 15, 3) := by decide +kernel
theorem dX5_pull_12 : decode cX5_pull 12 = .ok (.iload_n 2, 1) := by decide +kernel
theorem dX5_pull_13 : decode cX5_pull 13 = .ok (.invokestatic 127, 3) := by decide +kernel
theorem dX5_pull_16 : decode cX5_pull 16 = .ok (.ifCond .eq 7, 3) := by decide +kernel
theorem dX5_pull_19 : decode cX5_pull 19 = .ok (.iconst 0, 1) := by decide +kernel
theorem dX5_pull_20 : decode cX5_pull 20 = .ok (.goto 4, 3) := by decide +kernel
theorem dX5_pull_23 : decode cX5_pull 23 = .ok (.iconst 2, 1) := by decide +kernel
theorem dX5_pull_24 : decode cX5_pull 24 = .ok (.putfield 37, 3) := by decide +kernel
theorem dX5_pull_27 : decode cX5_pull 27 = .ok (.aload_n 0, 1) := by decide +kernel
theorem dX5_pull_28 : decode cX5_pull 28 = .ok (.getfield 37, 3) := by decide +kernel
theorem dX5_pull_31 : decode cX5_pull 31 = .ok (.ifCond .ne 13, 3) := by decide +kernel
theorem dX5_pull_34 : decode cX5_pull 34 = .ok (.aload_n 0, 1) := by decide +kernel
theorem dX5_pull_35 : decode cX5_pull 35 = .ok (.iload_n 1, 1) := by decide +kernel
theorem dX5_pull_36 : decode cX5_pull 36 = .ok (.iload_n 2, 1) := by decide +kernel
theorem dX5_pull_37 : decode cX5_pull 37 = .ok (.iload_n 3, 1) := by decide +kernel
theorem dX5_pull_38 : decode cX5_pull 38 = .ok (.invokevirtual 70, 3) := by decide +kernel
theorem dX5_pull_41 : decode cX5_pull 41 = .ok (.goto 4, 3) := by decide +kernel
theorem dX5_pull_44 : decode cX5_pull 44 = .ok (.lconst 0, 1) := by decide +kernel
theorem dX5_pull_45 : decode cX5_pull 45 = .ok (.lreturn, 1) := by decide +kernel
theorem dX5_valueTold_0 : decode cX5_valueTold 0 = .ok (.iload_n 1, 1) := by decide +kernel
theorem dX5_valueTold_1 : decode cX5_valueTold 1 = .ok (.tableswitch 114 0 8 #[51, 59, 64, 72, 80, 88, 93, 98, 106], 51) := by decide +kernel
theorem dX5_valueTold_52 : decode cX5_valueTold 52 = .ok (.aload_n 0, 1) := by decide +kernel
theorem dX5_valueTold_53 : decode cX5_valueTold 53 = .ok (.getfield 7, 3) := by decide +kernel
theorem dX5_valueTold_56 : decode cX5_valueTold 56 = .ok (.iconst 0, 1) := by decide +kernel
theorem dX5_valueTold_57 : decode cX5_valueTold 57 = .ok (.laload, 1) := by decide +kernel
theorem dX5_valueTold_58 : decode cX5_valueTold 58 = .ok (.l2i, 1) := by decide +kernel
theorem dX5_valueTold_59 : decode cX5_valueTold 59 = .ok (.ireturn, 1) := by decide +kernel
theorem dX5_valueTold_60 : decode cX5_valueTold 60 = .ok (.aload_n 0, 1) := by decide +kernel
theorem dX5_valueTold_61 : decode cX5_valueTold 61 = .ok (.invokevirtual 98, 3) := by decide +kernel
theorem dX5_valueTold_64 : decode cX5_valueTold 64 = .ok (.ireturn, 1) := by decide +kernel
theorem dX5_valueTold_65 : decode cX5_valueTold 65 = .ok (.aload_n 0, 1) := by decide +kernel
theorem dX5_valueTold_66 : decode cX5_valueTold 66 = .ok (.getfield 7, 3) := by decide +kernel
theorem dX5_valueTold_69 : decode cX5_valueTold 69 = .ok (.iconst 1, 1) := by decide +kernel
theorem dX5_valueTold_70 : decode cX5_valueTold 70 = .ok (.laload, 1) := by decide +kernel
theorem dX5_valueTold_71 : decode cX5_valueTold 71 = .ok (.l2i, 1) := by decide +kernel
theorem dX5_valueTold_72 : decode cX5_valueTold 72 = .ok (.ireturn, 1) := by decide +kernel
theorem dX5_valueTold_73 : decode cX5_valueTold 73 = .ok (.aload_n 0, 1) := by decide +kernel
theorem dX5_valueTold_74 : decode cX5_valueTold 74 = .ok (.getfield 7, 3) := by decide +kernel
theorem dX5_valueTold_77 : decode cX5_valueTold 77 = .ok (.iconst 2, 1) := by decide +kernel
theorem dX5_valueTold_78 : decode cX5_valueTold 78 = .ok (.laload, 1) := by decide +kernel
theorem dX5_valueTold_79 : decode cX5_valueTold 79 = .ok (.l2i, 1) := by decide +kernel
theorem dX5_valueTold_80 : decode cX5_valueTold 80 = .ok (.ireturn, 1) := by decide +kernel
theorem dX5_valueTold_81 : decode cX5_valueTold 81 = .ok (.aload_n 0, 1) := by decide +kernel
theorem dX5_valueTold_82 : decode cX5_valueTold 82 = .ok (.getfield 7, 3) := by decide +kernel
theorem dX5_valueTold_85 : decode cX5_valueTold 85 = .ok (.iconst 3, 1) := by decide +kernel
theorem dX5_valueTold_86 : decode cX5_valueTold 86 = .ok (.laload, 1) := by decide +kernel
theorem dX5_valueTold_87 : decode cX5_valueTold 87 = .ok (.l2i, 1) := by decide +kernel
theorem dX5_valueTold_88 : decode cX5_valueTold 88 = .ok (.ireturn, 1) := by decide +kernel
theorem dX5_valueTold_89 : decode cX5_valueTold 89 = .ok (.aload_n 0, 1) := by decide +kernel
theorem dX5_valueTold_90 : decode cX5_valueTold 90 = .ok (.invokevirtual 143, 3) := by decide +kernel
theorem dX5_valueTold_93 : decode cX5_valueTold 93 = .ok (.ireturn, 1) := by decide +kernel
theorem dX5_valueTold_94 : decode cX5_valueTold 94 = .ok (.aload_n 0, 1) := by decide +kernel
theorem dX5_valueTold_95 : decode cX5_valueTold 95 = .ok (.invokevirtual 59, 3) := by decide +kernel
theorem dX5_valueTold_98 : decode cX5_valueTold 98 = .ok (.ireturn, 1) := by decide +kernel
theorem dX5_valueTold_99 : decode cX5_valueTold 99 = .ok (.aload_n 0, 1) := by decide +kernel
theorem dX5_valueTold_100 : decode cX5_valueTold 100 = .ok (.getfield 7, 3) := by decide +kernel
theorem dX5_valueTold_103 : decode cX5_valueTold 103 = .ok (.iconst 4, 1) := by decide +kernel
theorem dX5_valueTold_104 : decode cX5_valueTold 104 = .ok (.laload, 1) := by decide +kernel
theorem dX5_valueTold_105 : decode cX5_valueTold 105 = .ok (.l2i, 1) := by decide +kernel
theorem dX5_valueTold_106 : decode cX5_valueTold 106 = .ok (.ireturn, 1) := by decide +kernel
theorem dX5_valueTold_107 : decode cX5_valueTold 107 = .ok (.aload_n 0, 1) := by decide +kernel
theorem dX5_valueTold_108 : decode cX5_valueTold 108 = .ok (.getfield 7, 3) := by decide +kernel
theorem dX5_valueTold_111 : decode cX5_valueTold 111 = .ok (.iconst 5, 1) := by decide +kernel
theorem dX5_valueTold_112 : decode cX5_valueTold 112 = .ok (.laload, 1) := by decide +kernel
theorem dX5_valueTold_113 : decode cX5_valueTold 113 = .ok (.l2i, 1) := by decide +kernel
theorem dX5_valueTold_114 : decode cX5_valueTold 114 = .ok (.ireturn, 1) := by decide +kernel
theorem dX5_valueTold_115 : decode cX5_valueTold 115 = .ok (.aload_n 0, 1) := by decide +kernel
theorem dX5_valueTold_116 : decode cX5_valueTold 116 = .ok (.getfield 7, 3) := by decide +kernel
theorem dX5_valueTold_119 : decode cX5_valueTold 119 = .ok (.bipush 6, 2) := by decide +kernel
theorem dX5_valueTold_121 : decode cX5_valueTold 121 = .ok (.laload, 1) := by decide +kernel
theorem dX5_valueTold_122 : decode cX5_valueTold 122 = .ok (.l2i, 1) := by decide +kernel
theorem dX5_valueTold_123 : decode cX5_valueTold 123 = .ok (.ireturn, 1) := by decide +kernel
theorem dX5_value_0 : decode cX5_value 0 = .ok (.iload_n 1, 1) := by decide +kernel
theorem dX5_value_1 : decode cX5_value 1 = .ok (.i2l, 1) := by decide +kernel
theorem dX5_value_2 : decode cX5_value 2 = .ok (.lconst 0, 1) := by decide +kernel
theorem dX5_value_3 : decode cX5_value 3 = .ok (.ldc2_w 149, 3) := by decide +kernel
theorem dX5_value_6 : decode cX5_value 6 = .ok (.invokestatic 43, 3) := by decide +kernel
theorem dX5_value_9 : decode cX5_value 9 = .ok (.ifCond .eq 15, 3) := by decide +kernel
theorem dX5_value_12 : decode cX5_value 12 = .ok (.aload_n 0, 1) := by decide +kernel
theorem dX5_value_13 : decode cX5_value 13 = .ok (.aload_n 0, 1) := by decide +kernel
theorem dX5_value_14 : decode cX5_value 14 = .ok (.iload_n 1, 1) := by decide +kernel
theorem dX5_value_15 : decode cX5_value 15 = .ok (.invokevirtual 151, 3) := by decide +kernel
theorem dX5_value_18 : decode cX5_value 18 = .ok (.invokevirtual 78, 3) := by decide +kernel
theorem dX5_value_21 : decode cX5_value 21 = .ok (.goto 8, 3) := by decide +kernel
theorem dX5_value_24 : decode cX5_value 24 = .ok (.aload_n 0, 1) := by decide +kernel
theorem dX5_value_25 : decode cX5_value 25 = .ok (.iconst 1, 1) := by decide +kernel
theorem dX5_value_26 : decode cX5_value 26 = .ok (.invokevirtual 85, 3) := by decide +kernel
theorem dX5_value_29 : decode cX5_value 29 = .ok (.ireturn, 1) := by decide +kernel
theorem dX5_work_0 : decode cX5_work 0 = .ok (.aload_n 0, 1) := by decide +kernel
theorem dX5_work_1 : decode cX5_work 1 = .ok (.iconst 0, 1) := by decide +kernel
theorem dX5_work_2 : decode cX5_work 2 = .ok (.putfield 37, 3) := by decide +kernel
theorem dX5_work_5 : decode cX5_work 5 = .ok (.aload_n 0, 1) := by decide +kernel
theorem dX5_work_6 : decode cX5_work 6 = .ok (.getfield 7, 3) := by decide +kernel
theorem dX5_work_9 : decode cX5_work 9 = .ok (.iload_n 1, 1) := by decide +kernel
theorem dX5_work_10 : decode cX5_work 10 = .ok (.ifCond .eq 8, 3) := by decide +kernel
theorem dX5_work_13 : decode cX5_work 13 = .ok (.bipush 8, 2) := by decide +kernel
theorem dX5_work_15 : decode cX5_work 15 = .ok (.goto 5, 3) := by decide +kernel
theorem dX5_work_18 : decode cX5_work 18 = .ok (.bipush 7, 2) := by decide +kernel
theorem dX5_work_20 : decode cX5_work 20 = .ok (.laload, 1) := by decide +kernel
theorem dX5_work_21 : decode cX5_work 21 = .ok (.lreturn, 1) := by decide +kernel
theorem dX5_entry_0 : decode cX5_entry 0 = .ok (.iload_n 1, 1) := by decide +kernel
theorem dX5_entry_1 : decode cX5_entry 1 = .ok (.i2l, 1) := by decide +kernel
theorem dX5_entry_2 : decode cX5_entry 2 = .ok (.lconst 0, 1) := by decide +kernel
theorem dX5_entry_3 : decode cX5_entry 3 = .ok (.aload_n 0, 1) := by decide +kernel
theorem dX5_entry_4 : decode cX5_entry 4 = .ok (.getfield 7, 3) := by decide +kernel
theorem dX5_entry_7 : decode cX5_entry 7 = .ok (.bipush 6, 2) := by decide +kernel
theorem dX5_entry_9 : decode cX5_entry 9 = .ok (.laload, 1) := by decide +kernel
theorem dX5_entry_10 : decode cX5_entry 10 = .ok (.lconst 1, 1) := by decide +kernel
theorem dX5_entry_11 : decode cX5_entry 11 = .ok (.lsub, 1) := by decide +kernel
theorem dX5_entry_12 : decode cX5_entry 12 = .ok (.invokestatic 43, 3) := by decide +kernel
theorem dX5_entry_15 : decode cX5_entry 15 = .ok (.ifCond .ne 9, 3) := by decide +kernel
theorem dX5_entry_18 : decode cX5_entry 18 = .ok (.aload_n 0, 1) := by decide +kernel
theorem dX5_entry_19 : decode cX5_entry 19 = .ok (.iconst 1, 1) := by decide +kernel
theorem dX5_entry_20 : decode cX5_entry 20 = .ok (.invokevirtual 85, 3) := by decide +kernel
theorem dX5_entry_23 : decode cX5_entry 23 = .ok (.ireturn, 1) := by decide +kernel
theorem dX5_entry_24 : decode cX5_entry 24 = .ok (.iload_n 2, 1) := by decide +kernel
theorem dX5_entry_25 : decode cX5_entry 25 = .ok (.i2l, 1) := by decide +kernel
theorem dX5_entry_26 : decode cX5_entry 26 = .ok (.lconst 0, 1) := by decide +kernel
theorem dX5_entry_27 : decode cX5_entry 27 = .ok (.ldc2_w 101, 3) := by decide +kernel
theorem dX5_entry_30 : decode cX5_entry 30 = .ok (.invokestatic 43, 3) := by decide +kernel
theorem dX5_entry_33 : decode cX5_entry 33 = .ok (.ifCond .eq 24, 3) := by decide +kernel
theorem dX5_entry_36 : decode cX5_entry 36 = .ok (.aload_n 0, 1) := by decide +kernel
theorem dX5_entry_37 : decode cX5_entry 37 = .ok (.aload_n 0, 1) := by decide +kernel
theorem dX5_entry_38 : decode cX5_entry 38 = .ok (.getfield 7, 3) := by decide +kernel
theorem dX5_entry_41 : decode cX5_entry 41 = .ok (.bipush 27, 2) := by decide +kernel
theorem dX5_entry_43 : decode cX5_entry 43 = .ok (.iconst 3, 1) := by decide +kernel
theorem dX5_entry_44 : decode cX5_entry 44 = .ok (.iload_n 1, 1) := by decide +kernel
theorem dX5_entry_45 : decode cX5_entry 45 = .ok (.imul, 1) := by decide +kernel
theorem dX5_entry_46 : decode cX5_entry 46 = .ok (.iadd, 1) := by decide +kernel
theorem dX5_entry_47 : decode cX5_entry 47 = .ok (.iload_n 2, 1) := by decide +kernel
theorem dX5_entry_48 : decode cX5_entry 48 = .ok (.iadd, 1) := by decide +kernel
theorem dX5_entry_49 : decode cX5_entry 49 = .ok (.laload, 1) := by decide +kernel
theorem dX5_entry_50 : decode cX5_entry 50 = .ok (.l2i, 1) := by decide +kernel
theorem dX5_entry_51 : decode cX5_entry 51 = .ok (.invokevirtual 78, 3) := by decide +kernel
theorem dX5_entry_54 : decode cX5_entry 54 = .ok (.goto 8, 3) := by decide +kernel
theorem dX5_entry_57 : decode cX5_entry 57 = .ok (.aload_n 0, 1) := by decide +kernel
theorem dX5_entry_58 : decode cX5_entry 58 = .ok (.iconst 2, 1) := by decide +kernel
theorem dX5_entry_59 : decode cX5_entry 59 = .ok (.invokevirtual 85, 3) := by decide +kernel
theorem dX5_entry_62 : decode cX5_entry 62 = .ok (.ireturn, 1) := by decide +kernel
theorem dX5_first_0 : decode cX5_first 0 = .ok (.aload_n 0, 1) := by decide +kernel
theorem dX5_first_1 : decode cX5_first 1 = .ok (.aload_n 0, 1) := by decide +kernel
theorem dX5_first_2 : decode cX5_first 2 = .ok (.ldc 69, 2) := by decide +kernel
theorem dX5_first_4 : decode cX5_first 4 = .ok (.invokevirtual 116, 3) := by decide +kernel
theorem dX5_first_7 : decode cX5_first 7 = .ok (.invokevirtual 78, 3) := by decide +kernel
theorem dX5_first_10 : decode cX5_first 10 = .ok (.ireturn, 1) := by decide +kernel
theorem dX5_forceForAll_0 : decode cX5_forceForAll 0 = .ok (.iconst 0, 1) := by decide +kernel
theorem dX5_forceForAll_1 : decode cX5_forceForAll 1 = .ok (.istore_n 1, 1) := by decide +kernel
theorem dX5_forceForAll_2 : decode cX5_forceForAll 2 = .ok (.iconst 0, 1) := by decide +kernel
theorem dX5_forceForAll_3 : decode cX5_forceForAll 3 = .ok (.istore_n 2, 1) := by decide +kernel
theorem dX5_forceForAll_4 : decode cX5_forceForAll 4 = .ok (.iload_n 2, 1) := by decide +kernel
theorem dX5_forceForAll_5 : decode cX5_forceForAll 5 = .ok (.iconst 4, 1) := by decide +kernel
theorem dX5_forceForAll_6 : decode cX5_forceForAll 6 = .ok (.if_icmp .ge 62, 3) := by decide +kernel
theorem dX5_forceForAll_9 : decode cX5_forceForAll 9 = .ok (.aload_n 0, 1) := by decide +kernel
theorem dX5_forceForAll_10 : decode cX5_forceForAll 10 = .ok (.iload_n 2, 1) := by decide +kernel
theorem dX5_forceForAll_11 : decode cX5_forceForAll 11 = .ok (.invokevirtual 56, 3) := by decide +kernel
theorem dX5_forceForAll_14 : decode cX5_forceForAll 14 = .ok (.ifCond .le 48, 3) := by decide +kernel
theorem dX5_forceForAll_17 : decode cX5_forceForAll 17 = .ok (.aload_n 0, 1) := by decide +kernel
theorem dX5_forceForAll_18 : decode cX5_forceForAll 18 = .ok (.getfield 7, 3) := by decide +kernel
theorem dX5_forceForAll_21 : decode cX5_forceForAll 21 = .ok (.bipush 13, 2) := by decide +kernel
theorem dX5_forceForAll_23 : decode cX5_forceForAll 23 = .ok (.iload_n 2, 1) := by decide +kernel
theorem dX5_forceForAll_24 : decode cX5_forceForAll 24 = .ok (.iadd, 1) := by decide +kernel
theorem dX5_forceForAll_25 : decode cX5_forceForAll 25 = .ok (.laload, 1) := by decide +kernel
theorem dX5_forceForAll_26 : decode cX5_forceForAll 26 = .ok (.ldc2_w 110, 3) := by decide +kernel
theorem dX5_forceForAll_29 : decode cX5_forceForAll 29 = .ok (.lcmp, 1) := by decide +kernel
theorem dX5_forceForAll_30 : decode cX5_forceForAll 30 = .ok (.ifCond .ge 32, 3) := by decide +kernel
theorem dX5_forceForAll_33 : decode cX5_forceForAll 33 = .ok (.aload_n 0, 1) := by decide +kernel
theorem dX5_forceForAll_34 : decode cX5_forceForAll 34 = .ok (.iload_n 2, 1) := by decide +kernel
theorem dX5_forceForAll_35 : decode cX5_forceForAll 35 = .ok (.iconst 1, 1) := by decide +kernel
theorem dX5_forceForAll_36 : decode cX5_forceForAll 36 = .ok (.invokevirtual 112, 3) := by decide +kernel
theorem dX5_forceForAll_39 : decode cX5_forceForAll 39 = .ok (.istore_n 3, 1) := by decide +kernel
theorem dX5_forceForAll_40 : decode cX5_forceForAll 40 = .ok (.iload_n 3, 1) := by decide +kernel
theorem dX5_forceForAll_41 : decode cX5_forceForAll 41 = .ok (.iconst (-1), 1) := by decide +kernel
theorem dX5_forceForAll_42 : decode cX5_forceForAll 42 = .ok (.if_icmp .ne 9, 3) := by decide +kernel
theorem dX5_forceForAll_45 : decode cX5_forceForAll 45 = .ok (.aload_n 0, 1) := by decide +kernel
theorem dX5_forceForAll_46 : decode cX5_forceForAll 46 = .ok (.iconst (-1), 1) := by decide +kernel
theorem dX5_forceForAll_47 : decode cX5_forceForAll 47 = .ok (.invokevirtual 78, 3) := by decide +kernel
theorem dX5_forceForAll_50 : decode cX5_forceForAll 50 = .ok (.ireturn, 1) := by decide +kernel
theorem dX5_forceForAll_51 : decode cX5_forceForAll 51 = .ok (.iload_n 3, 1) := by decide +kernel
theorem dX5_forceForAll_52 : decode cX5_forceForAll 52 = .ok (.iload_n 1, 1) := by decide +kernel
theorem dX5_forceForAll_53 : decode cX5_forceForAll 53 = .ok (.if_icmp .le 7, 3) := by decide +kernel
theorem dX5_forceForAll_56 : decode cX5_forceForAll 56 = .ok (.iload_n 3, 1) := by decide +kernel
theorem dX5_forceForAll_57 : decode cX5_forceForAll 57 = .ok (.goto 4, 3) := by decide +kernel
theorem dX5_forceForAll_60 : decode cX5_forceForAll 60 = .ok (.iload_n 1, 1) := by decide +kernel
theorem dX5_forceForAll_61 : decode cX5_forceForAll 61 = .ok (.istore_n 1, 1) := by decide +kernel
theorem dX5_forceForAll_62 : decode cX5_forceForAll 62 = .ok (.iinc 2 1, 3) := by decide +kernel
theorem dX5_forceForAll_65 : decode cX5_forceForAll 65 = .ok (.goto (-61), 3) := by decide +kernel
theorem dX5_forceForAll_68 : decode cX5_forceForAll 68 = .ok (.aload_n 0, 1) := by decide +kernel
theorem dX5_forceForAll_69 : decode cX5_forceForAll 69 = .ok (.iload_n 1, 1) := by decide +kernel
theorem dX5_forceForAll_70 : decode cX5_forceForAll 70 = .ok (.invokevirtual 78, 3) := by decide +kernel
theorem dX5_forceForAll_73 : decode cX5_forceForAll 73 = .ok (.ireturn, 1) := by decide +kernel
theorem dX5_pulleysFor_0 : decode cX5_pulleysFor 0 = .ok (.iload_n 1, 1) := by decide +kernel
theorem dX5_pulleysFor_1 : decode cX5_pulleysFor 1 = .ok (.invokestatic 81, 3) := by decide +kernel
theorem dX5_pulleysFor_4 : decode cX5_pulleysFor 4 = .ok (.ifCond .ne 9, 3) := by decide +kernel
theorem dX5_pulleysFor_7 : decode cX5_pulleysFor 7 = .ok (.aload_n 0, 1) := by decide +kernel
theorem dX5_pulleysFor_8 : decode cX5_pulleysFor 8 = .ok (.iconst 1, 1) := by decide +kernel
theorem dX5_pulleysFor_9 : decode cX5_pulleysFor 9 = .ok (.invokevirtual 85, 3) := by decide +kernel
theorem dX5_pulleysFor_12 : decode cX5_pulleysFor 12 = .ok (.ireturn, 1) := by decide +kernel
theorem dX5_pulleysFor_13 : decode cX5_pulleysFor 13 = .ok (.iload_n 2, 1) := by decide +kernel
theorem dX5_pulleysFor_14 : decode cX5_pulleysFor 14 = .ok (.invokestatic 127, 3) := by decide +kernel
theorem dX5_pulleysFor_17 : decode cX5_pulleysFor 17 = .ok (.ifCond .ne 9, 3) := by decide +kernel
theorem dX5_pulleysFor_20 : decode cX5_pulleysFor 20 = .ok (.aload_n 0, 1) := by decide +kernel
theorem dX5_pulleysFor_21 : decode cX5_pulleysFor 21 = .ok (.iconst 2, 1) := by decide +kernel
theorem dX5_pulleysFor_22 : decode cX5_pulleysFor 22 = .ok (.invokevirtual 85, 3) := by decide +kernel
theorem dX5_pulleysFor_25 : decode cX5_pulleysFor 25 = .ok (.ireturn, 1) := by decide +kernel
theorem dX5_pulleysFor_26 : decode cX5_pulleysFor 26 = .ok (.iload_n 2, 1) := by decide +kernel
theorem dX5_pulleysFor_27 : decode cX5_pulleysFor 27 = .ok (.i2l, 1) := by decide +kernel
theorem dX5_pulleysFor_28 : decode cX5_pulleysFor 28 = .ok (.lstore_n 3, 1) := by decide +kernel
theorem dX5_pulleysFor_29 : decode cX5_pulleysFor 29 = .ok (.lconst 0, 1) := by decide +kernel
theorem dX5_pulleysFor_30 : decode cX5_pulleysFor 30 = .ok (.lstore 5, 2) := by decide +kernel
theorem dX5_pulleysFor_32 : decode cX5_pulleysFor 32 = .ok (.iconst 1, 1) := by decide +kernel
theorem dX5_pulleysFor_33 : decode cX5_pulleysFor 33 = .ok (.istore 7, 2) := by decide +kernel
theorem dX5_pulleysFor_35 : decode cX5_pulleysFor 35 = .ok (.iload 7, 2) := by decide +kernel
theorem dX5_pulleysFor_37 : decode cX5_pulleysFor 37 = .ok (.bipush 10, 2) := by decide +kernel
theorem dX5_pulleysFor_39 : decode cX5_pulleysFor 39 = .ok (.if_icmp .gt 56, 3) := by decide +kernel
theorem dX5_pulleysFor_42 : decode cX5_pulleysFor 42 = .ok (.aload_n 0, 1) := by decide +kernel
theorem dX5_pulleysFor_43 : decode cX5_pulleysFor 43 = .ok (.lload_n 3, 1) := by decide +kernel
theorem dX5_pulleysFor_44 : decode cX5_pulleysFor 44 = .ok (.iconst 1, 1) := by decide +kernel
theorem dX5_pulleysFor_45 : decode cX5_pulleysFor 45 = .ok (.invokevirtual 65, 3) := by decide +kernel
theorem dX5_pulleysFor_48 : decode cX5_pulleysFor 48 = .ok (.lstore 8, 2) := by decide +kernel
theorem dX5_pulleysFor_50 : decode cX5_pulleysFor 50 = .ok (.aload_n 0, 1) := by decide +kernel
theorem dX5_pulleysFor_51 : decode cX5_pulleysFor 51 = .ok (.lload 8, 2) := by decide +kernel
theorem dX5_pulleysFor_53 : decode cX5_pulleysFor 53 = .ok (.iconst 1, 1) := by decide +kernel
theorem dX5_pulleysFor_54 : decode cX5_pulleysFor 54 = .ok (.invokevirtual 65, 3) := by decide +kernel
theorem dX5_pulleysFor_57 : decode cX5_pulleysFor 57 = .ok (.lstore_n 3, 1) := by decide +kernel
theorem dX5_pulleysFor_58 : decode cX5_pulleysFor 58 = .ok (.lload 5, 2) := by decide +kernel
theorem dX5_pulleysFor_60 : decode cX5_pulleysFor 60 = .ok (.lload 8, 2) := by decide +kernel
theorem dX5_pulleysFor_62 : decode cX5_pulleysFor 62 = .ok (.lload_n 3, 1) := by decide +kernel
theorem dX5_pulleysFor_63 : decode cX5_pulleysFor 63 = .ok (.ladd, 1) := by decide +kernel
theorem dX5_pulleysFor_64 : decode cX5_pulleysFor 64 = .ok (.ladd, 1) := by decide +kernel
theorem dX5_pulleysFor_65 : decode cX5_pulleysFor 65 = .ok (.lstore 5, 2) := by decide +kernel
theorem dX5_pulleysFor_67 : decode cX5_pulleysFor 67 = .ok (.lload 5, 2) := by decide +kernel
theorem dX5_pulleysFor_69 : decode cX5_pulleysFor 69 = .ok (.aload_n 0, 1) := by decide +kernel
theorem dX5_pulleysFor_70 : decode cX5_pulleysFor 70 = .ok (.getfield 7, 3) := by decide +kernel
theorem dX5_pulleysFor_73 : decode cX5_pulleysFor 73 = .ok (.bipush 9, 2) := by decide +kernel
theorem dX5_pulleysFor_75 : decode cX5_pulleysFor 75 = .ok (.iload_n 1, 1) := by decide +kernel
theorem dX5_pulleysFor_76 : decode cX5_pulleysFor 76 = .ok (.iadd, 1) := by decide +kernel
theorem dX5_pulleysFor_77 : decode cX5_pulleysFor 77 = .ok (.laload, 1) := by decide +kernel
theorem dX5_pulleysFor_78 : decode cX5_pulleysFor 78 = .ok (.lcmp, 1) := by decide +kernel
theorem dX5_pulleysFor_79 : decode cX5_pulleysFor 79 = .ok (.ifCond .lt 10, 3) := by decide +kernel
theorem dX5_pulleysFor_82 : decode cX5_pulleysFor 82 = .ok (.aload_n 0, 1) := by decide +kernel
theorem dX5_pulleysFor_83 : decode cX5_pulleysFor 83 = .ok (.iload 7, 2) := by decide +kernel
theorem dX5_pulleysFor_85 : decode cX5_pulleysFor 85 = .ok (.invokevirtual 78, 3) := by decide +kernel
theorem dX5_pulleysFor_88 : decode cX5_pulleysFor 88 = .ok (.ireturn, 1) := by decide +kernel
theorem dX5_pulleysFor_89 : decode cX5_pulleysFor 89 = .ok (.iinc 7 1, 3) := by decide +kernel
theorem dX5_pulleysFor_92 : decode cX5_pulleysFor 92 = .ok (.goto (-57), 3) := by decide +kernel
theorem dX5_pulleysFor_95 : decode cX5_pulleysFor 95 = .ok (.aload_n 0, 1) := by decide +kernel
theorem dX5_pulleysFor_96 : decode cX5_pulleysFor 96 = .ok (.iconst (-1), 1) := by decide +kernel
theorem dX5_pulleysFor_97 : decode cX5_pulleysFor 97 = .ok (.invokevirtual 78, 3) := by decide +kernel
theorem dX5_pulleysFor_100 : decode cX5_pulleysFor 100 = .ok (.ireturn, 1) := by decide +kernel
theorem dX5_bestEnd_0 : decode cX5_bestEnd 0 = .ok (.iload_n 1, 1) := by decide +kernel
theorem dX5_bestEnd_1 : decode cX5_bestEnd 1 = .ok (.invokestatic 81, 3) := by decide +kernel
theorem dX5_bestEnd_4 : decode cX5_bestEnd 4 = .ok (.ifCond .ne 9, 3) := by decide +kernel
theorem dX5_bestEnd_7 : decode cX5_bestEnd 7 = .ok (.aload_n 0, 1) := by decide +kernel
theorem dX5_bestEnd_8 : decode cX5_bestEnd 8 = .ok (.iconst 1, 1) := by decide +kernel
theorem dX5_bestEnd_9 : decode cX5_bestEnd 9 = .ok (.invokevirtual 85, 3) := by decide +kernel
theorem dX5_bestEnd_12 : decode cX5_bestEnd 12 = .ok (.ireturn, 1) := by decide +kernel
theorem dX5_bestEnd_13 : decode cX5_bestEnd 13 = .ok (.aload_n 0, 1) := by decide +kernel
theorem dX5_bestEnd_14 : decode cX5_bestEnd 14 = .ok (.getfield 7, 3) := by decide +kernel
theorem dX5_bestEnd_17 : decode cX5_bestEnd 17 = .ok (.iconst 3, 1) := by decide +kernel
theorem dX5_bestEnd_18 : decode cX5_bestEnd 18 = .ok (.laload, 1) := by decide +kernel
theorem dX5_bestEnd_19 : decode cX5_bestEnd 19 = .ok (.lstore_n 2, 1) := by decide +kernel
theorem dX5_bestEnd_20 : decode cX5_bestEnd 20 = .ok (.iconst (-1), 1) := by decide +kernel
theorem dX5_bestEnd_21 : decode cX5_bestEnd 21 = .ok (.istore 4, 2) := by decide +kernel
theorem dX5_bestEnd_23 : decode cX5_bestEnd 23 = .ok (.iconst 0, 1) := by decide +kernel
theorem dX5_bestEnd_24 : decode cX5_bestEnd 24 = .ok (.istore 5, 2) := by decide +kernel
theorem dX5_bestEnd_26 : decode cX5_bestEnd 26 = .ok (.iconst 0, 1) := by decide +kernel
theorem dX5_bestEnd_27 : decode cX5_bestEnd 27 = .ok (.istore 6, 2) := by decide +kernel
theorem dX5_bestEnd_29 : decode cX5_bestEnd 29 = .ok (.iload 6, 2) := by decide +kernel
theorem dX5_bestEnd_31 : decode cX5_bestEnd 31 = .ok (.iconst 4, 1) := by decide +kernel
theorem dX5_bestEnd_32 : decode cX5_bestEnd 32 = .ok (.if_icmp .gt 80, 3) := by decide +kernel
theorem dX5_bestEnd_35 : decode cX5_bestEnd 35 = .ok (.aload_n 0, 1) := by decide +kernel
theorem dX5_bestEnd_36 : decode cX5_bestEnd 36 = .ok (.getfield 7, 3) := by decide +kernel
theorem dX5_bestEnd_39 : decode cX5_bestEnd 39 = .ok (.iconst 3, 1) := by decide +kernel
theorem dX5_bestEnd_40 : decode cX5_bestEnd 40 = .ok (.iload 6, 2) := by decide +kernel
theorem dX5_bestEnd_42 : decode cX5_bestEnd 42 = .ok (.i2l, 1) := by decide +kernel
theorem dX5_bestEnd_43 : decode cX5_bestEnd 43 = .ok (.lastore, 1) := by decide +kernel
theorem dX5_bestEnd_44 : decode cX5_bestEnd 44 = .ok (.aload_n 0, 1) := by decide +kernel
theorem dX5_bestEnd_45 : decode cX5_bestEnd 45 = .ok (.iload_n 1, 1) := by decide +kernel
theorem dX5_bestEnd_46 : decode cX5_bestEnd 46 = .ok (.iconst 1, 1) := by decide +kernel
theorem dX5_bestEnd_47 : decode cX5_bestEnd 47 = .ok (.invokevirtual 112, 3) := by decide +kernel
theorem dX5_bestEnd_50 : decode cX5_bestEnd 50 = .ok (.istore 7, 2) := by decide +kernel
theorem dX5_bestEnd_52 : decode cX5_bestEnd 52 = .ok (.iload 7, 2) := by decide +kernel
theorem dX5_bestEnd_54 : decode cX5_bestEnd 54 = .ok (.iconst (-1), 1) := by decide +kernel
theorem dX5_bestEnd_55 : decode cX5_bestEnd 55 = .ok (.if_icmp .eq 20, 3) := by decide +kernel
theorem dX5_bestEnd_58 : decode cX5_bestEnd 58 = .ok (.iload 4, 2) := by decide +kernel
theorem dX5_bestEnd_60 : decode cX5_bestEnd 60 = .ok (.iconst (-1), 1) := by decide +kernel
theorem dX5_bestEnd_61 : decode cX5_bestEnd 61 = .ok (.if_icmp .eq 10, 3) := by decide +kernel
theorem dX5_bestEnd_64 : decode cX5_bestEnd 64 = .ok (.iload 7, 2) := by decide +kernel
theorem dX5_bestEnd_66 : decode cX5_bestEnd 66 = .ok (.iload 5, 2) := by decide +kernel
theorem dX5_bestEnd_68 : decode cX5_bestEnd 68 = .ok (.if_icmp .ge 7, 3) := by decide +kernel
theorem dX5_bestEnd_71 : decode cX5_bestEnd 71 = .ok (.iconst 1, 1) := by decide +kernel
theorem dX5_bestEnd_72 : decode cX5_bestEnd 72 = .ok (.goto 4, 3) := by decide +kernel
theorem dX5_bestEnd_75 : decode cX5_bestEnd 75 = .ok (.iconst 0, 1) := by decide +kernel
theorem dX5_bestEnd_76 : decode cX5_bestEnd 76 = .ok (.istore 8, 2) := by decide +kernel
theorem dX5_bestEnd_78 : decode cX5_bestEnd 78 = .ok (.iload 8, 2) := by decide +kernel
theorem dX5_bestEnd_80 : decode cX5_bestEnd 80 = .ok (.ifCond .eq 8, 3) := by decide +kernel
theorem dX5_bestEnd_83 : decode cX5_bestEnd 83 = .ok (.iload 6, 2) := by decide +kernel
theorem dX5_bestEnd_85 : decode cX5_bestEnd 85 = .ok (.goto 5, 3) := by decide +kernel
theorem dX5_bestEnd_88 : decode cX5_bestEnd 88 = .ok (.iload 4, 2) := by decide +kernel
theorem dX5_bestEnd_90 : decode cX5_bestEnd 90 = .ok (.istore 4, 2) := by decide +kernel
theorem dX5_bestEnd_92 : decode cX5_bestEnd 92 = .ok (.iload 8, 2) := by decide +kernel
theorem dX5_bestEnd_94 : decode cX5_bestEnd 94 = .ok (.ifCond .eq 8, 3) := by decide +kernel
theorem dX5_bestEnd_97 : decode cX5_bestEnd 97 = .ok (.iload 7, 2) := by decide +kernel
theorem dX5_bestEnd_99 : decode cX5_bestEnd 99 = .ok (.goto 5, 3) := by decide +kernel
theorem dX5_bestEnd_102 : decode cX5_bestEnd 102 = .ok (.iload 5, 2) := by decide +kernel
theorem dX5_bestEnd_104 : decode cX5_bestEnd 104 = .ok (.istore 5, 2) := by decide +kernel
theorem dX5_bestEnd_106 : decode cX5_bestEnd 106 = .ok (.iinc 6 1, 3) := by decide +kernel
theorem dX5_bestEnd_109 : decode cX5_bestEnd 109 = .ok (.goto (-80), 3) := by decide +kernel
theorem dX5_bestEnd_112 : decode cX5_bestEnd 112 = .ok (.aload_n 0, 1) := by decide +kernel
theorem dX5_bestEnd_113 : decode cX5_bestEnd 113 = .ok (.getfield 7, 3) := by decide +kernel
theorem dX5_bestEnd_116 : decode cX5_bestEnd 116 = .ok (.iconst 3, 1) := by decide +kernel
theorem dX5_bestEnd_117 : decode cX5_bestEnd 117 = .ok (.lload_n 2, 1) := by decide +kernel
theorem dX5_bestEnd_118 : decode cX5_bestEnd 118 = .ok (.lastore, 1) := by decide +kernel
theorem dX5_bestEnd_119 : decode cX5_bestEnd 119 = .ok (.aload_n 0, 1) := by decide +kernel
theorem dX5_bestEnd_120 : decode cX5_bestEnd 120 = .ok (.iload 4, 2) := by decide +kernel
theorem dX5_bestEnd_122 : decode cX5_bestEnd 122 = .ok (.invokevirtual 78, 3) := by decide +kernel
theorem dX5_bestEnd_125 : decode cX5_bestEnd 125 = .ok (.ireturn, 1) := by decide +kernel
theorem dX5_changes_0 : decode cX5_changes 0 = .ok (.aload_n 0, 1) := by decide +kernel
theorem dX5_changes_1 : decode cX5_changes 1 = .ok (.getfield 7, 3) := by decide +kernel
theorem dX5_changes_4 : decode cX5_changes 4 = .ok (.bipush 17, 2) := by decide +kernel
theorem dX5_changes_6 : decode cX5_changes 6 = .ok (.iload_n 1, 1) := by decide +kernel
theorem dX5_changes_7 : decode cX5_changes 7 = .ok (.iadd, 1) := by decide +kernel
theorem dX5_changes_8 : decode cX5_changes 8 = .ok (.laload, 1) := by decide +kernel
theorem dX5_changes_9 : decode cX5_changes 9 = .ok (.lstore_n 3, 1) := by decide +kernel
theorem dX5_changes_10 : decode cX5_changes 10 = .ok (.aload_n 0, 1) := by decide +kernel
theorem dX5_changes_11 : decode cX5_changes 11 = .ok (.getfield 7, 3) := by decide +kernel
theorem dX5_changes_14 : decode cX5_changes 14 = .ok (.bipush 17, 2) := by decide +kernel
theorem dX5_changes_16 : decode cX5_changes 16 = .ok (.iload_n 1, 1) := by decide +kernel
theorem dX5_changes_17 : decode cX5_changes 17 = .ok (.iadd, 1) := by decide +kernel
theorem dX5_changes_18 : decode cX5_changes 18 = .ok (.aload_n 0, 1) := by decide +kernel
theorem dX5_changes_19 : decode cX5_changes 19 = .ok (.getfield 7, 3) := by decide +kernel
theorem dX5_changes_22 : decode cX5_changes 22 = .ok (.bipush 17, 2) := by decide +kernel
theorem dX5_changes_24 : decode cX5_changes 24 = .ok (.iload_n 2, 1) := by decide +kernel
theorem dX5_changes_25 : decode cX5_changes 25 = .ok (.iadd, 1) := by decide +kernel
theorem dX5_changes_26 : decode cX5_changes 26 = .ok (.laload, 1) := by decide +kernel
theorem dX5_changes_27 : decode cX5_changes 27 = .ok (.lastore, 1) := by decide +kernel
theorem dX5_changes_28 : decode cX5_changes 28 = .ok (.aload_n 0, 1) := by decide +kernel
theorem dX5_changes_29 : decode cX5_changes 29 = .ok (.getfield 7, 3) := by decide +kernel
theorem dX5_changes_32 : decode cX5_changes 32 = .ok (.bipush 17, 2) := by decide +kernel
theorem dX5_changes_34 : decode cX5_changes 34 = .ok (.iload_n 2, 1) := by decide +kernel
theorem dX5_changes_35 : decode cX5_changes 35 = .ok (.iadd, 1) := by decide +kernel
theorem dX5_changes_36 : decode cX5_changes 36 = .ok (.lload_n 3, 1) := by decide +kernel
theorem dX5_changes_37 : decode cX5_changes 37 = .ok (.lastore, 1) := by decide +kernel
theorem dX5_changes_38 : decode cX5_changes 38 = .ok (.return_, 1) := by decide +kernel
theorem dX5_swapped_0 : decode cX5_swapped 0 = .ok (.iload_n 1, 1) := by decide +kernel
theorem dX5_swapped_1 : decode cX5_swapped 1 = .ok (.invokestatic 81, 3) := by decide +kernel
theorem dX5_swapped_4 : decode cX5_swapped 4 = .ok (.ifCond .eq 37, 3) := by decide +kernel
theorem dX5_swapped_7 : decode cX5_swapped 7 = .ok (.iload_n 2, 1) := by decide +kernel
theorem dX5_swapped_8 : decode cX5_swapped 8 = .ok (.i2l, 1) := by decide +kernel
theorem dX5_swapped_9 : decode cX5_swapped 9 = .ok (.lconst 0, 1) := by decide +kernel
theorem dX5_swapped_10 : decode cX5_swapped 10 = .ok (.aload_n 0, 1) := by decide +kernel
theorem dX5_swapped_11 : decode cX5_swapped 11 = .ok (.getfield 7, 3) := by decide +kernel
theorem dX5_swapped_14 : decode cX5_swapped 14 = .ok (.iconst 2, 1) := by decide +kernel
theorem dX5_swapped_15 : decode cX5_swapped 15 = .ok (.laload, 1) := by decide +kernel
theorem dX5_swapped_16 : decode cX5_swapped 16 = .ok (.lconst 1, 1) := by decide +kernel
theorem dX5_swapped_17 : decode cX5_swapped 17 = .ok (.lsub, 1) := by decide +kernel
theorem dX5_swapped_18 : decode cX5_swapped 18 = .ok (.invokestatic 43, 3) := by decide +kernel
theorem dX5_swapped_21 : decode cX5_swapped 21 = .ok (.ifCond .eq 20, 3) := by decide +kernel
theorem dX5_swapped_24 : decode cX5_swapped 24 = .ok (.iload_n 3, 1) := by decide +kernel
theorem dX5_swapped_25 : decode cX5_swapped 25 = .ok (.i2l, 1) := by decide +kernel
theorem dX5_swapped_26 : decode cX5_swapped 26 = .ok (.lconst 0, 1) := by decide +kernel
theorem dX5_swapped_27 : decode cX5_swapped 27 = .ok (.aload_n 0, 1) := by decide +kernel
theorem dX5_swapped_28 : decode cX5_swapped 28 = .ok (.getfield 7, 3) := by decide +kernel
theorem dX5_swapped_31 : decode cX5_swapped 31 = .ok (.iconst 2, 1) := by decide +kernel
theorem dX5_swapped_32 : decode cX5_swapped 32 = .ok (.laload, 1) := by decide +kernel
theorem dX5_swapped_33 : decode cX5_swapped 33 = .ok (.lconst 1, 1) := by decide +kernel
theorem dX5_swapped_34 : decode cX5_swapped 34 = .ok (.lsub, 1) := by decide +kernel
theorem dX5_swapped_35 : decode cX5_swapped 35 = .ok (.invokestatic 43, 3) := by decide +kernel
theorem dX5_swapped_38 : decode cX5_swapped 38 = .ok (.ifCond .ne 9, 3) := by decide +kernel
theorem dX5_swapped_41 : decode cX5_swapped 41 = .ok (.aload_n 0, 1) := by decide +kernel
theorem dX5_swapped_42 : decode cX5_swapped 42 = .ok (.iconst 1, 1) := by decide +kernel
theorem dX5_swapped_43 : decode cX5_swapped 43 = .ok (.invokevirtual 85, 3) := by decide +kernel
theorem dX5_swapped_46 : decode cX5_swapped 46 = .ok (.ireturn, 1) := by decide +kernel
theorem dX5_swapped_47 : decode cX5_swapped 47 = .ok (.aload_n 0, 1) := by decide +kernel
theorem dX5_swapped_48 : decode cX5_swapped 48 = .ok (.iload_n 2, 1) := by decide +kernel
theorem dX5_swapped_49 : decode cX5_swapped 49 = .ok (.iload_n 3, 1) := by decide +kernel
theorem dX5_swapped_50 : decode cX5_swapped 50 = .ok (.invokevirtual 154, 3) := by decide +kernel
theorem dX5_swapped_53 : decode cX5_swapped 53 = .ok (.aload_n 0, 1) := by decide +kernel
theorem dX5_swapped_54 : decode cX5_swapped 54 = .ok (.iload_n 1, 1) := by decide +kernel
theorem dX5_swapped_55 : decode cX5_swapped 55 = .ok (.iconst 1, 1) := by decide +kernel
theorem dX5_swapped_56 : decode cX5_swapped 56 = .ok (.invokevirtual 112, 3) := by decide +kernel
theorem dX5_swapped_59 : decode cX5_swapped 59 = .ok (.istore 4, 2) := by decide +kernel
theorem dX5_swapped_61 : decode cX5_swapped 61 = .ok (.aload_n 0, 1) := by decide +kernel
theorem dX5_swapped_62 : decode cX5_swapped 62 = .ok (.iload_n 2, 1) := by decide +kernel
theorem dX5_swapped_63 : decode cX5_swapped 63 = .ok (.iload_n 3, 1) := by decide +kernel
theorem dX5_swapped_64 : decode cX5_swapped 64 = .ok (.invokevirtual 154, 3) := by decide +kernel
theorem dX5_swapped_67 : decode cX5_swapped 67 = .ok (.aload_n 0, 1) := by decide +kernel
theorem dX5_swapped_68 : decode cX5_swapped 68 = .ok (.iload 4, 2) := by decide +kernel
theorem dX5_swapped_70 : decode cX5_swapped 70 = .ok (.invokevirtual 78, 3) := by decide +kernel
theorem dX5_swapped_73 : decode cX5_swapped 73 = .ok (.ireturn, 1) := by decide +kernel
theorem dX5_riseBy_0 : decode cX5_riseBy 0 = .ok (.iload_n 1, 1) := by decide +kernel
theorem dX5_riseBy_1 : decode cX5_riseBy 1 = .ok (.invokestatic 81, 3) := by decide +kernel
theorem dX5_riseBy_4 : decode cX5_riseBy 4 = .ok (.ifCond .ne 9, 3) := by decide +kernel
theorem dX5_riseBy_7 : decode cX5_riseBy 7 = .ok (.aload_n 0, 1) := by decide +kernel
theorem dX5_riseBy_8 : decode cX5_riseBy 8 = .ok (.iconst 1, 1) := by decide +kernel
theorem dX5_riseBy_9 : decode cX5_riseBy 9 = .ok (.invokevirtual 85, 3) := by decide +kernel
theorem dX5_riseBy_12 : decode cX5_riseBy 12 = .ok (.ireturn, 1) := by decide +kernel
theorem dX5_riseBy_13 : decode cX5_riseBy 13 = .ok (.iload_n 2, 1) := by decide +kernel
theorem dX5_riseBy_14 : decode cX5_riseBy 14 = .ok (.invokestatic 127, 3) := by decide +kernel
theorem dX5_riseBy_17 : decode cX5_riseBy 17 = .ok (.ifCond .eq 15, 3) := by decide +kernel
theorem dX5_riseBy_20 : decode cX5_riseBy 20 = .ok (.iload_n 3, 1) := by decide +kernel
theorem dX5_riseBy_21 : decode cX5_riseBy 21 = .ok (.i2l, 1) := by decide +kernel
theorem dX5_riseBy_22 : decode cX5_riseBy 22 = .ok (.lconst 0, 1) := by decide +kernel
theorem dX5_riseBy_23 : decode cX5_riseBy 23 = .ok (.ldc2_w 130, 3) := by decide +kernel
theorem dX5_riseBy_26 : decode cX5_riseBy 26 = .ok (.invokestatic 43, 3) := by decide +kernel
theorem dX5_riseBy_29 : decode cX5_riseBy 29 = .ok (.ifCond .ne 9, 3) := by decide +kernel
theorem dX5_riseBy_32 : decode cX5_riseBy 32 = .ok (.aload_n 0, 1) := by decide +kernel
theorem dX5_riseBy_33 : decode cX5_riseBy 33 = .ok (.iconst 2, 1) := by decide +kernel
theorem dX5_riseBy_34 : decode cX5_riseBy 34 = .ok (.invokevirtual 85, 3) := by decide +kernel
theorem dX5_riseBy_37 : decode cX5_riseBy 37 = .ok (.ireturn, 1) := by decide +kernel
theorem dX5_riseBy_38 : decode cX5_riseBy 38 = .ok (.aload_n 0, 1) := by decide +kernel
theorem dX5_riseBy_39 : decode cX5_riseBy 39 = .ok (.invokevirtual 158, 3) := by decide +kernel
theorem dX5_riseBy_42 : decode cX5_riseBy 42 = .ok (.aload_n 0, 1) := by decide +kernel
theorem dX5_riseBy_43 : decode cX5_riseBy 43 = .ok (.iload_n 2, 1) := by decide +kernel
theorem dX5_riseBy_44 : decode cX5_riseBy 44 = .ok (.iload_n 3, 1) := by decide +kernel
theorem dX5_riseBy_45 : decode cX5_riseBy 45 = .ok (.invokevirtual 132, 3) := by decide +kernel
theorem dX5_riseBy_48 : decode cX5_riseBy 48 = .ok (.istore 4, 2) := by decide +kernel
theorem dX5_riseBy_50 : decode cX5_riseBy 50 = .ok (.iload 4, 2) := by decide +kernel
theorem dX5_riseBy_52 : decode cX5_riseBy 52 = .ok (.ifCond .ne 7, 3) := by decide +kernel
theorem dX5_riseBy_55 : decode cX5_riseBy 55 = .ok (.iconst 0, 1) := by decide +kernel
theorem dX5_riseBy_56 : decode cX5_riseBy 56 = .ok (.goto 23, 3) := by decide +kernel
theorem dX5_riseBy_59 : decode cX5_riseBy 59 = .ok (.aload_n 0, 1) := by decide +kernel
theorem dX5_riseBy_60 : decode cX5_riseBy 60 = .ok (.getfield 7, 3) := by decide +kernel
theorem dX5_riseBy_63 : decode cX5_riseBy 63 = .ok (.bipush 13, 2) := by decide +kernel
theorem dX5_riseBy_65 : decode cX5_riseBy 65 = .ok (.iload_n 1, 1) := by decide +kernel
theorem dX5_riseBy_66 : decode cX5_riseBy 66 = .ok (.iadd, 1) := by decide +kernel
theorem dX5_riseBy_67 : decode cX5_riseBy 67 = .ok (.laload, 1) := by decide +kernel
theorem dX5_riseBy_68 : decode cX5_riseBy 68 = .ok (.aload_n 0, 1) := by decide +kernel
theorem dX5_riseBy_69 : decode cX5_riseBy 69 = .ok (.getfield 16, 3) := by decide +kernel
theorem dX5_riseBy_72 : decode cX5_riseBy 72 = .ok (.bipush 13, 2) := by decide +kernel
theorem dX5_riseBy_74 : decode cX5_riseBy 74 = .ok (.iload_n 1, 1) := by decide +kernel
theorem dX5_riseBy_75 : decode cX5_riseBy 75 = .ok (.iadd, 1) := by decide +kernel
theorem dX5_riseBy_76 : decode cX5_riseBy 76 = .ok (.laload, 1) := by decide +kernel
theorem dX5_riseBy_77 : decode cX5_riseBy 77 = .ok (.lsub, 1) := by decide +kernel
theorem dX5_riseBy_78 : decode cX5_riseBy 78 = .ok (.l2i, 1) := by decide +kernel
theorem dX5_riseBy_79 : decode cX5_riseBy 79 = .ok (.istore 5, 2) := by decide +kernel
theorem dX5_riseBy_81 : decode cX5_riseBy 81 = .ok (.aload_n 0, 1) := by decide +kernel
theorem dX5_riseBy_82 : decode cX5_riseBy 82 = .ok (.invokevirtual 161, 3) := by decide +kernel
theorem dX5_riseBy_85 : decode cX5_riseBy 85 = .ok (.aload_n 0, 1) := by decide +kernel
theorem dX5_riseBy_86 : decode cX5_riseBy 86 = .ok (.iload 5, 2) := by decide +kernel
theorem dX5_riseBy_88 : decode cX5_riseBy 88 = .ok (.invokevirtual 78, 3) := by decide +kernel
theorem dX5_riseBy_91 : decode cX5_riseBy 91 = .ok (.ireturn, 1) := by decide +kernel
theorem dX5_efficiency_0 : decode cX5_efficiency 0 = .ok (.aload_n 0, 1) := by decide +kernel
theorem dX5_efficiency_1 : decode cX5_efficiency 1 = .ok (.iconst 0, 1) := by decide +kernel
theorem dX5_efficiency_2 : decode cX5_efficiency 2 = .ok (.putfield 37, 3) := by decide +kernel
theorem dX5_efficiency_5 : decode cX5_efficiency 5 = .ok (.aload_n 0, 1) := by decide +kernel
theorem dX5_efficiency_6 : decode cX5_efficiency 6 = .ok (.getfield 7, 3) := by decide +kernel
theorem dX5_efficiency_9 : decode cX5_efficiency 9 = .ok (.bipush 7, 2) := by decide +kernel
theorem dX5_efficiency_11 : decode cX5_efficiency 11 = .ok (.laload, 1) := by decide +kernel
theorem dX5_efficiency_12 : decode cX5_efficiency 12 = .ok (.lconst 0, 1) := by decide +kernel
theorem dX5_efficiency_13 : decode cX5_efficiency 13 = .ok (.lcmp, 1) := by decide +kernel
theorem dX5_efficiency_14 : decode cX5_efficiency 14 = .ok (.ifCond .ne 7, 3) := by decide +kernel
theorem dX5_efficiency_17 : decode cX5_efficiency 17 = .ok (.dconst 0, 1) := by decide +kernel
theorem dX5_efficiency_18 : decode cX5_efficiency 18 = .ok (.goto 20, 3) := by decide +kernel
theorem dX5_efficiency_21 : decode cX5_efficiency 21 = .ok (.aload_n 0, 1) := by decide +kernel
theorem dX5_efficiency_22 : decode cX5_efficiency 22 = .ok (.getfield 7, 3) := by decide +kernel
theorem dX5_efficiency_25 : decode cX5_efficiency 25 = .ok (.bipush 8, 2) := by decide +kernel
theorem dX5_efficiency_27 : decode cX5_efficiency 27 = .ok (.laload, 1) := by decide +kernel
theorem dX5_efficiency_28 : decode cX5_efficiency 28 = .ok (.l2d, 1) := by decide +kernel
theorem dX5_efficiency_29 : decode cX5_efficiency 29 = .ok (.aload_n 0, 1) := by decide +kernel
theorem dX5_efficiency_30 : decode cX5_efficiency 30 = .ok (.getfield 7, 3) := by decide +kernel
theorem dX5_efficiency_33 : decode cX5_efficiency 33 = .ok (.bipush 7, 2) := by decide +kernel
theorem dX5_efficiency_35 : decode cX5_efficiency 35 = .ok (.laload, 1) := by decide +kernel
theorem dX5_efficiency_36 : decode cX5_efficiency 36 = .ok (.l2d, 1) := by decide +kernel
theorem dX5_efficiency_37 : decode cX5_efficiency 37 = .ok (.ddiv, 1) := by decide +kernel
theorem dX5_efficiency_38 : decode cX5_efficiency 38 = .ok (.dreturn, 1) := by decide +kernel
theorem dX5_append_0 : decode cX5_append 0 = .ok (.iload_n 1, 1) := by decide +kernel
theorem dX5_append_1 : decode cX5_append 1 = .ok (.i2l, 1) := by decide +kernel
theorem dX5_append_2 : decode cX5_append 2 = .ok (.lconst 0, 1) := by decide +kernel
theorem dX5_append_3 : decode cX5_append 3 = .ok (.ldc2_w 164, 3) := by decide +kernel
theorem dX5_append_6 : decode cX5_append 6 = .ok (.invokestatic 43, 3) := by decide +kernel
theorem dX5_append_9 : decode cX5_append 9 = .ok (.ifCond .ne 9, 3) := by decide +kernel
theorem dX5_append_12 : decode cX5_append 12 = .ok (.aload_n 0, 1) := by decide +kernel
theorem dX5_append_13 : decode cX5_append 13 = .ok (.iconst 1, 1) := by decide +kernel
theorem dX5_append_14 : decode cX5_append 14 = .ok (.invokevirtual 85, 3) := by decide +kernel
theorem dX5_append_17 : decode cX5_append 17 = .ok (.ireturn, 1) := by decide +kernel
theorem dX5_append_18 : decode cX5_append 18 = .ok (.aload_n 0, 1) := by decide +kernel
theorem dX5_append_19 : decode cX5_append 19 = .ok (.getfield 166, 3) := by decide +kernel
theorem dX5_append_22 : decode cX5_append 22 = .ok (.bipush 60, 2) := by decide +kernel
theorem dX5_append_24 : decode cX5_append 24 = .ok (.if_icmp .ne 9, 3) := by decide +kernel
theorem dX5_append_27 : decode cX5_append 27 = .ok (.aload_n 0, 1) := by decide +kernel
theorem dX5_append_28 : decode cX5_append 28 = .ok (.iconst 2, 1) := by decide +kernel
theorem dX5_append_29 : decode cX5_append 29 = .ok (.invokevirtual 85, 3) := by decide +kernel
theorem dX5_append_32 : decode cX5_append 32 = .ok (.ireturn, 1) := by decide +kernel
theorem dX5_append_33 : decode cX5_append 33 = .ok (.aload_n 0, 1) := by decide +kernel
theorem dX5_append_34 : decode cX5_append 34 = .ok (.getfield 19, 3) := by decide +kernel
theorem dX5_append_37 : decode cX5_append 37 = .ok (.aload_n 0, 1) := by decide +kernel
theorem dX5_append_38 : decode cX5_append 38 = .ok (.getfield 166, 3) := by decide +kernel
theorem dX5_append_41 : decode cX5_append 41 = .ok (.iload_n 1, 1) := by decide +kernel
theorem dX5_append_42 : decode cX5_append 42 = .ok (.iastore, 1) := by decide +kernel
theorem dX5_append_43 : decode cX5_append 43 = .ok (.aload_n 0, 1) := by decide +kernel
theorem dX5_append_44 : decode cX5_append 44 = .ok (.dup, 1) := by decide +kernel
theorem dX5_append_45 : decode cX5_append 45 = .ok (.getfield 166, 3) := by decide +kernel
theorem dX5_append_48 : decode cX5_append 48 = .ok (.iconst 1, 1) := by decide +kernel
theorem dX5_append_49 : decode cX5_append 49 = .ok (.iadd, 1) := by decide +kernel
theorem dX5_append_50 : decode cX5_append 50 = .ok (.putfield 166, 3) := by decide +kernel
theorem dX5_append_53 : decode cX5_append 53 = .ok (.aload_n 0, 1) := by decide +kernel
theorem dX5_append_54 : decode cX5_append 54 = .ok (.aload_n 0, 1) := by decide +kernel
theorem dX5_append_55 : decode cX5_append 55 = .ok (.getfield 166, 3) := by decide +kernel
theorem dX5_append_58 : decode cX5_append 58 = .ok (.invokevirtual 78, 3) := by decide +kernel
theorem dX5_append_61 : decode cX5_append 61 = .ok (.ireturn, 1) := by decide +kernel
theorem dX5_clearText_0 : decode cX5_clearText 0 = .ok (.aload_n 0, 1) := by decide +kernel
theorem dX5_clearText_1 : decode cX5_clearText 1 = .ok (.getfield 166, 3) := by decide +kernel
theorem dX5_clearText_4 : decode cX5_clearText 4 = .ok (.istore_n 1, 1) := by decide +kernel
theorem dX5_clearText_5 : decode cX5_clearText 5 = .ok (.aload_n 0, 1) := by decide +kernel
theorem dX5_clearText_6 : decode cX5_clearText 6 = .ok (.iconst 0, 1) := by decide +kernel
theorem dX5_clearText_7 : decode cX5_clearText 7 = .ok (.putfield 166, 3) := by decide +kernel
theorem dX5_clearText_10 : decode cX5_clearText 10 = .ok (.aload_n 0, 1) := by decide +kernel
theorem dX5_clearText_11 : decode cX5_clearText 11 = .ok (.iload_n 1, 1) := by decide +kernel
theorem dX5_clearText_12 : decode cX5_clearText 12 = .ok (.invokevirtual 78, 3) := by decide +kernel
theorem dX5_clearText_15 : decode cX5_clearText 15 = .ok (.ireturn, 1) := by decide +kernel
theorem dX5_isAt_0 : decode cX5_isAt 0 = .ok (.aload_n 0, 1) := by decide +kernel
theorem dX5_isAt_1 : decode cX5_isAt 1 = .ok (.getfield 169, 3) := by decide +kernel
theorem dX5_isAt_4 : decode cX5_isAt 4 = .ok (.aload_n 0, 1) := by decide +kernel
theorem dX5_isAt_5 : decode cX5_isAt 5 = .ok (.getfield 166, 3) := by decide +kernel
theorem dX5_isAt_8 : decode cX5_isAt 8 = .ok (.if_icmp .ge 27, 3) := by decide +kernel
theorem dX5_isAt_11 : decode cX5_isAt 11 = .ok (.aload_n 0, 1) := by decide +kernel
theorem dX5_isAt_12 : decode cX5_isAt 12 = .ok (.getfield 19, 3) := by decide +kernel
theorem dX5_isAt_15 : decode cX5_isAt 15 = .ok (.aload_n 0, 1) := by decide +kernel
theorem dX5_isAt_16 : decode cX5_isAt 16 = .ok (.getfield 169, 3) := by decide +kernel
theorem dX5_isAt_19 : decode cX5_isAt 19 = .ok (.iaload, 1) := by decide +kernel
theorem dX5_isAt_20 : decode cX5_isAt 20 = .ok (.i2l, 1) := by decide +kernel
theorem dX5_isAt_21 : decode cX5_isAt 21 = .ok (.iload_n 1, 1) := by decide +kernel
theorem dX5_isAt_22 : decode cX5_isAt 22 = .ok (.i2l, 1) := by decide +kernel
theorem dX5_isAt_23 : decode cX5_isAt 23 = .ok (.iload_n 2, 1) := by decide +kernel
theorem dX5_isAt_24 : decode cX5_isAt 24 = .ok (.i2l, 1) := by decide +kernel
theorem dX5_isAt_25 : decode cX5_isAt 25 = .ok (.invokestatic 43, 3) := by decide +kernel
theorem dX5_isAt_28 : decode cX5_isAt 28 = .ok (.ifCond .eq 7, 3) := by decide +kernel
theorem dX5_isAt_31 : decode cX5_isAt 31 = .ok (.iconst 1, 1) := by decide +kernel
theorem dX5_isAt_32 : decode cX5_isAt 32 = .ok (.goto 4, 3) := by decide +kernel
theorem dX5_isAt_35 : decode cX5_isAt 35 = .ok (.iconst 0, 1) := by decide +kernel
theorem dX5_isAt_36 : decode cX5_isAt 36 = .ok (.ireturn, 1) := by decide +kernel
theorem dX5_readsWeight_0 : decode cX5_readsWeight 0 = .ok (.aload_n 0, 1) := by decide +kernel
theorem dX5_readsWeight_1 : decode cX5_readsWeight 1 = .ok (.getfield 169, 3) := by decide +kernel
theorem dX5_readsWeight_4 : decode cX5_readsWeight 4 = .ok (.istore_n 1, 1) := by decide +kernel
theorem dX5_readsWeight_5 : decode cX5_readsWeight 5 = .ok (.iconst 0, 1) := by decide +kernel
theorem dX5_readsWeight_6 : decode cX5_readsWeight 6 = .ok (.istore_n 2, 1) := by decide +kernel
theorem dX5_readsWeight_7 : decode cX5_readsWeight 7 = .ok (.aload_n 0, 1) := by decide +kernel
theorem dX5_readsWeight_8 : decode cX5_readsWeight 8 = .ok (.bipush 48, 2) := by decide +kernel
theorem dX5_readsWeight_10 : decode cX5_readsWeight 10 = .ok (.bipush 57, 2) := by decide +kernel
theorem dX5_readsWeight_12 : decode cX5_readsWeight 12 = .ok (.invokevirtual 172, 3) := by decide +kernel
theorem dX5_readsWeight_15 : decode cX5_readsWeight 15 = .ok (.ifCond .eq 44, 3) := by decide +kernel
theorem dX5_readsWeight_18 : decode cX5_readsWeight 18 = .ok (.aload_n 0, 1) := by decide +kernel
theorem dX5_readsWeight_19 : decode cX5_readsWeight 19 = .ok (.getfield 169, 3) := by decide +kernel
theorem dX5_readsWeight_22 : decode cX5_readsWeight 22 = .ok (.iload_n 1, 1) := by decide +kernel
theorem dX5_readsWeight_23 : decode cX5_readsWeight 23 = .ok (.iconst 5, 1) := by decide +kernel
theorem dX5_readsWeight_24 : decode cX5_readsWeight 24 = .ok (.iadd, 1) := by decide +kernel
theorem dX5_readsWeight_25 : decode cX5_readsWeight 25 = .ok (.if_icmp .ge 34, 3) := by decide +kernel
theorem dX5_readsWeight_28 : decode cX5_readsWeight 28 = .ok (.bipush 10, 2) := by decide +kernel
theorem dX5_readsWeight_30 : decode cX5_readsWeight 30 = .ok (.iload_n 2, 1) := by decide +kernel
theorem dX5_readsWeight_31 : decode cX5_readsWeight 31 = .ok (.imul, 1) := by decide +kernel
theorem dX5_readsWeight_32 : decode cX5_readsWeight 32 = .ok (.aload_n 0, 1) := by decide +kernel
theorem dX5_readsWeight_33 : decode cX5_readsWeight 33 = .ok (.getfield 19, 3) := by decide +kernel
theorem dX5_readsWeight_36 : decode cX5_readsWeight 36 = .ok (.aload_n 0, 1) := by decide +kernel
theorem dX5_readsWeight_37 : decode cX5_readsWeight 37 = .ok (.getfield 169, 3) := by decide +kernel
theorem dX5_readsWeight_40 : decode cX5_readsWeight 40 = .ok (.iaload, 1) := by decide +kernel
theorem dX5_readsWeight_41 : decode cX5_readsWeight 41 = .ok (.iadd, 1) := by decide +kernel
theorem dX5_readsWeight_42 : decode cX5_readsWeight 42 = .ok (.bipush 48, 2) := by decide +kernel
theorem dX5_readsWeight_44 : decode cX5_readsWeight 44 = .ok (.isub, 1) := by decide +kernel
theorem dX5_readsWeight_45 : decode cX5_readsWeight 45 = .ok (.istore_n 2, 1) := by decide +kernel
theorem dX5_readsWeight_46 : decode cX5_readsWeight 46 = .ok (.aload_n 0, 1) := by decide +kernel
theorem dX5_readsWeight_47 : decode cX5_readsWeight 47 = .ok (.dup, 1) := by decide +kernel
theorem dX5_readsWeight_48 : decode cX5_readsWeight 48 = .ok (.getfield 169, 3) := by decide +kernel
theorem dX5_readsWeight_51 : decode cX5_readsWeight 51 = .ok (.iconst 1, 1) := by decide +kernel
theorem dX5_readsWeight_52 : decode cX5_readsWeight 52 = .ok (.iadd, 1) := by decide +kernel
theorem dX5_readsWeight_53 : decode cX5_readsWeight 53 = .ok (.putfield 169, 3) := by decide +kernel
theorem dX5_readsWeight_56 : decode cX5_readsWeight 56 = .ok (.goto (-49), 3) := by decide +kernel
theorem dX5_readsWeight_59 : decode cX5_readsWeight 59 = .ok (.aload_n 0, 1) := by decide +kernel
theorem dX5_readsWeight_60 : decode cX5_readsWeight 60 = .ok (.getfield 169, 3) := by decide +kernel
theorem dX5_readsWeight_63 : decode cX5_readsWeight 63 = .ok (.iload_n 1, 1) := by decide +kernel
theorem dX5_readsWeight_64 : decode cX5_readsWeight 64 = .ok (.if_icmp .eq 14, 3) := by decide +kernel
theorem dX5_readsWeight_67 : decode cX5_readsWeight 67 = .ok (.aload_n 0, 1) := by decide +kernel
theorem dX5_readsWeight_68 : decode cX5_readsWeight 68 = .ok (.bipush 48, 2) := by decide +kernel
theorem dX5_readsWeight_70 : decode cX5_readsWeight 70 = .ok (.bipush 57, 2) := by decide +kernel
theorem dX5_readsWeight_72 : decode cX5_readsWeight 72 = .ok (.invokevirtual 172, 3) := by decide +kernel
theorem dX5_readsWeight_75 : decode cX5_readsWeight 75 = .ok (.ifCond .eq 5, 3) := by decide +kernel
theorem dX5_readsWeight_78 : decode cX5_readsWeight 78 = .ok (.iconst 0, 1) := by decide +kernel
theorem dX5_readsWeight_79 : decode cX5_readsWeight 79 = .ok (.ireturn, 1) := by decide +kernel
theorem dX5_readsWeight_80 : decode cX5_readsWeight 80 = .ok (.aload_n 0, 1) := by decide +kernel
theorem dX5_readsWeight_81 : decode cX5_readsWeight 81 = .ok (.getfield 26, 3) := by decide +kernel
theorem dX5_readsWeight_84 : decode cX5_readsWeight 84 = .ok (.aload_n 0, 1) := by decide +kernel
theorem dX5_readsWeight_85 : decode cX5_readsWeight 85 = .ok (.getfield 176, 3) := by decide +kernel
theorem dX5_readsWeight_88 : decode cX5_readsWeight 88 = .ok (.iload_n 2, 1) := by decide +kernel
theorem dX5_readsWeight_89 : decode cX5_readsWeight 89 = .ok (.iastore, 1) := by decide +kernel
theorem dX5_readsWeight_90 : decode cX5_readsWeight 90 = .ok (.aload_n 0, 1) := by decide +kernel
theorem dX5_readsWeight_91 : decode cX5_readsWeight 91 = .ok (.dup, 1) := by decide +kernel
theorem dX5_readsWeight_92 : decode cX5_readsWeight 92 = .ok (.getfield 176, 3) := by decide +kernel
theorem dX5_readsWeight_95 : decode cX5_readsWeight 95 = .ok (.iconst 1, 1) := by decide +kernel
theorem dX5_readsWeight_96 : decode cX5_readsWeight 96 = .ok (.iadd, 1) := by decide +kernel
theorem dX5_readsWeight_97 : decode cX5_readsWeight 97 = .ok (.putfield 176, 3) := by decide +kernel
theorem dX5_readsWeight_100 : decode cX5_readsWeight 100 = .ok (.aload_n 0, 1) := by decide +kernel
theorem dX5_readsWeight_101 : decode cX5_readsWeight 101 = .ok (.iload_n 2, 1) := by decide +kernel
theorem dX5_readsWeight_102 : decode cX5_readsWeight 102 = .ok (.ldc 179, 2) := by decide +kernel
theorem dX5_readsWeight_104 : decode cX5_readsWeight 104 = .ok (.if_icmp .le 7, 3) := by decide +kernel
theorem dX5_readsWeight_107 : decode cX5_readsWeight 107 = .ok (.iload_n 1, 1) := by decide +kernel
theorem dX5_readsWeight_108 : decode cX5_readsWeight 108 = .ok (.goto 7, 3) := by decide +kernel
theorem dX5_readsWeight_111 : decode cX5_readsWeight 111 = .ok (.aload_n 0, 1) := by decide +kernel
theorem dX5_readsWeight_112 : decode cX5_readsWeight 112 = .ok (.getfield 169, 3) := by decide +kernel
theorem dX5_readsWeight_115 : decode cX5_readsWeight 115 = .ok (.putfield 169, 3) := by decide +kernel
theorem dX5_readsWeight_118 : decode cX5_readsWeight 118 = .ok (.iload_n 2, 1) := by decide +kernel
theorem dX5_readsWeight_119 : decode cX5_readsWeight 119 = .ok (.ldc 179, 2) := by decide +kernel
theorem dX5_readsWeight_121 : decode cX5_readsWeight 121 = .ok (.if_icmp .gt 7, 3) := by decide +kernel
theorem dX5_readsWeight_124 : decode cX5_readsWeight 124 = .ok (.iconst 1, 1) := by decide +kernel
theorem dX5_readsWeight_125 : decode cX5_readsWeight 125 = .ok (.goto 4, 3) := by decide +kernel
theorem dX5_readsWeight_128 : decode cX5_readsWeight 128 = .ok (.iconst 0, 1) := by decide +kernel
theorem dX5_readsWeight_129 : decode cX5_readsWeight 129 = .ok (.ireturn, 1) := by decide +kernel
theorem dX5_reads_0 : decode cX5_reads 0 = .ok (.aload_n 0, 1) := by decide +kernel
theorem dX5_reads_1 : decode cX5_reads 1 = .ok (.iconst 0, 1) := by decide +kernel
theorem dX5_reads_2 : decode cX5_reads 2 = .ok (.putfield 169, 3) := by decide +kernel
theorem dX5_reads_5 : decode cX5_reads 5 = .ok (.aload_n 0, 1) := by decide +kernel
theorem dX5_reads_6 : decode cX5_reads 6 = .ok (.iconst 0, 1) := by decide +kernel
theorem dX5_reads_7 : decode cX5_reads 7 = .ok (.putfield 180, 3) := by decide +kernel
theorem dX5_reads_10 : decode cX5_reads 10 = .ok (.aload_n 0, 1) := by decide +kernel
theorem dX5_reads_11 : decode cX5_reads 11 = .ok (.iconst 0, 1) := by decide +kernel
theorem dX5_reads_12 : decode cX5_reads 12 = .ok (.putfield 176, 3) := by decide +kernel
theorem dX5_reads_15 : decode cX5_reads 15 = .ok (.aload_n 0, 1) := by decide +kernel
theorem dX5_reads_16 : decode cX5_reads 16 = .ok (.getfield 180, 3) := by decide +kernel
theorem dX5_reads_19 : decode cX5_reads 19 = .ok (.bipush 10, 2) := by decide +kernel
theorem dX5_reads_21 : decode cX5_reads 21 = .ok (.if_icmp .ge 58, 3) := by decide +kernel
theorem dX5_reads_24 : decode cX5_reads 24 = .ok (.aload_n 0, 1) := by decide +kernel
theorem dX5_reads_25 : decode cX5_reads 25 = .ok (.bipush 48, 2) := by decide +kernel
theorem dX5_reads_27 : decode cX5_reads 27 = .ok (.bipush 51, 2) := by decide +kernel
theorem dX5_reads_29 : decode cX5_reads 29 = .ok (.invokevirtual 172, 3) := by decide +kernel
theorem dX5_reads_32 : decode cX5_reads 32 = .ok (.ifCond .eq 47, 3) := by decide +kernel
theorem dX5_reads_35 : decode cX5_reads 35 = .ok (.aload_n 0, 1) := by decide +kernel
theorem dX5_reads_36 : decode cX5_reads 36 = .ok (.getfield 23, 3) := by decide +kernel
theorem dX5_reads_39 : decode cX5_reads 39 = .ok (.aload_n 0, 1) := by decide +kernel
theorem dX5_reads_40 : decode cX5_reads 40 = .ok (.getfield 180, 3) := by decide +kernel
theorem dX5_reads_43 : decode cX5_reads 43 = .ok (.aload_n 0, 1) := by decide +kernel
theorem dX5_reads_44 : decode cX5_reads 44 = .ok (.getfield 19, 3) := by decide +kernel
theorem dX5_reads_47 : decode cX5_reads 47 = .ok (.aload_n 0, 1) := by decide +kernel
theorem dX5_reads_48 : decode cX5_reads 48 = .ok (.getfield 169, 3) := by decide +kernel
theorem dX5_reads_51 : decode cX5_reads 51 = .ok (.iaload, 1) := by decide +kernel
theorem dX5_reads_52 : decode cX5_reads 52 = .ok (.bipush 48, 2) := by decide +kernel
theorem dX5_reads_54 : decode cX5_reads 54 = .ok (.isub, 1) := by decide +kernel
theorem dX5_reads_55 : decode cX5_reads 55 = .ok (.iastore, 1) := by decide +kernel
theorem dX5_reads_56 : decode cX5_reads 56 = .ok (.aload_n 0, 1) := by decide +kernel
theorem dX5_reads_57 : decode cX5_reads 57 = .ok (.dup, 1) := by decide +kernel
theorem dX5_reads_58 : decode cX5_reads 58 = .ok (.getfield 180, 3) := by decide +kernel
theorem dX5_reads_61 : decode cX5_reads 61 = .ok (.iconst 1, 1) := by decide +kernel
theorem dX5_reads_62 : decode cX5_reads 62 = .ok (.iadd, 1) := by decide +kernel
theorem dX5_reads_63 : decode cX5_reads 63 = .ok (.putfield 180, 3) := by decide +kernel
theorem dX5_reads_66 : decode cX5_reads 66 = .ok (.aload_n 0, 1) := by decide +kernel
theorem dX5_reads_67 : decode cX5_reads 67 = .ok (.dup, 1) := by decide +kernel
theorem dX5_reads_68 : decode cX5_reads 68 = .ok (.getfield 169, 3) := by decide +kernel
theorem dX5_reads_71 : decode cX5_reads 71 = .ok (.iconst 1, 1) := by decide +kernel
theorem dX5_reads_72 : decode cX5_reads 72 = .ok (.iadd, 1) := by decide +kernel
theorem dX5_reads_73 : decode cX5_reads 73 = .ok (.putfield 169, 3) := by decide +kernel
theorem dX5_reads_76 : decode cX5_reads 76 = .ok (.goto (-61), 3) := by decide +kernel
theorem dX5_reads_79 : decode cX5_reads 79 = .ok (.aload_n 0, 1) := by decide +kernel
theorem dX5_reads_80 : decode cX5_reads 80 = .ok (.bipush 46, 2) := by decide +kernel
theorem dX5_reads_82 : decode cX5_reads 82 = .ok (.bipush 46, 2) := by decide +kernel
theorem dX5_reads_84 : decode cX5_reads 84 = .ok (.invokevirtual 172, 3) := by decide +kernel
theorem dX5_reads_87 : decode cX5_reads 87 = .ok (.ifCond .ne 5, 3) := by decide +kernel
theorem dX5_reads_90 : decode cX5_reads 90 = .ok (.iconst 0, 1) := by decide +kernel
theorem dX5_reads_91 : decode cX5_reads 91 = .ok (.ireturn, 1) := by decide +kernel
theorem dX5_reads_92 : decode cX5_reads 92 = .ok (.aload_n 0, 1) := by decide +kernel
theorem dX5_reads_93 : decode cX5_reads 93 = .ok (.dup, 1) := by decide +kernel
theorem dX5_reads_94 : decode cX5_reads 94 = .ok (.getfield 169, 3) := by decide +kernel
theorem dX5_reads_97 : decode cX5_reads 97 = .ok (.iconst 1, 1) := by decide +kernel
theorem dX5_reads_98 : decode cX5_reads 98 = .ok (.iadd, 1) := by decide +kernel
theorem dX5_reads_99 : decode cX5_reads 99 = .ok (.putfield 169, 3) := by decide +kernel
theorem dX5_reads_102 : decode cX5_reads 102 = .ok (.aload_n 0, 1) := by decide +kernel
theorem dX5_reads_103 : decode cX5_reads 103 = .ok (.bipush 48, 2) := by decide +kernel
theorem dX5_reads_105 : decode cX5_reads 105 = .ok (.bipush 52, 2) := by decide +kernel
theorem dX5_reads_107 : decode cX5_reads 107 = .ok (.invokevirtual 172, 3) := by decide +kernel
theorem dX5_reads_110 : decode cX5_reads 110 = .ok (.ifCond .ne 5, 3) := by decide +kernel
theorem dX5_reads_113 : decode cX5_reads 113 = .ok (.iconst 0, 1) := by decide +kernel
theorem dX5_reads_114 : decode cX5_reads 114 = .ok (.ireturn, 1) := by decide +kernel
theorem dX5_reads_115 : decode cX5_reads 115 = .ok (.aload_n 0, 1) := by decide +kernel
theorem dX5_reads_116 : decode cX5_reads 116 = .ok (.aload_n 0, 1) := by decide +kernel
theorem dX5_reads_117 : decode cX5_reads 117 = .ok (.getfield 19, 3) := by decide +kernel
theorem dX5_reads_120 : decode cX5_reads 120 = .ok (.aload_n 0, 1) := by decide +kernel
theorem dX5_reads_121 : decode cX5_reads 121 = .ok (.getfield 169, 3) := by decide +kernel
theorem dX5_reads_124 : decode cX5_reads 124 = .ok (.iaload, 1) := by decide +kernel
theorem dX5_reads_125 : decode cX5_reads 125 = .ok (.bipush 48, 2) := by decide +kernel
theorem dX5_reads_127 : decode cX5_reads 127 = .ok (.isub, 1) := by decide +kernel
theorem dX5_reads_128 : decode cX5_reads 128 = .ok (.putfield 183, 3) := by decide +kernel
theorem dX5_reads_131 : decode cX5_reads 131 = .ok (.aload_n 0, 1) := by decide +kernel
theorem dX5_reads_132 : decode cX5_reads 132 = .ok (.dup, 1) := by decide +kernel
theorem dX5_reads_133 : decode cX5_reads 133 = .ok (.getfield 169, 3) := by decide +kernel
theorem dX5_reads_136 : decode cX5_reads 136 = .ok (.iconst 1, 1) := by decide +kernel
theorem dX5_reads_137 : decode cX5_reads 137 = .ok (.iadd, 1) := by decide +kernel
theorem dX5_reads_138 : decode cX5_reads 138 = .ok (.putfield 169, 3) := by decide +kernel
theorem dX5_reads_141 : decode cX5_reads 141 = .ok (.iconst 1, 1) := by decide +kernel
theorem dX5_reads_142 : decode cX5_reads 142 = .ok (.istore_n 1, 1) := by decide +kernel
theorem dX5_reads_143 : decode cX5_reads 143 = .ok (.iload_n 1, 1) := by decide +kernel
theorem dX5_reads_144 : decode cX5_reads 144 = .ok (.ifCond .eq 40, 3) := by decide +kernel
theorem dX5_reads_147 : decode cX5_reads 147 = .ok (.aload_n 0, 1) := by decide +kernel
theorem dX5_reads_148 : decode cX5_reads 148 = .ok (.getfield 176, 3) := by decide +kernel
theorem dX5_reads_151 : decode cX5_reads 151 = .ok (.iconst 4, 1) := by decide +kernel
theorem dX5_reads_152 : decode cX5_reads 152 = .ok (.if_icmp .ge 32, 3) := by decide +kernel
theorem dX5_reads_155 : decode cX5_reads 155 = .ok (.aload_n 0, 1) := by decide +kernel
theorem dX5_reads_156 : decode cX5_reads 156 = .ok (.bipush 44, 2) := by decide +kernel
theorem dX5_reads_158 : decode cX5_reads 158 = .ok (.bipush 44, 2) := by decide +kernel
theorem dX5_reads_160 : decode cX5_reads 160 = .ok (.invokevirtual 172, 3) := by decide +kernel
theorem dX5_reads_163 : decode cX5_reads 163 = .ok (.ifCond .eq 21, 3) := by decide +kernel
theorem dX5_reads_166 : decode cX5_reads 166 = .ok (.aload_n 0, 1) := by decide +kernel
theorem dX5_reads_167 : decode cX5_reads 167 = .ok (.dup, 1) := by decide +kernel
theorem dX5_reads_168 : decode cX5_reads 168 = .ok (.getfield 169, 3) := by decide +kernel
theorem dX5_reads_171 : decode cX5_reads 171 = .ok (.iconst 1, 1) := by decide +kernel
theorem dX5_reads_172 : decode cX5_reads 172 = .ok (.iadd, 1) := by decide +kernel
theorem dX5_reads_173 : decode cX5_reads 173 = .ok (.putfield 169, 3) := by decide +kernel
theorem dX5_reads_176 : decode cX5_reads 176 = .ok (.aload_n 0, 1) := by decide +kernel
theorem dX5_reads_177 : decode cX5_reads 177 = .ok (.invokevirtual 186, 3) := by decide +kernel
theorem dX5_reads_180 : decode cX5_reads 180 = .ok (.istore_n 1, 1) := by decide +kernel
theorem dX5_reads_181 : decode cX5_reads 181 = .ok (.goto (-38), 3) := by decide +kernel
theorem dX5_reads_184 : decode cX5_reads 184 = .ok (.iload_n 1, 1) := by decide +kernel
theorem dX5_reads_185 : decode cX5_reads 185 = .ok (.ifCond .eq 18, 3) := by decide +kernel
theorem dX5_reads_188 : decode cX5_reads 188 = .ok (.aload_n 0, 1) := by decide +kernel
theorem dX5_reads_189 : decode cX5_reads 189 = .ok (.getfield 169, 3) := by decide +kernel
theorem dX5_reads_192 : decode cX5_reads 192 = .ok (.aload_n 0, 1) := by decide +kernel
theorem dX5_reads_193 : decode cX5_reads 193 = .ok (.getfield 166, 3) := by decide +kernel
theorem dX5_reads_196 : decode cX5_reads 196 = .ok (.if_icmp .ne 7, 3) := by decide +kernel
theorem dX5_reads_199 : decode cX5_reads 199 = .ok (.iconst 1, 1) := by decide +kernel
theorem dX5_reads_200 : decode cX5_reads 200 = .ok (.goto 4, 3) := by decide +kernel
theorem dX5_reads_203 : decode cX5_reads 203 = .ok (.iconst 0, 1) := by decide +kernel
theorem dX5_reads_204 : decode cX5_reads 204 = .ok (.ireturn, 1) := by decide +kernel
theorem dX5_parse_0 : decode cX5_parse 0 = .ok (.aload_n 0, 1) := by decide +kernel
theorem dX5_parse_1 : decode cX5_parse 1 = .ok (.invokevirtual 190, 3) := by decide +kernel
theorem dX5_parse_4 : decode cX5_parse 4 = .ok (.ifCond .ne 15, 3) := by decide +kernel
theorem dX5_parse_7 : decode cX5_parse 7 = .ok (.aload_n 0, 1) := by decide +kernel
theorem dX5_parse_8 : decode cX5_parse 8 = .ok (.bipush (-10), 2) := by decide +kernel
theorem dX5_parse_10 : decode cX5_parse 10 = .ok (.aload_n 0, 1) := by decide +kernel
theorem dX5_parse_11 : decode cX5_parse 11 = .ok (.getfield 169, 3) := by decide +kernel
theorem dX5_parse_14 : decode cX5_parse 14 = .ok (.isub, 1) := by decide +kernel
theorem dX5_parse_15 : decode cX5_parse 15 = .ok (.invokevirtual 78, 3) := by decide +kernel
theorem dX5_parse_18 : decode cX5_parse 18 = .ok (.ireturn, 1) := by decide +kernel
theorem dX5_parse_19 : decode cX5_parse 19 = .ok (.aload_n 0, 1) := by decide +kernel
theorem dX5_parse_20 : decode cX5_parse 20 = .ok (.getfield 7, 3) := by decide +kernel
theorem dX5_parse_23 : decode cX5_parse 23 = .ok (.iconst 0, 1) := by decide +kernel
theorem dX5_parse_24 : decode cX5_parse 24 = .ok (.laload, 1) := by decide +kernel
theorem dX5_parse_25 : decode cX5_parse 25 = .ok (.l2i, 1) := by decide +kernel
theorem dX5_parse_26 : decode cX5_parse 26 = .ok (.sipush 10000, 3) := by decide +kernel
theorem dX5_parse_29 : decode cX5_parse 29 = .ok (.iconst 2, 1) := by decide +kernel
theorem dX5_parse_30 : decode cX5_parse 30 = .ok (.aload_n 0, 1) := by decide +kernel
theorem dX5_parse_31 : decode cX5_parse 31 = .ok (.getfield 180, 3) := by decide +kernel
theorem dX5_parse_34 : decode cX5_parse 34 = .ok (.imul, 1) := by decide +kernel
theorem dX5_parse_35 : decode cX5_parse 35 = .ok (.aload_n 0, 1) := by decide +kernel
theorem dX5_parse_36 : decode cX5_parse 36 = .ok (.getfield 183, 3) := by decide +kernel
theorem dX5_parse_39 : decode cX5_parse 39 = .ok (.iconst 4, 1) := by decide +kernel
theorem dX5_parse_40 : decode cX5_parse 40 = .ok (.if_icmp .ne 7, 3) := by decide +kernel
theorem dX5_parse_43 : decode cX5_parse 43 = .ok (.iconst 0, 1) := by decide +kernel
theorem dX5_parse_44 : decode cX5_parse 44 = .ok (.goto 4, 3) := by decide +kernel
theorem dX5_parse_47 : decode cX5_parse 47 = .ok (.iconst 1, 1) := by decide +kernel
theorem dX5_parse_48 : decode cX5_parse 48 = .ok (.iadd, 1) := by decide +kernel
theorem dX5_parse_49 : decode cX5_parse 49 = .ok (.imul, 1) := by decide +kernel
theorem dX5_parse_50 : decode cX5_parse 50 = .ok (.isub, 1) := by decide +kernel
theorem dX5_parse_51 : decode cX5_parse 51 = .ok (.istore_n 1, 1) := by decide +kernel
theorem dX5_parse_52 : decode cX5_parse 52 = .ok (.iload_n 1, 1) := by decide +kernel
theorem dX5_parse_53 : decode cX5_parse 53 = .ok (.ifCond .ge 9, 3) := by decide +kernel
theorem dX5_parse_56 : decode cX5_parse 56 = .ok (.aload_n 0, 1) := by decide +kernel
theorem dX5_parse_57 : decode cX5_parse 57 = .ok (.iconst (-1), 1) := by decide +kernel
theorem dX5_parse_58 : decode cX5_parse 58 = .ok (.invokevirtual 78, 3) := by decide +kernel
theorem dX5_parse_61 : decode cX5_parse 61 = .ok (.ireturn, 1) := by decide +kernel
theorem dX5_parse_62 : decode cX5_parse 62 = .ok (.aload_n 0, 1) := by decide +kernel
theorem dX5_parse_63 : decode cX5_parse 63 = .ok (.invokevirtual 75, 3) := by decide +kernel
theorem dX5_parse_66 : decode cX5_parse 66 = .ok (.aload_n 0, 1) := by decide +kernel
theorem dX5_parse_67 : decode cX5_parse 67 = .ok (.getfield 7, 3) := by decide +kernel
theorem dX5_parse_70 : decode cX5_parse 70 = .ok (.iconst 2, 1) := by decide +kernel
theorem dX5_parse_71 : decode cX5_parse 71 = .ok (.aload_n 0, 1) := by decide +kernel
theorem dX5_parse_72 : decode cX5_parse 72 = .ok (.getfield 180, 3) := by decide +kernel
theorem dX5_parse_75 : decode cX5_parse 75 = .ok (.i2l, 1) := by decide +kernel
theorem dX5_parse_76 : decode cX5_parse 76 = .ok (.lastore, 1) := by decide +kernel
theorem dX5_parse_77 : decode cX5_parse 77 = .ok (.aload_n 0, 1) := by decide +kernel
theorem dX5_parse_78 : decode cX5_parse 78 = .ok (.getfield 7, 3) := by decide +kernel
theorem dX5_parse_81 : decode cX5_parse 81 = .ok (.iconst 3, 1) := by decide +kernel
theorem dX5_parse_82 : decode cX5_parse 82 = .ok (.aload_n 0, 1) := by decide +kernel
theorem dX5_parse_83 : decode cX5_parse 83 = .ok (.getfield 183, 3) := by decide +kernel
theorem dX5_parse_86 : decode cX5_parse 86 = .ok (.i2l, 1) := by decide +kernel
theorem dX5_parse_87 : decode cX5_parse 87 = .ok (.lastore, 1) := by decide +kernel
theorem dX5_parse_88 : decode cX5_parse 88 = .ok (.iconst 0, 1) := by decide +kernel
theorem dX5_parse_89 : decode cX5_parse 89 = .ok (.istore_n 2, 1) := by decide +kernel
theorem dX5_parse_90 : decode cX5_parse 90 = .ok (.iload_n 2, 1) := by decide +kernel
theorem dX5_parse_91 : decode cX5_parse 91 = .ok (.aload_n 0, 1) := by decide +kernel
theorem dX5_parse_92 : decode cX5_parse 92 = .ok (.getfield 180, 3) := by decide +kernel
theorem dX5_parse_95 : decode cX5_parse 95 = .ok (.if_icmp .ge 25, 3) := by decide +kernel
theorem dX5_parse_98 : decode cX5_parse 98 = .ok (.aload_n 0, 1) := by decide +kernel
theorem dX5_parse_99 : decode cX5_parse 99 = .ok (.getfield 7, 3) := by decide +kernel
theorem dX5_parse_102 : decode cX5_parse 102 = .ok (.bipush 17, 2) := by decide +kernel
theorem dX5_parse_104 : decode cX5_parse 104 = .ok (.iload_n 2, 1) := by decide +kernel
theorem dX5_parse_105 : decode cX5_parse 105 = .ok (.iadd, 1) := by decide +kernel
theorem dX5_parse_106 : decode cX5_parse 106 = .ok (.aload_n 0, 1) := by decide +kernel
theorem dX5_parse_107 : decode cX5_parse 107 = .ok (.getfield 23, 3) := by decide +kernel
theorem dX5_parse_110 : decode cX5_parse 110 = .ok (.iload_n 2, 1) := by decide +kernel
theorem dX5_parse_111 : decode cX5_parse 111 = .ok (.iaload, 1) := by decide +kernel
theorem dX5_parse_112 : decode cX5_parse 112 = .ok (.i2l, 1) := by decide +kernel
theorem dX5_parse_113 : decode cX5_parse 113 = .ok (.lastore, 1) := by decide +kernel
theorem dX5_parse_114 : decode cX5_parse 114 = .ok (.iinc 2 1, 3) := by decide +kernel
theorem dX5_parse_117 : decode cX5_parse 117 = .ok (.goto (-27), 3) := by decide +kernel
theorem dX5_parse_120 : decode cX5_parse 120 = .ok (.iconst 0, 1) := by decide +kernel
theorem dX5_parse_121 : decode cX5_parse 121 = .ok (.istore_n 2, 1) := by decide +kernel
theorem dX5_parse_122 : decode cX5_parse 122 = .ok (.iload_n 2, 1) := by decide +kernel
theorem dX5_parse_123 : decode cX5_parse 123 = .ok (.iconst 4, 1) := by decide +kernel
theorem dX5_parse_124 : decode cX5_parse 124 = .ok (.if_icmp .ge 55, 3) := by decide +kernel
theorem dX5_parse_127 : decode cX5_parse 127 = .ok (.aload_n 0, 1) := by decide +kernel
theorem dX5_parse_128 : decode cX5_parse 128 = .ok (.getfield 7, 3) := by decide +kernel
theorem dX5_parse_131 : decode cX5_parse 131 = .ok (.bipush 13, 2) := by decide +kernel
theorem dX5_parse_133 : decode cX5_parse 133 = .ok (.iload_n 2, 1) := by decide +kernel
theorem dX5_parse_134 : decode cX5_parse 134 = .ok (.iadd, 1) := by decide +kernel
theorem dX5_parse_135 : decode cX5_parse 135 = .ok (.lconst 0, 1) := by decide +kernel
theorem dX5_parse_136 : decode cX5_parse 136 = .ok (.lastore, 1) := by decide +kernel
theorem dX5_parse_137 : decode cX5_parse 137 = .ok (.aload_n 0, 1) := by decide +kernel
theorem dX5_parse_138 : decode cX5_parse 138 = .ok (.getfield 7, 3) := by decide +kernel
theorem dX5_parse_141 : decode cX5_parse 141 = .ok (.bipush 9, 2) := by decide +kernel
theorem dX5_parse_143 : decode cX5_parse 143 = .ok (.iload_n 2, 1) := by decide +kernel
theorem dX5_parse_144 : decode cX5_parse 144 = .ok (.iadd, 1) := by decide +kernel
theorem dX5_parse_145 : decode cX5_parse 145 = .ok (.iload_n 2, 1) := by decide +kernel
theorem dX5_parse_146 : decode cX5_parse 146 = .ok (.aload_n 0, 1) := by decide +kernel
theorem dX5_parse_147 : decode cX5_parse 147 = .ok (.getfield 176, 3) := by decide +kernel
theorem dX5_parse_150 : decode cX5_parse 150 = .ok (.if_icmp .ge 13, 3) := by decide +kernel
theorem dX5_parse_153 : decode cX5_parse 153 = .ok (.aload_n 0, 1) := by decide +kernel
theorem dX5_parse_154 : decode cX5_parse 154 = .ok (.getfield 26, 3) := by decide +kernel
theorem dX5_parse_157 : decode cX5_parse 157 = .ok (.iload_n 2, 1) := by decide +kernel
theorem dX5_parse_158 : decode cX5_parse 158 = .ok (.iaload, 1) := by decide +kernel
theorem dX5_parse_159 : decode cX5_parse 159 = .ok (.i2l, 1) := by decide +kernel
theorem dX5_parse_160 : decode cX5_parse 160 = .ok (.goto 12, 3) := by decide +kernel
theorem dX5_parse_163 : decode cX5_parse 163 = .ok (.aload_n 0, 1) := by decide +kernel
theorem dX5_parse_164 : decode cX5_parse 164 = .ok (.getfield 7, 3) := by decide +kernel
theorem dX5_parse_167 : decode cX5_parse 167 = .ok (.bipush 9, 2) := by decide +kernel
theorem dX5_parse_169 : decode cX5_parse 169 = .ok (.iload_n 2, 1) := by decide +kernel
theorem dX5_parse_170 : decode cX5_parse 170 = .ok (.iadd, 1) := by decide +kernel
theorem dX5_parse_171 : decode cX5_parse 171 = .ok (.laload, 1) := by decide +kernel
theorem dX5_parse_172 : decode cX5_parse 172 = .ok (.lastore, 1) := by decide +kernel
theorem dX5_parse_173 : decode cX5_parse 173 = .ok (.iinc 2 1, 3) := by decide +kernel
theorem dX5_parse_176 : decode cX5_parse 176 = .ok (.goto (-54), 3) := by decide +kernel
theorem dX5_parse_179 : decode cX5_parse 179 = .ok (.aload_n 0, 1) := by decide +kernel
theorem dX5_parse_180 : decode cX5_parse 180 = .ok (.iload_n 1, 1) := by decide +kernel
theorem dX5_parse_181 : decode cX5_parse 181 = .ok (.invokevirtual 78, 3) := by decide +kernel
theorem dX5_parse_184 : decode cX5_parse 184 = .ok (.ireturn, 1) := by decide +kernel
theorem dX5_undo_0 : decode cX5_undo 0 = .ok (.aload_n 0, 1) := by decide +kernel
theorem dX5_undo_1 : decode cX5_undo 1 = .ok (.getfield 49, 3) := by decide +kernel
theorem dX5_undo_4 : decode cX5_undo 4 = .ok (.ifCond .ne 9, 3) := by decide +kernel
theorem dX5_undo_7 : decode cX5_undo 7 = .ok (.aload_n 0, 1) := by decide +kernel
theorem dX5_undo_8 : decode cX5_undo 8 = .ok (.iconst 1, 1) := by decide +kernel
theorem dX5_undo_9 : decode cX5_undo 9 = .ok (.invokevirtual 85, 3) := by decide +kernel
theorem dX5_undo_12 : decode cX5_undo 12 = .ok (.ireturn, 1) := by decide +kernel
theorem dX5_undo_13 : decode cX5_undo 13 = .ok (.aload_n 0, 1) := by decide +kernel
theorem dX5_undo_14 : decode cX5_undo 14 = .ok (.dup, 1) := by decide +kernel
theorem dX5_undo_15 : decode cX5_undo 15 = .ok (.getfield 49, 3) := by decide +kernel
theorem dX5_undo_18 : decode cX5_undo 18 = .ok (.iconst 1, 1) := by decide +kernel
theorem dX5_undo_19 : decode cX5_undo 19 = .ok (.isub, 1) := by decide +kernel
theorem dX5_undo_20 : decode cX5_undo 20 = .ok (.putfield 49, 3) := by decide +kernel
theorem dX5_undo_23 : decode cX5_undo 23 = .ok (.iconst 0, 1) := by decide +kernel
theorem dX5_undo_24 : decode cX5_undo 24 = .ok (.istore_n 1, 1) := by decide +kernel
theorem dX5_undo_25 : decode cX5_undo 25 = .ok (.iload_n 1, 1) := by decide +kernel
theorem dX5_undo_26 : decode cX5_undo 26 = .ok (.bipush 75, 2) := by decide +kernel
theorem dX5_undo_28 : decode cX5_undo 28 = .ok (.if_icmp .ge 29, 3) := by decide +kernel
theorem dX5_undo_31 : decode cX5_undo 31 = .ok (.aload_n 0, 1) := by decide +kernel
theorem dX5_undo_32 : decode cX5_undo 32 = .ok (.getfield 7, 3) := by decide +kernel
theorem dX5_undo_35 : decode cX5_undo 35 = .ok (.iload_n 1, 1) := by decide +kernel
theorem dX5_undo_36 : decode cX5_undo 36 = .ok (.aload_n 0, 1) := by decide +kernel
theorem dX5_undo_37 : decode cX5_undo 37 = .ok (.getfield 13, 3) := by decide +kernel
theorem dX5_undo_40 : decode cX5_undo 40 = .ok (.bipush 75, 2) := by decide +kernel
theorem dX5_undo_42 : decode cX5_undo 42 = .ok (.aload_n 0, 1) := by decide +kernel
theorem dX5_undo_43 : decode cX5_undo 43 = .ok (.getfield 49, 3) := by decide +kernel
theorem dX5_undo_46 : decode cX5_undo 46 = .ok (.imul, 1) := by decide +kernel
theorem dX5_undo_47 : decode cX5_undo 47 = .ok (.iload_n 1, 1) := by decide +kernel
theorem dX5_undo_48 : decode cX5_undo 48 = .ok (.iadd, 1) := by decide +kernel
theorem dX5_undo_49 : decode cX5_undo 49 = .ok (.laload, 1) := by decide +kernel
theorem dX5_undo_50 : decode cX5_undo 50 = .ok (.lastore, 1) := by decide +kernel
theorem dX5_undo_51 : decode cX5_undo 51 = .ok (.iinc 1 1, 3) := by decide +kernel
theorem dX5_undo_54 : decode cX5_undo 54 = .ok (.goto (-29), 3) := by decide +kernel
theorem dX5_undo_57 : decode cX5_undo 57 = .ok (.aload_n 0, 1) := by decide +kernel
theorem dX5_undo_58 : decode cX5_undo 58 = .ok (.aload_n 0, 1) := by decide +kernel
theorem dX5_undo_59 : decode cX5_undo 59 = .ok (.getfield 49, 3) := by decide +kernel
theorem dX5_undo_62 : decode cX5_undo 62 = .ok (.invokevirtual 78, 3) := by decide +kernel
theorem dX5_undo_65 : decode cX5_undo 65 = .ok (.ireturn, 1) := by decide +kernel
theorem dX5_mix_0 : decode cX5_mix 0 = .ok (.aload_n 0, 1) := by decide +kernel
theorem dX5_mix_1 : decode cX5_mix 1 = .ok (.ldc2_w 193, 3) := by decide +kernel
theorem dX5_mix_4 : decode cX5_mix 4 = .ok (.aload_n 0, 1) := by decide +kernel
theorem dX5_mix_5 : decode cX5_mix 5 = .ok (.getfield 195, 3) := by decide +kernel
theorem dX5_mix_8 : decode cX5_mix 8 = .ok (.lmul, 1) := by decide +kernel
theorem dX5_mix_9 : decode cX5_mix 9 = .ok (.lload_n 1, 1) := by decide +kernel
theorem dX5_mix_10 : decode cX5_mix 10 = .ok (.ladd, 1) := by decide +kernel
theorem dX5_mix_11 : decode cX5_mix 11 = .ok (.putfield 195, 3) := by decide +kernel
theorem dX5_mix_14 : decode cX5_mix 14 = .ok (.return_, 1) := by decide +kernel
theorem dX5_digest_0 : decode cX5_digest 0 = .ok (.aload_n 0, 1) := by decide +kernel
theorem dX5_digest_1 : decode cX5_digest 1 = .ok (.iconst 0, 1) := by decide +kernel
theorem dX5_digest_2 : decode cX5_digest 2 = .ok (.putfield 37, 3) := by decide +kernel
theorem dX5_digest_5 : decode cX5_digest 5 = .ok (.aload_n 0, 1) := by decide +kernel
theorem dX5_digest_6 : decode cX5_digest 6 = .ok (.ldc2_w 199, 3) := by decide +kernel
theorem dX5_digest_9 : decode cX5_digest 9 = .ok (.putfield 195, 3) := by decide +kernel
theorem dX5_digest_12 : decode cX5_digest 12 = .ok (.aload_n 0, 1) := by decide +kernel
theorem dX5_digest_13 : decode cX5_digest 13 = .ok (.aload_n 0, 1) := by decide +kernel
theorem dX5_digest_14 : decode cX5_digest 14 = .ok (.getfield 166, 3) := by decide +kernel
theorem dX5_digest_17 : decode cX5_digest 17 = .ok (.i2l, 1) := by decide +kernel
theorem dX5_digest_18 : decode cX5_digest 18 = .ok (.invokevirtual 201, 3) := by decide +kernel
theorem dX5_digest_21 : decode cX5_digest 21 = .ok (.iconst 0, 1) := by decide +kernel
theorem dX5_digest_22 : decode cX5_digest 22 = .ok (.istore_n 1, 1) := by decide +kernel
theorem dX5_digest_23 : decode cX5_digest 23 = .ok (.iload_n 1, 1) := by decide +kernel
theorem dX5_digest_24 : decode cX5_digest 24 = .ok (.bipush 10, 2) := by decide +kernel
theorem dX5_digest_26 : decode cX5_digest 26 = .ok (.if_icmp .ge 19, 3) := by decide +kernel
theorem dX5_digest_29 : decode cX5_digest 29 = .ok (.aload_n 0, 1) := by decide +kernel
theorem dX5_digest_30 : decode cX5_digest 30 = .ok (.aload_n 0, 1) := by decide +kernel
theorem dX5_digest_31 : decode cX5_digest 31 = .ok (.iload_n 1, 1) := by decide +kernel
theorem dX5_digest_32 : decode cX5_digest 32 = .ok (.invokevirtual 151, 3) := by decide +kernel
theorem dX5_digest_35 : decode cX5_digest 35 = .ok (.i2l, 1) := by decide +kernel
theorem dX5_digest_36 : decode cX5_digest 36 = .ok (.invokevirtual 201, 3) := by decide +kernel
theorem dX5_digest_39 : decode cX5_digest 39 = .ok (.iinc 1 1, 3) := by decide +kernel
theorem dX5_digest_42 : decode cX5_digest 42 = .ok (.goto (-19), 3) := by decide +kernel
theorem dX5_digest_45 : decode cX5_digest 45 = .ok (.aload_n 0, 1) := by decide +kernel
theorem dX5_digest_46 : decode cX5_digest 46 = .ok (.aload_n 0, 1) := by decide +kernel
theorem dX5_digest_47 : decode cX5_digest 47 = .ok (.getfield 7, 3) := by decide +kernel
theorem dX5_digest_50 : decode cX5_digest 50 = .ok (.bipush 7, 2) := by decide +kernel
theorem dX5_digest_52 : decode cX5_digest 52 = .ok (.laload, 1) := by decide +kernel
theorem dX5_digest_53 : decode cX5_digest 53 = .ok (.invokevirtual 201, 3) := by decide +kernel
theorem dX5_digest_56 : decode cX5_digest 56 = .ok (.aload_n 0, 1) := by decide +kernel
theorem dX5_digest_57 : decode cX5_digest 57 = .ok (.aload_n 0, 1) := by decide +kernel
theorem dX5_digest_58 : decode cX5_digest 58 = .ok (.getfield 7, 3) := by decide +kernel
theorem dX5_digest_61 : decode cX5_digest 61 = .ok (.bipush 8, 2) := by decide +kernel
theorem dX5_digest_63 : decode cX5_digest 63 = .ok (.laload, 1) := by decide +kernel
theorem dX5_digest_64 : decode cX5_digest 64 = .ok (.invokevirtual 201, 3) := by decide +kernel
theorem dX5_digest_67 : decode cX5_digest 67 = .ok (.iconst 0, 1) := by decide +kernel
theorem dX5_digest_68 : decode cX5_digest 68 = .ok (.istore_n 1, 1) := by decide +kernel
theorem dX5_digest_69 : decode cX5_digest 69 = .ok (.iload_n 1, 1) := by decide +kernel
theorem dX5_digest_70 : decode cX5_digest 70 = .ok (.bipush 28, 2) := by decide +kernel
theorem dX5_digest_72 : decode cX5_digest 72 = .ok (.if_icmp .ge 26, 3) := by decide +kernel
theorem dX5_digest_75 : decode cX5_digest 75 = .ok (.aload_n 0, 1) := by decide +kernel
theorem dX5_digest_76 : decode cX5_digest 76 = .ok (.aload_n 0, 1) := by decide +kernel
theorem dX5_digest_77 : decode cX5_digest 77 = .ok (.iload_n 1, 1) := by decide +kernel
theorem dX5_digest_78 : decode cX5_digest 78 = .ok (.bipush 7, 2) := by decide +kernel
theorem dX5_digest_80 : decode cX5_digest 80 = .ok (.idiv, 1) := by decide +kernel
theorem dX5_digest_81 : decode cX5_digest 81 = .ok (.iload_n 1, 1) := by decide +kernel
theorem dX5_digest_82 : decode cX5_digest 82 = .ok (.bipush 7, 2) := by decide +kernel
theorem dX5_digest_84 : decode cX5_digest 84 = .ok (.irem, 1) := by decide +kernel
theorem dX5_digest_85 : decode cX5_digest 85 = .ok (.invokevirtual 140, 3) := by decide +kernel
theorem dX5_digest_88 : decode cX5_digest 88 = .ok (.i2l, 1) := by decide +kernel
theorem dX5_digest_89 : decode cX5_digest 89 = .ok (.invokevirtual 201, 3) := by decide +kernel
theorem dX5_digest_92 : decode cX5_digest 92 = .ok (.iinc 1 1, 3) := by decide +kernel
theorem dX5_digest_95 : decode cX5_digest 95 = .ok (.goto (-26), 3) := by decide +kernel
theorem dX5_digest_98 : decode cX5_digest 98 = .ok (.iconst 0, 1) := by decide +kernel
theorem dX5_digest_99 : decode cX5_digest 99 = .ok (.istore_n 1, 1) := by decide +kernel
theorem dX5_digest_100 : decode cX5_digest 100 = .ok (.iload_n 1, 1) := by decide +kernel
theorem dX5_digest_101 : decode cX5_digest 101 = .ok (.i2l, 1) := by decide +kernel
theorem dX5_digest_102 : decode cX5_digest 102 = .ok (.aload_n 0, 1) := by decide +kernel
theorem dX5_digest_103 : decode cX5_digest 103 = .ok (.getfield 7, 3) := by decide +kernel
theorem dX5_digest_106 : decode cX5_digest 106 = .ok (.iconst 2, 1) := by decide +kernel
theorem dX5_digest_107 : decode cX5_digest 107 = .ok (.laload, 1) := by decide +kernel
theorem dX5_digest_108 : decode cX5_digest 108 = .ok (.lcmp, 1) := by decide +kernel
theorem dX5_digest_109 : decode cX5_digest 109 = .ok (.ifCond .ge 22, 3) := by decide +kernel
theorem dX5_digest_112 : decode cX5_digest 112 = .ok (.aload_n 0, 1) := by decide +kernel
theorem dX5_digest_113 : decode cX5_digest 113 = .ok (.aload_n 0, 1) := by decide +kernel
theorem dX5_digest_114 : decode cX5_digest 114 = .ok (.getfield 7, 3) := by decide +kernel
theorem dX5_digest_117 : decode cX5_digest 117 = .ok (.bipush 17, 2) := by decide +kernel
theorem dX5_digest_119 : decode cX5_digest 119 = .ok (.iload_n 1, 1) := by decide +kernel
theorem dX5_digest_120 : decode cX5_digest 120 = .ok (.iadd, 1) := by decide +kernel
theorem dX5_digest_121 : decode cX5_digest 121 = .ok (.laload, 1) := by decide +kernel
theorem dX5_digest_122 : decode cX5_digest 122 = .ok (.invokevirtual 201, 3) := by decide +kernel
theorem dX5_digest_125 : decode cX5_digest 125 = .ok (.iinc 1 1, 3) := by decide +kernel
theorem dX5_digest_128 : decode cX5_digest 128 = .ok (.goto (-28), 3) := by decide +kernel
theorem dX5_digest_131 : decode cX5_digest 131 = .ok (.iconst 0, 1) := by decide +kernel
theorem dX5_digest_132 : decode cX5_digest 132 = .ok (.istore_n 1, 1) := by decide +kernel
theorem dX5_digest_133 : decode cX5_digest 133 = .ok (.iload_n 1, 1) := by decide +kernel
theorem dX5_digest_134 : decode cX5_digest 134 = .ok (.i2l, 1) := by decide +kernel
theorem dX5_digest_135 : decode cX5_digest 135 = .ok (.ldc2_w 41, 3) := by decide +kernel
theorem dX5_digest_138 : decode cX5_digest 138 = .ok (.aload_n 0, 1) := by decide +kernel
theorem dX5_digest_139 : decode cX5_digest 139 = .ok (.getfield 7, 3) := by decide +kernel
theorem dX5_digest_142 : decode cX5_digest 142 = .ok (.bipush 6, 2) := by decide +kernel
theorem dX5_digest_144 : decode cX5_digest 144 = .ok (.laload, 1) := by decide +kernel
theorem dX5_digest_145 : decode cX5_digest 145 = .ok (.lmul, 1) := by decide +kernel
theorem dX5_digest_146 : decode cX5_digest 146 = .ok (.lcmp, 1) := by decide +kernel
theorem dX5_digest_147 : decode cX5_digest 147 = .ok (.ifCond .ge 22, 3) := by decide +kernel
theorem dX5_digest_150 : decode cX5_digest 150 = .ok (.aload_n 0, 1) := by decide +kernel
theorem dX5_digest_151 : decode cX5_digest 151 = .ok (.aload_n 0, 1) := by decide +kernel
theorem dX5_digest_152 : decode cX5_digest 152 = .ok (.getfield 7, 3) := by decide +kernel
theorem dX5_digest_155 : decode cX5_digest 155 = .ok (.bipush 27, 2) := by decide +kernel
theorem dX5_digest_157 : decode cX5_digest 157 = .ok (.iload_n 1, 1) := by decide +kernel
theorem dX5_digest_158 : decode cX5_digest 158 = .ok (.iadd, 1) := by decide +kernel
theorem dX5_digest_159 : decode cX5_digest 159 = .ok (.laload, 1) := by decide +kernel
theorem dX5_digest_160 : decode cX5_digest 160 = .ok (.invokevirtual 201, 3) := by decide +kernel
theorem dX5_digest_163 : decode cX5_digest 163 = .ok (.iinc 1 1, 3) := by decide +kernel
theorem dX5_digest_166 : decode cX5_digest 166 = .ok (.goto (-33), 3) := by decide +kernel
theorem dX5_digest_169 : decode cX5_digest 169 = .ok (.aload_n 0, 1) := by decide +kernel
theorem dX5_digest_170 : decode cX5_digest 170 = .ok (.aload_n 0, 1) := by decide +kernel
theorem dX5_digest_171 : decode cX5_digest 171 = .ok (.getfield 49, 3) := by decide +kernel
theorem dX5_digest_174 : decode cX5_digest 174 = .ok (.i2l, 1) := by decide +kernel
theorem dX5_digest_175 : decode cX5_digest 175 = .ok (.invokevirtual 201, 3) := by decide +kernel
theorem dX5_digest_178 : decode cX5_digest 178 = .ok (.aload_n 0, 1) := by decide +kernel
theorem dX5_digest_179 : decode cX5_digest 179 = .ok (.getfield 195, 3) := by decide +kernel
theorem dX5_digest_182 : decode cX5_digest 182 = .ok (.lreturn, 1) := by decide +kernel
end
section
theorem dL_law_0 : decode cL_law 0 = .ok (.new 8, 3) := by decide +kernel
theorem dL_law_3 : decode cL_law 3 = .ok (.dup, 1) := by decide +kernel
theorem dL_law_4 : decode cL_law 4 = .ok (.invokespecial 80, 3) := by decide +kernel
theorem dL_law_7 : decode cL_law 7 = .ok (.astore_n 1, 1) := by decide +kernel
theorem dL_law_8 : decode cL_law 8 = .ok (.new 81, 3) := by decide +kernel
theorem dL_law_11 : decode cL_law 11 = .ok (.dup, 1) := by decide +kernel
theorem dL_law_12 : decode cL_law 12 = .ok (.invokespecial 83, 3) := by decide +kernel
theorem dL_law_15 : decode cL_law 15 = .ok (.astore_n 2, 1) := by decide +kernel
theorem dL_law_16 : decode cL_law 16 = .ok (.iconst 1, 1) := by decide +kernel
theorem dL_law_17 : decode cL_law 17 = .ok (.newarray .long, 2) := by decide +kernel
theorem dL_law_19 : decode cL_law 19 = .ok (.astore_n 3, 1) := by decide +kernel
theorem dL_law_20 : decode cL_law 20 = .ok (.iconst 0, 1) := by decide +kernel
theorem dL_law_21 : decode cL_law 21 = .ok (.istore 4, 2) := by decide +kernel
theorem dL_law_23 : decode cL_law 23 = .ok (.iload 4, 2) := by decide +kernel
theorem dL_law_25 : decode cL_law 25 = .ok (.aload_n 0, 1) := by decide +kernel
theorem dL_law_26 : decode cL_law 26 = .ok (.arraylength, 1) := by decide +kernel
theorem dL_law_27 : decode cL_law 27 = .ok (.iconst 4, 1) := by decide +kernel
theorem dL_law_28 : decode cL_law 28 = .ok (.isub, 1) := by decide +kernel
theorem dL_law_29 : decode cL_law 29 = .ok (.if_icmp .gt 1580, 3) := by decide +kernel
theorem dL_law_32 : decode cL_law 32 = .ok (.aload_n 0, 1) := by decide +kernel
theorem dL_law_33 : decode cL_law 33 = .ok (.iload 4, 2) := by decide +kernel
theorem dL_law_35 : decode cL_law 35 = .ok (.iaload, 1) := by decide +kernel
theorem dL_law_36 : decode cL_law 36 = .ok (.bipush 31, 2) := by decide +kernel
theorem dL_law_38 : decode cL_law 38 = .ok (.iand, 1) := by decide +kernel
theorem dL_law_39 : decode cL_law 39 = .ok (.tableswitch 1564 0 26 #[121, 189, 245, 301, 357, 401, 457, 525, 593, 661, 717, 812, 907, 963, 1005, 1073, 1086, 1099, 1167, 1223, 1303, 1383, 1424, 1480, 1493, 1506, 1550], 121) := by decide +kernel
theorem dL_law_160 : decode cL_law 160 = .ok (.aload_n 1, 1) := by decide +kernel
theorem dL_law_161 : decode cL_law 161 = .ok (.aload_n 0, 1) := by decide +kernel
theorem dL_law_162 : decode cL_law 162 = .ok (.iload 4, 2) := by decide +kernel
theorem dL_law_164 : decode cL_law 164 = .ok (.iconst 1, 1) := by decide +kernel
theorem dL_law_165 : decode cL_law 165 = .ok (.iadd, 1) := by decide +kernel
theorem dL_law_166 : decode cL_law 166 = .ok (.iaload, 1) := by decide +kernel
theorem dL_law_167 : decode cL_law 167 = .ok (.aload_n 0, 1) := by decide +kernel
theorem dL_law_168 : decode cL_law 168 = .ok (.iload 4, 2) := by decide +kernel
theorem dL_law_170 : decode cL_law 170 = .ok (.iconst 2, 1) := by decide +kernel
theorem dL_law_171 : decode cL_law 171 = .ok (.iadd, 1) := by decide +kernel
theorem dL_law_172 : decode cL_law 172 = .ok (.iaload, 1) := by decide +kernel
theorem dL_law_173 : decode cL_law 173 = .ok (.aload_n 3, 1) := by decide +kernel
theorem dL_law_174 : decode cL_law 174 = .ok (.invokestatic 84, 3) := by decide +kernel
theorem dL_law_177 : decode cL_law 177 = .ok (.istore 5, 2) := by decide +kernel
theorem dL_law_179 : decode cL_law 179 = .ok (.aload_n 2, 1) := by decide +kernel
theorem dL_law_180 : decode cL_law 180 = .ok (.aload_n 0, 1) := by decide +kernel
theorem dL_law_181 : decode cL_law 181 = .ok (.iload 4, 2) := by decide +kernel
theorem dL_law_183 : decode cL_law 183 = .ok (.iconst 1, 1) := by decide +kernel
theorem dL_law_184 : decode cL_law 184 = .ok (.iadd, 1) := by decide +kernel
theorem dL_law_185 : decode cL_law 185 = .ok (.iaload, 1) := by decide +kernel
theorem dL_law_186 : decode cL_law 186 = .ok (.aload_n 0, 1) := by decide +kernel
theorem dL_law_187 : decode cL_law 187 = .ok (.iload 4, 2) := by decide +kernel
theorem dL_law_189 : decode cL_law 189 = .ok (.iconst 2, 1) := by decide +kernel
theorem dL_law_190 : decode cL_law 190 = .ok (.iadd, 1) := by decide +kernel
theorem dL_law_191 : decode cL_law 191 = .ok (.iaload, 1) := by decide +kernel
theorem dL_law_192 : decode cL_law 192 = .ok (.invokevirtual 89, 3) := by decide +kernel
theorem dL_law_195 : decode cL_law 195 = .ok (.istore 6, 2) := by decide +kernel
theorem dL_law_197 : decode cL_law 197 = .ok (.aload_n 2, 1) := by decide +kernel
theorem dL_law_198 : decode cL_law 198 = .ok (.invokevirtual 90, 3) := by decide +kernel
theorem dL_law_201 : decode cL_law 201 = .ok (.iload 5, 2) := by decide +kernel
theorem dL_law_203 : decode cL_law 203 = .ok (.if_icmp .eq 5, 3) := by decide +kernel
theorem dL_law_206 : decode cL_law 206 = .ok (.iconst 0, 1) := by decide +kernel
theorem dL_law_207 : decode cL_law 207 = .ok (.ireturn, 1) := by decide +kernel
theorem dL_law_208 : decode cL_law 208 = .ok (.iload 5, 2) := by decide +kernel
theorem dL_law_210 : decode cL_law 210 = .ok (.ifCond .ne 15, 3) := by decide +kernel
theorem dL_law_213 : decode cL_law 213 = .ok (.aload_n 3, 1) := by decide +kernel
theorem dL_law_214 : decode cL_law 214 = .ok (.iconst 0, 1) := by decide +kernel
theorem dL_law_215 : decode cL_law 215 = .ok (.laload, 1) := by decide +kernel
theorem dL_law_216 : decode cL_law 216 = .ok (.iload 6, 2) := by decide +kernel
theorem dL_law_218 : decode cL_law 218 = .ok (.i2l, 1) := by decide +kernel
theorem dL_law_219 : decode cL_law 219 = .ok (.lcmp, 1) := by decide +kernel
theorem dL_law_220 : decode cL_law 220 = .ok (.ifCond .eq 5, 3) := by decide +kernel
theorem dL_law_223 : decode cL_law 223 = .ok (.iconst 0, 1) := by decide +kernel
theorem dL_law_224 : decode cL_law 224 = .ok (.ireturn, 1) := by decide +kernel
theorem dL_law_225 : decode cL_law 225 = .ok (.goto 1378, 3) := by decide +kernel
theorem dL_law_228 : decode cL_law 228 = .ok (.aload_n 1, 1) := by decide +kernel
theorem dL_law_229 : decode cL_law 229 = .ok (.aload_n 0, 1) := by decide +kernel
theorem dL_law_230 : decode cL_law 230 = .ok (.iload 4, 2) := by decide +kernel
theorem dL_law_232 : decode cL_law 232 = .ok (.iconst 1, 1) := by decide +kernel
theorem dL_law_233 : decode cL_law 233 = .ok (.iadd, 1) := by decide +kernel
theorem dL_law_234 : decode cL_law 234 = .ok (.iaload, 1) := by decide +kernel
theorem dL_law_235 : decode cL_law 235 = .ok (.aload_n 3, 1) := by decide +kernel
theorem dL_law_236 : decode cL_law 236 = .ok (.invokestatic 93, 3) := by decide +kernel
theorem dL_law_239 : decode cL_law 239 = .ok (.istore 5, 2) := by decide +kernel
theorem dL_law_241 : decode cL_law 241 = .ok (.aload_n 2, 1) := by decide +kernel
theorem dL_law_242 : decode cL_law 242 = .ok (.aload_n 0, 1) := by decide +kernel
theorem dL_law_243 : decode cL_law 243 = .ok (.iload 4, 2) := by decide +kernel
theorem dL_law_245 : decode cL_law 245 = .ok (.iconst 1, 1) := by decide +kernel
theorem dL_law_246 : decode cL_law 246 = .ok (.iadd, 1) := by decide +kernel
theorem dL_law_247 : decode cL_law 247 = .ok (.iaload, 1) := by decide +kernel
theorem dL_law_248 : decode cL_law 248 = .ok (.invokevirtual 96, 3) := by decide +kernel
theorem dL_law_251 : decode cL_law 251 = .ok (.istore 6, 2) := by decide +kernel
theorem dL_law_253 : decode cL_law 253 = .ok (.aload_n 2, 1) := by decide +kernel
theorem dL_law_254 : decode cL_law 254 = .ok (.invokevirtual 90, 3) := by decide +kernel
theorem dL_law_257 : decode cL_law 257 = .ok (.iload 5, 2) := by decide +kernel
theorem dL_law_259 : decode cL_law 259 = .ok (.if_icmp .eq 5, 3) := by decide +kernel
theorem dL_law_262 : decode cL_law 262 = .ok (.iconst 0, 1) := by decide +kernel
theorem dL_law_263 : decode cL_law 263 = .ok (.ireturn, 1) := by decide +kernel
theorem dL_law_264 : decode cL_law 264 = .ok (.iload 5, 2) := by decide +kernel
theorem dL_law_266 : decode cL_law 266 = .ok (.ifCond .ne 15, 3) := by decide +kernel
theorem dL_law_269 : decode cL_law 269 = .ok (.aload_n 3, 1) := by decide +kernel
theorem dL_law_270 : decode cL_law 270 = .ok (.iconst 0, 1) := by decide +kernel
theorem dL_law_271 : decode cL_law 271 = .ok (.laload, 1) := by decide +kernel
theorem dL_law_272 : decode cL_law 272 = .ok (.iload 6, 2) := by decide +kernel
theorem dL_law_274 : decode cL_law 274 = .ok (.i2l, 1) := by decide +kernel
theorem dL_law_275 : decode cL_law 275 = .ok (.lcmp, 1) := by decide +kernel
theorem dL_law_276 : decode cL_law 276 = .ok (.ifCond .eq 5, 3) := by decide +kernel
theorem dL_law_279 : decode cL_law 279 = .ok (.iconst 0, 1) := by decide +kernel
theorem dL_law_280 : decode cL_law 280 = .ok (.ireturn, 1) := by decide +kernel
theorem dL_law_281 : decode cL_law 281 = .ok (.goto 1322, 3) := by decide +kernel
theorem dL_law_284 : decode cL_law 284 = .ok (.aload_n 1, 1) := by decide +kernel
theorem dL_law_285 : decode cL_law 285 = .ok (.aload_n 0, 1) := by decide +kernel
theorem dL_law_286 : decode cL_law 286 = .ok (.iload 4, 2) := by decide +kernel
theorem dL_law_288 : decode cL_law 288 = .ok (.iconst 1, 1) := by decide +kernel
theorem dL_law_289 : decode cL_law 289 = .ok (.iadd, 1) := by decide +kernel
theorem dL_law_290 : decode cL_law 290 = .ok (.iaload, 1) := by decide +kernel
theorem dL_law_291 : decode cL_law 291 = .ok (.aload_n 3, 1) := by decide +kernel
theorem dL_law_292 : decode cL_law 292 = .ok (.invokestatic 97, 3) := by decide +kernel
theorem dL_law_295 : decode cL_law 295 = .ok (.istore 5, 2) := by decide +kernel
theorem dL_law_297 : decode cL_law 297 = .ok (.aload_n 2, 1) := by decide +kernel
theorem dL_law_298 : decode cL_law 298 = .ok (.aload_n 0, 1) := by decide +kernel
theorem dL_law_299 : decode cL_law 299 = .ok (.iload 4, 2) := by decide +kernel
theorem dL_law_301 : decode cL_law 301 = .ok (.iconst 1, 1) := by decide +kernel
theorem dL_law_302 : decode cL_law 302 = .ok (.iadd, 1) := by decide +kernel
theorem dL_law_303 : decode cL_law 303 = .ok (.iaload, 1) := by decide +kernel
theorem dL_law_304 : decode cL_law 304 = .ok (.invokevirtual 99, 3) := by decide +kernel
theorem dL_law_307 : decode cL_law 307 = .ok (.istore 6, 2) := by decide +kernel
theorem dL_law_309 : decode cL_law 309 = .ok (.aload_n 2, 1) := by decide +kernel
theorem dL_law_310 : decode cL_law 310 = .ok (.invokevirtual 90, 3) := by decide +kernel
theorem dL_law_313 : decode cL_law 313 = .ok (.iload 5, 2) := by decide +kernel
theorem dL_law_315 : decode cL_law 315 = .ok (.if_icmp .eq 5, 3) := by decide +kernel
theorem dL_law_318 : decode cL_law 318 = .ok (.iconst 0, 1) := by decide +kernel
theorem dL_law_319 : decode cL_law 319 = .ok (.ireturn, 1) := by decide +kernel
theorem dL_law_320 : decode cL_law 320 = .ok (.iload 5, 2) := by decide +kernel
theorem dL_law_322 : decode cL_law 322 = .ok (.ifCond .ne 15, 3) := by decide +kernel
theorem dL_law_325 : decode cL_law 325 = .ok (.aload_n 3, 1) := by decide +kernel
theorem dL_law_326 : decode cL_law 326 = .ok (.iconst 0, 1) := by decide +kernel
theorem dL_law_327 : decode cL_law 327 = .ok (.laload, 1) := by decide +kernel
theorem dL_law_328 : decode cL_law 328 = .ok (.iload 6, 2) := by decide +kernel
theorem dL_law_330 : decode cL_law 330 = .ok (.i2l, 1) := by decide +kernel
theorem dL_law_331 : decode cL_law 331 = .ok (.lcmp, 1) := by decide +kernel
theorem dL_law_332 : decode cL_law 332 = .ok (.ifCond .eq 5, 3) := by decide +kernel
theorem dL_law_335 : decode cL_law 335 = .ok (.iconst 0, 1) := by decide +kernel
theorem dL_law_336 : decode cL_law 336 = .ok (.ireturn, 1) := by decide +kernel
theorem dL_law_337 : decode cL_law 337 = .ok (.goto 1266, 3) := by decide +kernel
theorem dL_law_340 : decode cL_law 340 = .ok (.aload_n 1, 1) := by decide +kernel
theorem dL_law_341 : decode cL_law 341 = .ok (.aload_n 0, 1) := by decide +kernel
theorem dL_law_342 : decode cL_law 342 = .ok (.iload 4, 2) := by decide +kernel
theorem dL_law_344 : decode cL_law 344 = .ok (.iconst 1, 1) := by decide +kernel
theorem dL_law_345 : decode cL_law 345 = .ok (.iadd, 1) := by decide +kernel
theorem dL_law_346 : decode cL_law 346 = .ok (.iaload, 1) := by decide +kernel
theorem dL_law_347 : decode cL_law 347 = .ok (.aload_n 3, 1) := by decide +kernel
theorem dL_law_348 : decode cL_law 348 = .ok (.invokestatic 100, 3) := by decide +kernel
theorem dL_law_351 : decode cL_law 351 = .ok (.istore 5, 2) := by decide +kernel
theorem dL_law_353 : decode cL_law 353 = .ok (.aload_n 2, 1) := by decide +kernel
theorem dL_law_354 : decode cL_law 354 = .ok (.aload_n 0, 1) := by decide +kernel
theorem dL_law_355 : decode cL_law 355 = .ok (.iload 4, 2) := by decide +kernel
theorem dL_law_357 : decode cL_law 357 = .ok (.iconst 1, 1) := by decide +kernel
theorem dL_law_358 : decode cL_law 358 = .ok (.iadd, 1) := by decide +kernel
theorem dL_law_359 : decode cL_law 359 = .ok (.iaload, 1) := by decide +kernel
theorem dL_law_360 : decode cL_law 360 = .ok (.invokevirtual 102, 3) := by decide +kernel
theorem dL_law_363 : decode cL_law 363 = .ok (.istore 6, 2) := by decide +kernel
theorem dL_law_365 : decode cL_law 365 = .ok (.aload_n 2, 1) := by decide +kernel
theorem dL_law_366 : decode cL_law 366 = .ok (.invokevirtual 90, 3) := by decide +kernel
theorem dL_law_369 : decode cL_law 369 = .ok (.iload 5, 2) := by decide +kernel
theorem dL_law_371 : decode cL_law 371 = .ok (.if_icmp .eq 5, 3) := by decide +kernel
theorem dL_law_374 : decode cL_law 374 = .ok (.iconst 0, 1) := by decide +kernel
theorem dL_law_375 : decode cL_law 375 = .ok (.ireturn, 1) := by decide +kernel
theorem dL_law_376 : decode cL_law 376 = .ok (.iload 5, 2) := by decide +kernel
theorem dL_law_378 : decode cL_law 378 = .ok (.ifCond .ne 15, 3) := by decide +kernel
theorem dL_law_381 : decode cL_law 381 = .ok (.aload_n 3, 1) := by decide +kernel
theorem dL_law_382 : decode cL_law 382 = .ok (.iconst 0, 1) := by decide +kernel
theorem dL_law_383 : decode cL_law 383 = .ok (.laload, 1) := by decide +kernel
theorem dL_law_384 : decode cL_law 384 = .ok (.iload 6, 2) := by decide +kernel
theorem dL_law_386 : decode cL_law 386 = .ok (.i2l, 1) := by decide +kernel
theorem dL_law_387 : decode cL_law 387 = .ok (.lcmp, 1) := by decide +kernel
theorem dL_law_388 : decode cL_law 388 = .ok (.ifCond .eq 5, 3) := by decide +kernel
theorem dL_law_391 : decode cL_law 391 = .ok (.iconst 0, 1) := by decide +kernel
theorem dL_law_392 : decode cL_law 392 = .ok (.ireturn, 1) := by decide +kernel
theorem dL_law_393 : decode cL_law 393 = .ok (.goto 1210, 3) := by decide +kernel
theorem dL_law_396 : decode cL_law 396 = .ok (.aload_n 1, 1) := by decide +kernel
theorem dL_law_397 : decode cL_law 397 = .ok (.aload_n 3, 1) := by decide +kernel
theorem dL_law_398 : decode cL_law 398 = .ok (.invokestatic 103, 3) := by decide +kernel
theorem dL_law_401 : decode cL_law 401 = .ok (.istore 5, 2) := by decide +kernel
theorem dL_law_403 : decode cL_law 403 = .ok (.aload_n 2, 1) := by decide +kernel
theorem dL_law_404 : decode cL_law 404 = .ok (.invokevirtual 106, 3) := by decide +kernel
theorem dL_law_407 : decode cL_law 407 = .ok (.istore 6, 2) := by decide +kernel
theorem dL_law_409 : decode cL_law 409 = .ok (.aload_n 2, 1) := by decide +kernel
theorem dL_law_410 : decode cL_law 410 = .ok (.invokevirtual 90, 3) := by decide +kernel
theorem dL_law_413 : decode cL_law 413 = .ok (.iload 5, 2) := by decide +kernel
theorem dL_law_415 : decode cL_law 415 = .ok (.if_icmp .eq 5, 3) := by decide +kernel
theorem dL_law_418 : decode cL_law 418 = .ok (.iconst 0, 1) := by decide +kernel
theorem dL_law_419 : decode cL_law 419 = .ok (.ireturn, 1) := by decide +kernel
theorem dL_law_420 : decode cL_law 420 = .ok (.iload 5, 2) := by decide +kernel
theorem dL_law_422 : decode cL_law 422 = .ok (.ifCond .ne 15, 3) := by decide +kernel
theorem dL_law_425 : decode cL_law 425 = .ok (.aload_n 3, 1) := by decide +kernel
theorem dL_law_426 : decode cL_law 426 = .ok (.iconst 0, 1) := by decide +kernel
theorem dL_law_427 : decode cL_law 427 = .ok (.laload, 1) := by decide +kernel
theorem dL_law_428 : decode cL_law 428 = .ok (.iload 6, 2) := by decide +kernel
theorem dL_law_430 : decode cL_law 430 = .ok (.i2l, 1) := by decide +kernel
theorem dL_law_431 : decode cL_law 431 = .ok (.lcmp, 1) := by decide +kernel
theorem dL_law_432 : decode cL_law 432 = .ok (.ifCond .eq 5, 3) := by decide +kernel
theorem dL_law_435 : decode cL_law 435 = .ok (.iconst 0, 1) := by decide +kernel
theorem dL_law_436 : decode cL_law 436 = .ok (.ireturn, 1) := by decide +kernel
theorem dL_law_437 : decode cL_law 437 = .ok (.goto 1166, 3) := by decide +kernel
theorem dL_law_440 : decode cL_law 440 = .ok (.aload_n 1, 1) := by decide +kernel
theorem dL_law_441 : decode cL_law 441 = .ok (.aload_n 0, 1) := by decide +kernel
theorem dL_law_442 : decode cL_law 442 = .ok (.iload 4, 2) := by decide +kernel
theorem dL_law_444 : decode cL_law 444 = .ok (.iconst 1, 1) := by decide +kernel
theorem dL_law_445 : decode cL_law 445 = .ok (.iadd, 1) := by decide +kernel
theorem dL_law_446 : decode cL_law 446 = .ok (.iaload, 1) := by decide +kernel
theorem dL_law_447 : decode cL_law 447 = .ok (.aload_n 3, 1) := by decide +kernel
theorem dL_law_448 : decode cL_law 448 = .ok (.invokestatic 107, 3) := by decide +kernel
theorem dL_law_451 : decode cL_law 451 = .ok (.istore 5, 2) := by decide +kernel
theorem dL_law_453 : decode cL_law 453 = .ok (.aload_n 2, 1) := by decide +kernel
theorem dL_law_454 : decode cL_law 454 = .ok (.aload_n 0, 1) := by decide +kernel
theorem dL_law_455 : decode cL_law 455 = .ok (.iload 4, 2) := by decide +kernel
theorem dL_law_457 : decode cL_law 457 = .ok (.iconst 1, 1) := by decide +kernel
theorem dL_law_458 : decode cL_law 458 = .ok (.iadd, 1) := by decide +kernel
theorem dL_law_459 : decode cL_law 459 = .ok (.iaload, 1) := by decide +kernel
theorem dL_law_460 : decode cL_law 460 = .ok (.invokevirtual 109, 3) := by decide +kernel
theorem dL_law_463 : decode cL_law 463 = .ok (.istore 6, 2) := by decide +kernel
theorem dL_law_465 : decode cL_law 465 = .ok (.aload_n 2, 1) := by decide +kernel
theorem dL_law_466 : decode cL_law 466 = .ok (.invokevirtual 90, 3) := by decide +kernel
theorem dL_law_469 : decode cL_law 469 = .ok (.iload 5, 2) := by decide +kernel
theorem dL_law_471 : decode cL_law 471 = .ok (.if_icmp .eq 5, 3) := by decide +kernel
theorem dL_law_474 : decode cL_law 474 = .ok (.iconst 0, 1) := by decide +kernel
theorem dL_law_475 : decode cL_law 475 = .ok (.ireturn, 1) := by decide +kernel
theorem dL_law_476 : decode cL_law 476 = .ok (.iload 5, 2) := by decide +kernel
theorem dL_law_478 : decode cL_law 478 = .ok (.ifCond .ne 15, 3) := by decide +kernel
theorem dL_law_481 : decode cL_law 481 = .ok (.aload_n 3, 1) := by decide +kernel
theorem dL_law_482 : decode cL_law 482 = .ok (.iconst 0, 1) := by decide +kernel
theorem dL_law_483 : decode cL_law 483 = .ok (.laload, 1) := by decide +kernel
theorem dL_law_484 : decode cL_law 484 = .ok (.iload 6, 2) := by decide +kernel
theorem dL_law_486 : decode cL_law 486 = .ok (.i2l, 1) := by decide +kernel
theorem dL_law_487 : decode cL_law 487 = .ok (.lcmp, 1) := by decide +kernel
theorem dL_law_488 : decode cL_law 488 = .ok (.ifCond .eq 5, 3) := by decide +kernel
theorem dL_law_491 : decode cL_law 491 = .ok (.iconst 0, 1) := by decide +kernel
theorem dL_law_492 : decode cL_law 492 = .ok (.ireturn, 1) := by decide +kernel
theorem dL_law_493 : decode cL_law 493 = .ok (.goto 1110, 3) := by decide +kernel
theorem dL_law_496 : decode cL_law 496 = .ok (.aload_n 1, 1) := by decide +kernel
theorem dL_law_497 : decode cL_law 497 = .ok (.aload_n 0, 1) := by decide +kernel
theorem dL_law_498 : decode cL_law 498 = .ok (.iload 4, 2) := by decide +kernel
theorem dL_law_500 : decode cL_law 500 = .ok (.iconst 1, 1) := by decide +kernel
theorem dL_law_501 : decode cL_law 501 = .ok (.iadd, 1) := by decide +kernel
theorem dL_law_502 : decode cL_law 502 = .ok (.iaload, 1) := by decide +kernel
theorem dL_law_503 : decode cL_law 503 = .ok (.aload_n 0, 1) := by decide +kernel
theorem dL_law_504 : decode cL_law 504 = .ok (.iload 4, 2) := by decide +kernel
theorem dL_law_506 : decode cL_law 506 = .ok (.iconst 2, 1) := by decide +kernel
theorem dL_law_507 : decode cL_law 507 = .ok (.iadd, 1) := by decide +kernel
theorem dL_law_508 : decode cL_law 508 = .ok (.iaload, 1) := by decide +kernel
theorem dL_law_509 : decode cL_law 509 = .ok (.aload_n 3, 1) := by decide +kernel
theorem dL_law_510 : decode cL_law 510 = .ok (.invokestatic 110, 3) := by decide +kernel
theorem dL_law_513 : decode cL_law 513 = .ok (.istore 5, 2) := by decide +kernel
theorem dL_law_515 : decode cL_law 515 = .ok (.aload_n 2, 1) := by decide +kernel
theorem dL_law_516 : decode cL_law 516 = .ok (.aload_n 0, 1) := by decide +kernel
theorem dL_law_517 : decode cL_law 517 = .ok (.iload 4, 2) := by decide +kernel
theorem dL_law_519 : decode cL_law 519 = .ok (.iconst 1, 1) := by decide +kernel
theorem dL_law_520 : decode cL_law 520 = .ok (.iadd, 1) := by decide +kernel
theorem dL_law_521 : decode cL_law 521 = .ok (.iaload, 1) := by decide +kernel
theorem dL_law_522 : decode cL_law 522 = .ok (.aload_n 0, 1) := by decide +kernel
theorem dL_law_523 : decode cL_law 523 = .ok (.iload 4, 2) := by decide +kernel
theorem dL_law_525 : decode cL_law 525 = .ok (.iconst 2, 1) := by decide +kernel
theorem dL_law_526 : decode cL_law 526 = .ok (.iadd, 1) := by decide +kernel
theorem dL_law_527 : decode cL_law 527 = .ok (.iaload, 1) := by decide +kernel
theorem dL_law_528 : decode cL_law 528 = .ok (.invokevirtual 112, 3) := by decide +kernel
theorem dL_law_531 : decode cL_law 531 = .ok (.istore 6, 2) := by decide +kernel
theorem dL_law_533 : decode cL_law 533 = .ok (.aload_n 2, 1) := by decide +kernel
theorem dL_law_534 : decode cL_law 534 = .ok (.invokevirtual 90, 3) := by decide +kernel
theorem dL_law_537 : decode cL_law 537 = .ok (.iload 5, 2) := by decide +kernel
theorem dL_law_539 : decode cL_law 539 = .ok (.if_icmp .eq 5, 3) := by decide +kernel
theorem dL_law_542 : decode cL_law 542 = .ok (.iconst 0, 1) := by decide +kernel
theorem dL_law_543 : decode cL_law 543 = .ok (.ireturn, 1) := by decide +kernel
theorem dL_law_544 : decode cL_law 544 = .ok (.iload 5, 2) := by decide +kernel
theorem dL_law_546 : decode cL_law 546 = .ok (.ifCond .ne 15, 3) := by decide +kernel
theorem dL_law_549 : decode cL_law 549 = .ok (.aload_n 3, 1) := by decide +kernel
theorem dL_law_550 : decode cL_law 550 = .ok (.iconst 0, 1) := by decide +kernel
theorem dL_law_551 : decode cL_law 551 = .ok (.laload, 1) := by decide +kernel
theorem dL_law_552 : decode cL_law 552 = .ok (.iload 6, 2) := by decide +kernel
theorem dL_law_554 : decode cL_law 554 = .ok (.i2l, 1) := by decide +kernel
theorem dL_law_555 : decode cL_law 555 = .ok (.lcmp, 1) := by decide +kernel
theorem dL_law_556 : decode cL_law 556 = .ok (.ifCond .eq 5, 3) := by decide +kernel
theorem dL_law_559 : decode cL_law 559 = .ok (.iconst 0, 1) := by decide +kernel
theorem dL_law_560 : decode cL_law 560 = .ok (.ireturn, 1) := by decide +kernel
theorem dL_law_561 : decode cL_law 561 = .ok (.goto 1042, 3) := by decide +kernel
theorem dL_law_564 : decode cL_law 564 = .ok (.aload_n 1, 1) := by decide +kernel
theorem dL_law_565 : decode cL_law 565 = .ok (.aload_n 0, 1) := by decide +kernel
theorem dL_law_566 : decode cL_law 566 = .ok (.iload 4, 2) := by decide +kernel
theorem dL_law_568 : decode cL_law 568 = .ok (.iconst 1, 1) := by decide +kernel
theorem dL_law_569 : decode cL_law 569 = .ok (.iadd, 1) := by decide +kernel
theorem dL_law_570 : decode cL_law 570 = .ok (.iaload, 1) := by decide +kernel
theorem dL_law_571 : decode cL_law 571 = .ok (.aload_n 0, 1) := by decide +kernel
theorem dL_law_572 : decode cL_law 572 = .ok (.iload 4, 2) := by decide +kernel
theorem dL_law_574 : decode cL_law 574 = .ok (.iconst 2, 1) := by decide +kernel
theorem dL_law_575 : decode cL_law 575 = .ok (.iadd, 1) := by decide +kernel
theorem dL_law_576 : decode cL_law 576 = .ok (.iaload, 1) := by decide +kernel
theorem dL_law_577 : decode cL_law 577 = .ok (.aload_n 3, 1) := by decide +kernel
theorem dL_law_578 : decode cL_law 578 = .ok (.invokestatic 113, 3) := by decide +kernel
theorem dL_law_581 : decode cL_law 581 = .ok (.istore 5, 2) := by decide +kernel
theorem dL_law_583 : decode cL_law 583 = .ok (.aload_n 2, 1) := by decide +kernel
theorem dL_law_584 : decode cL_law 584 = .ok (.aload_n 0, 1) := by decide +kernel
theorem dL_law_585 : decode cL_law 585 = .ok (.iload 4, 2) := by decide +kernel
theorem dL_law_587 : decode cL_law 587 = .ok (.iconst 1, 1) := by decide +kernel
theorem dL_law_588 : decode cL_law 588 = .ok (.iadd, 1) := by decide +kernel
theorem dL_law_589 : decode cL_law 589 = .ok (.iaload, 1) := by decide +kernel
theorem dL_law_590 : decode cL_law 590 = .ok (.aload_n 0, 1) := by decide +kernel
theorem dL_law_591 : decode cL_law 591 = .ok (.iload 4, 2) := by decide +kernel
theorem dL_law_593 : decode cL_law 593 = .ok (.iconst 2, 1) := by decide +kernel
theorem dL_law_594 : decode cL_law 594 = .ok (.iadd, 1) := by decide +kernel
theorem dL_law_595 : decode cL_law 595 = .ok (.iaload, 1) := by decide +kernel
theorem dL_law_596 : decode cL_law 596 = .ok (.invokevirtual 115, 3) := by decide +kernel
theorem dL_law_599 : decode cL_law 599 = .ok (.istore 6, 2) := by decide +kernel
theorem dL_law_601 : decode cL_law 601 = .ok (.aload_n 2, 1) := by decide +kernel
theorem dL_law_602 : decode cL_law 602 = .ok (.invokevirtual 90, 3) := by decide +kernel
theorem dL_law_605 : decode cL_law 605 = .ok (.iload 5, 2) := by decide +kernel
theorem dL_law_607 : decode cL_law 607 = .ok (.if_icmp .eq 5, 3) := by decide +kernel
theorem dL_law_610 : decode cL_law 610 = .ok (.iconst 0, 1) := by decide +kernel
theorem dL_law_611 : decode cL_law 611 = .ok (.ireturn, 1) := by decide +kernel
theorem dL_law_612 : decode cL_law 612 = .ok (.iload 5, 2) := by decide +kernel
theorem dL_law_614 : decode cL_law 614 = .ok (.ifCond .ne 15, 3) := by decide +kernel
theorem dL_law_617 : decode cL_law 617 = .ok (.aload_n 3, 1) := by decide +kernel
theorem dL_law_618 : decode cL_law 618 = .ok (.iconst 0, 1) := by decide +kernel
theorem dL_law_619 : decode cL_law 619 = .ok (.laload, 1) := by decide +kernel
theorem dL_law_620 : decode cL_law 620 = .ok (.iload 6, 2) := by decide +kernel
theorem dL_law_622 : decode cL_law 622 = .ok (.i2l, 1) := by decide +kernel
theorem dL_law_623 : decode cL_law 623 = .ok (.lcmp, 1) := by decide +kernel
theorem dL_law_624 : decode cL_law 624 = .ok (.ifCond .eq 5, 3) := by decide +kernel
theorem dL_law_627 : decode cL_law 627 = .ok (.iconst 0, 1) := by decide +kernel
theorem dL_law_628 : decode cL_law 628 = .ok (.ireturn, 1) := by decide +kernel
theorem dL_law_629 : decode cL_law 629 = .ok (.goto 974, 3) := by decide +kernel
theorem dL_law_632 : decode cL_law 632 = .ok (.aload_n 1, 1) := by decide +kernel
theorem dL_law_633 : decode cL_law 633 = .ok (.aload_n 0, 1) := by decide +kernel
theorem dL_law_634 : decode cL_law 634 = .ok (.iload 4, 2) := by decide +kernel
theorem dL_law_636 : decode cL_law 636 = .ok (.iconst 1, 1) := by decide +kernel
theorem dL_law_637 : decode cL_law 637 = .ok (.iadd, 1) := by decide +kernel
theorem dL_law_638 : decode cL_law 638 = .ok (.iaload, 1) := by decide +kernel
theorem dL_law_639 : decode cL_law 639 = .ok (.aload_n 0, 1) := by decide +kernel
theorem dL_law_640 : decode cL_law 640 = .ok (.iload 4, 2) := by decide +kernel
theorem dL_law_642 : decode cL_law 642 = .ok (.iconst 2, 1) := by decide +kernel
theorem dL_law_643 : decode cL_law 643 = .ok (.iadd, 1) := by decide +kernel
theorem dL_law_644 : decode cL_law 644 = .ok (.iaload, 1) := by decide +kernel
theorem dL_law_645 : decode cL_law 645 = .ok (.aload_n 3, 1) := by decide +kernel
theorem dL_law_646 : decode cL_law 646 = .ok (.invokestatic 116, 3) := by decide +kernel
theorem dL_law_649 : decode cL_law 649 = .ok (.istore 5, 2) := by decide +kernel
theorem dL_law_651 : decode cL_law 651 = .ok (.aload_n 2, 1) := by decide +kernel
theorem dL_law_652 : decode cL_law 652 = .ok (.aload_n 0, 1) := by decide +kernel
theorem dL_law_653 : decode cL_law 653 = .ok (.iload 4, 2) := by decide +kernel
theorem dL_law_655 : decode cL_law 655 = .ok (.iconst 1, 1) := by decide +kernel
theorem dL_law_656 : decode cL_law 656 = .ok (.iadd, 1) := by decide +kernel
theorem dL_law_657 : decode cL_law 657 = .ok (.iaload, 1) := by decide +kernel
theorem dL_law_658 : decode cL_law 658 = .ok (.aload_n 0, 1) := by decide +kernel
theorem dL_law_659 : decode cL_law 659 = .ok (.iload 4, 2) := by decide +kernel
theorem dL_law_661 : decode cL_law 661 = .ok (.iconst 2, 1) := by decide +kernel
theorem dL_law_662 : decode cL_law 662 = .ok (.iadd, 1) := by decide +kernel
theorem dL_law_663 : decode cL_law 663 = .ok (.iaload, 1) := by decide +kernel
theorem dL_law_664 : decode cL_law 664 = .ok (.invokevirtual 118, 3) := by decide +kernel
theorem dL_law_667 : decode cL_law 667 = .ok (.istore 6, 2) := by decide +kernel
theorem dL_law_669 : decode cL_law 669 = .ok (.aload_n 2, 1) := by decide +kernel
theorem dL_law_670 : decode cL_law 670 = .ok (.invokevirtual 90, 3) := by decide +kernel
theorem dL_law_673 : decode cL_law 673 = .ok (.iload 5, 2) := by decide +kernel
theorem dL_law_675 : decode cL_law 675 = .ok (.if_icmp .eq 5, 3) := by decide +kernel
theorem dL_law_678 : decode cL_law 678 = .ok (.iconst 0, 1) := by decide +kernel
theorem dL_law_679 : decode cL_law 679 = .ok (.ireturn, 1) := by decide +kernel
theorem dL_law_680 : decode cL_law 680 = .ok (.iload 5, 2) := by decide +kernel
theorem dL_law_682 : decode cL_law 682 = .ok (.ifCond .ne 15, 3) := by decide +kernel
theorem dL_law_685 : decode cL_law 685 = .ok (.aload_n 3, 1) := by decide +kernel
theorem dL_law_686 : decode cL_law 686 = .ok (.iconst 0, 1) := by decide +kernel
theorem dL_law_687 : decode cL_law 687 = .ok (.laload, 1) := by decide +kernel
theorem dL_law_688 : decode cL_law 688 = .ok (.iload 6, 2) := by decide +kernel
theorem dL_law_690 : decode cL_law 690 = .ok (.i2l, 1) := by decide +kernel
theorem dL_law_691 : decode cL_law 691 = .ok (.lcmp, 1) := by decide +kernel
theorem dL_law_692 : decode cL_law 692 = .ok (.ifCond .eq 5, 3) := by decide +kernel
theorem dL_law_695 : decode cL_law 695 = .ok (.iconst 0, 1) := by decide +kernel
theorem dL_law_696 : decode cL_law 696 = .ok (.ireturn, 1) := by decide +kernel
theorem dL_law_697 : decode cL_law 697 = .ok (.goto 906, 3) := by decide +kernel
theorem dL_law_700 : decode cL_law 700 = .ok (.aload_n 1, 1) := by decide +kernel
theorem dL_law_701 : decode cL_law 701 = .ok (.aload_n 0, 1) := by decide +kernel
theorem dL_law_702 : decode cL_law 702 = .ok (.iload 4, 2) := by decide +kernel
theorem dL_law_704 : decode cL_law 704 = .ok (.iconst 1, 1) := by decide +kernel
theorem dL_law_705 : decode cL_law 705 = .ok (.iadd, 1) := by decide +kernel
theorem dL_law_706 : decode cL_law 706 = .ok (.iaload, 1) := by decide +kernel
theorem dL_law_707 : decode cL_law 707 = .ok (.aload_n 3, 1) := by decide +kernel
theorem dL_law_708 : decode cL_law 708 = .ok (.invokestatic 119, 3) := by decide +kernel
theorem dL_law_711 : decode cL_law 711 = .ok (.istore 5, 2) := by decide +kernel
theorem dL_law_713 : decode cL_law 713 = .ok (.aload_n 2, 1) := by decide +kernel
theorem dL_law_714 : decode cL_law 714 = .ok (.aload_n 0, 1) := by decide +kernel
theorem dL_law_715 : decode cL_law 715 = .ok (.iload 4, 2) := by decide +kernel
theorem dL_law_717 : decode cL_law 717 = .ok (.iconst 1, 1) := by decide +kernel
theorem dL_law_718 : decode cL_law 718 = .ok (.iadd, 1) := by decide +kernel
theorem dL_law_719 : decode cL_law 719 = .ok (.iaload, 1) := by decide +kernel
theorem dL_law_720 : decode cL_law 720 = .ok (.invokevirtual 121, 3) := by decide +kernel
theorem dL_law_723 : decode cL_law 723 = .ok (.istore 6, 2) := by decide +kernel
theorem dL_law_725 : decode cL_law 725 = .ok (.aload_n 2, 1) := by decide +kernel
theorem dL_law_726 : decode cL_law 726 = .ok (.invokevirtual 90, 3) := by decide +kernel
theorem dL_law_729 : decode cL_law 729 = .ok (.iload 5, 2) := by decide +kernel
theorem dL_law_731 : decode cL_law 731 = .ok (.if_icmp .eq 5, 3) := by decide +kernel
theorem dL_law_734 : decode cL_law 734 = .ok (.iconst 0, 1) := by decide +kernel
theorem dL_law_735 : decode cL_law 735 = .ok (.ireturn, 1) := by decide +kernel
theorem dL_law_736 : decode cL_law 736 = .ok (.iload 5, 2) := by decide +kernel
theorem dL_law_738 : decode cL_law 738 = .ok (.ifCond .ne 15, 3) := by decide +kernel
theorem dL_law_741 : decode cL_law 741 = .ok (.aload_n 3, 1) := by decide +kernel
theorem dL_law_742 : decode cL_law 742 = .ok (.iconst 0, 1) := by decide +kernel
theorem dL_law_743 : decode cL_law 743 = .ok (.laload, 1) := by decide +kernel
theorem dL_law_744 : decode cL_law 744 = .ok (.iload 6, 2) := by decide +kernel
theorem dL_law_746 : decode cL_law 746 = .ok (.i2l, 1) := by decide +kernel
theorem dL_law_747 : decode cL_law 747 = .ok (.lcmp, 1) := by decide +kernel
theorem dL_law_748 : decode cL_law 748 = .ok (.ifCond .eq 5, 3) := by decide +kernel
theorem dL_law_751 : decode cL_law 751 = .ok (.iconst 0, 1) := by decide +kernel
theorem dL_law_752 : decode cL_law 752 = .ok (.ireturn, 1) := by decide +kernel
theorem dL_law_753 : decode cL_law 753 = .ok (.goto 850, 3) := by decide +kernel
theorem dL_law_756 : decode cL_law 756 = .ok (.aload_n 1, 1) := by decide +kernel
theorem dL_law_757 : decode cL_law 757 = .ok (.aload_n 0, 1) := by decide +kernel
theorem dL_law_758 : decode cL_law 758 = .ok (.iload 4, 2) := by decide +kernel
theorem dL_law_760 : decode cL_law 760 = .ok (.iconst 1, 1) := by decide +kernel
theorem dL_law_761 : decode cL_law 761 = .ok (.iadd, 1) := by decide +kernel
theorem dL_law_762 : decode cL_law 762 = .ok (.iaload, 1) := by decide +kernel
theorem dL_law_763 : decode cL_law 763 = .ok (.aload_n 0, 1) := by decide +kernel
theorem dL_law_764 : decode cL_law 764 = .ok (.iload 4, 2) := by decide +kernel
theorem dL_law_766 : decode cL_law 766 = .ok (.iconst 2, 1) := by decide +kernel
theorem dL_law_767 : decode cL_law 767 = .ok (.iadd, 1) := by decide +kernel
theorem dL_law_768 : decode cL_law 768 = .ok (.iaload, 1) := by decide +kernel
theorem dL_law_769 : decode cL_law 769 = .ok (.aload_n 0, 1) := by decide +kernel
theorem dL_law_770 : decode cL_law 770 = .ok (.iload 4, 2) := by decide +kernel
theorem dL_law_772 : decode cL_law 772 = .ok (.iconst 3, 1) := by decide +kernel
theorem dL_law_773 : decode cL_law 773 = .ok (.iadd, 1) := by decide +kernel
theorem dL_law_774 : decode cL_law 774 = .ok (.iaload, 1) := by decide +kernel
theorem dL_law_775 : decode cL_law 775 = .ok (.ifCond .eq 7, 3) := by decide +kernel
theorem dL_law_778 : decode cL_law 778 = .ok (.iconst 1, 1) := by decide +kernel
theorem dL_law_779 : decode cL_law 779 = .ok (.goto 4, 3) := by decide +kernel
theorem dL_law_782 : decode cL_law 782 = .ok (.iconst 0, 1) := by decide +kernel
theorem dL_law_783 : decode cL_law 783 = .ok (.aload_n 3, 1) := by decide +kernel
theorem dL_law_784 : decode cL_law 784 = .ok (.invokestatic 122, 3) := by decide +kernel
theorem dL_law_787 : decode cL_law 787 = .ok (.istore 5, 2) := by decide +kernel
theorem dL_law_789 : decode cL_law 789 = .ok (.aload_n 2, 1) := by decide +kernel
theorem dL_law_790 : decode cL_law 790 = .ok (.aload_n 0, 1) := by decide +kernel
theorem dL_law_791 : decode cL_law 791 = .ok (.iload 4, 2) := by decide +kernel
theorem dL_law_793 : decode cL_law 793 = .ok (.iconst 1, 1) := by decide +kernel
theorem dL_law_794 : decode cL_law 794 = .ok (.iadd, 1) := by decide +kernel
theorem dL_law_795 : decode cL_law 795 = .ok (.iaload, 1) := by decide +kernel
theorem dL_law_796 : decode cL_law 796 = .ok (.aload_n 0, 1) := by decide +kernel
theorem dL_law_797 : decode cL_law 797 = .ok (.iload 4, 2) := by decide +kernel
theorem dL_law_799 : decode cL_law 799 = .ok (.iconst 2, 1) := by decide +kernel
theorem dL_law_800 : decode cL_law 800 = .ok (.iadd, 1) := by decide +kernel
theorem dL_law_801 : decode cL_law 801 = .ok (.iaload, 1) := by decide +kernel
theorem dL_law_802 : decode cL_law 802 = .ok (.aload_n 0, 1) := by decide +kernel
theorem dL_law_803 : decode cL_law 803 = .ok (.iload 4, 2) := by decide +kernel
theorem dL_law_805 : decode cL_law 805 = .ok (.iconst 3, 1) := by decide +kernel
theorem dL_law_806 : decode cL_law 806 = .ok (.iadd, 1) := by decide +kernel
theorem dL_law_807 : decode cL_law 807 = .ok (.iaload, 1) := by decide +kernel
theorem dL_law_808 : decode cL_law 808 = .ok (.ifCond .eq 7, 3) := by decide +kernel
theorem dL_law_811 : decode cL_law 811 = .ok (.iconst 1, 1) := by decide +kernel
theorem dL_law_812 : decode cL_law 812 = .ok (.goto 4, 3) := by decide +kernel
theorem dL_law_815 : decode cL_law 815 = .ok (.iconst 0, 1) := by decide +kernel
theorem dL_law_816 : decode cL_law 816 = .ok (.invokevirtual 125, 3) := by decide +kernel
theorem dL_law_819 : decode cL_law 819 = .ok (.lstore 6, 2) := by decide +kernel
theorem dL_law_821 : decode cL_law 821 = .ok (.aload_n 2, 1) := by decide +kernel
theorem dL_law_822 : decode cL_law 822 = .ok (.invokevirtual 90, 3) := by decide +kernel
theorem dL_law_825 : decode cL_law 825 = .ok (.iload 5, 2) := by decide +kernel
theorem dL_law_827 : decode cL_law 827 = .ok (.if_icmp .eq 5, 3) := by decide +kernel
theorem dL_law_830 : decode cL_law 830 = .ok (.iconst 0, 1) := by decide +kernel
theorem dL_law_831 : decode cL_law 831 = .ok (.ireturn, 1) := by decide +kernel
theorem dL_law_832 : decode cL_law 832 = .ok (.iload 5, 2) := by decide +kernel
theorem dL_law_834 : decode cL_law 834 = .ok (.ifCond .ne 14, 3) := by decide +kernel
theorem dL_law_837 : decode cL_law 837 = .ok (.aload_n 3, 1) := by decide +kernel
theorem dL_law_838 : decode cL_law 838 = .ok (.iconst 0, 1) := by decide +kernel
theorem dL_law_839 : decode cL_law 839 = .ok (.laload, 1) := by decide +kernel
theorem dL_law_840 : decode cL_law 840 = .ok (.lload 6, 2) := by decide +kernel
theorem dL_law_842 : decode cL_law 842 = .ok (.lcmp, 1) := by decide +kernel
theorem dL_law_843 : decode cL_law 843 = .ok (.ifCond .eq 5, 3) := by decide +kernel
theorem dL_law_846 : decode cL_law 846 = .ok (.iconst 0, 1) := by decide +kernel
theorem dL_law_847 : decode cL_law 847 = .ok (.ireturn, 1) := by decide +kernel
theorem dL_law_848 : decode cL_law 848 = .ok (.goto 755, 3) := by decide +kernel
theorem dL_law_851 : decode cL_law 851 = .ok (.aload_n 1, 1) := by decide +kernel
theorem dL_law_852 : decode cL_law 852 = .ok (.aload_n 0, 1) := by decide +kernel
theorem dL_law_853 : decode cL_law 853 = .ok (.iload 4, 2) := by decide +kernel
theorem dL_law_855 : decode cL_law 855 = .ok (.iconst 1, 1) := by decide +kernel
theorem dL_law_856 : decode cL_law 856 = .ok (.iadd, 1) := by decide +kernel
theorem dL_law_857 : decode cL_law 857 = .ok (.iaload, 1) := by decide +kernel
theorem dL_law_858 : decode cL_law 858 = .ok (.aload_n 0, 1) := by decide +kernel
theorem dL_law_859 : decode cL_law 859 = .ok (.iload 4, 2) := by decide +kernel
theorem dL_law_861 : decode cL_law 861 = .ok (.iconst 2, 1) := by decide +kernel
theorem dL_law_862 : decode cL_law 862 = .ok (.iadd, 1) := by decide +kernel
theorem dL_law_863 : decode cL_law 863 = .ok (.iaload, 1) := by decide +kernel
theorem dL_law_864 : decode cL_law 864 = .ok (.aload_n 0, 1) := by decide +kernel
theorem dL_law_865 : decode cL_law 865 = .ok (.iload 4, 2) := by decide +kernel
theorem dL_law_867 : decode cL_law 867 = .ok (.iconst 3, 1) := by decide +kernel
theorem dL_law_868 : decode cL_law 868 = .ok (.iadd, 1) := by decide +kernel
theorem dL_law_869 : decode cL_law 869 = .ok (.iaload, 1) := by decide +kernel
theorem dL_law_870 : decode cL_law 870 = .ok (.ifCond .eq 7, 3) := by decide +kernel
theorem dL_law_873 : decode cL_law 873 = .ok (.iconst 1, 1) := by decide +kernel
theorem dL_law_874 : decode cL_law 874 = .ok (.goto 4, 3) := by decide +kernel
theorem dL_law_877 : decode cL_law 877 = .ok (.iconst 0, 1) := by decide +kernel
theorem dL_law_878 : decode cL_law 878 = .ok (.aload_n 3, 1) := by decide +kernel
theorem dL_law_879 : decode cL_law 879 = .ok (.invokestatic 126, 3) := by decide +kernel
theorem dL_law_882 : decode cL_law 882 = .ok (.istore 5, 2) := by decide +kernel
theorem dL_law_884 : decode cL_law 884 = .ok (.aload_n 2, 1) := by decide +kernel
theorem dL_law_885 : decode cL_law 885 = .ok (.aload_n 0, 1) := by decide +kernel
theorem dL_law_886 : decode cL_law 886 = .ok (.iload 4, 2) := by decide +kernel
theorem dL_law_888 : decode cL_law 888 = .ok (.iconst 1, 1) := by decide +kernel
theorem dL_law_889 : decode cL_law 889 = .ok (.iadd, 1) := by decide +kernel
theorem dL_law_890 : decode cL_law 890 = .ok (.iaload, 1) := by decide +kernel
theorem dL_law_891 : decode cL_law 891 = .ok (.aload_n 0, 1) := by decide +kernel
theorem dL_law_892 : decode cL_law 892 = .ok (.iload 4, 2) := by decide +kernel
theorem dL_law_894 : decode cL_law 894 = .ok (.iconst 2, 1) := by decide +kernel
theorem dL_law_895 : decode cL_law 895 = .ok (.iadd, 1) := by decide +kernel
theorem dL_law_896 : decode cL_law 896 = .ok (.iaload, 1) := by decide +kernel
theorem dL_law_897 : decode cL_law 897 = .ok (.aload_n 0, 1) := by decide +kernel
theorem dL_law_898 : decode cL_law 898 = .ok (.iload 4, 2) := by decide +kernel
theorem dL_law_900 : decode cL_law 900 = .ok (.iconst 3, 1) := by decide +kernel
theorem dL_law_901 : decode cL_law 901 = .ok (.iadd, 1) := by decide +kernel
theorem dL_law_902 : decode cL_law 902 = .ok (.iaload, 1) := by decide +kernel
theorem dL_law_903 : decode cL_law 903 = .ok (.ifCond .eq 7, 3) := by decide +kernel
theorem dL_law_906 : decode cL_law 906 = .ok (.iconst 1, 1) := by decide +kernel
theorem dL_law_907 : decode cL_law 907 = .ok (.goto 4, 3) := by decide +kernel
theorem dL_law_910 : decode cL_law 910 = .ok (.iconst 0, 1) := by decide +kernel
theorem dL_law_911 : decode cL_law 911 = .ok (.invokevirtual 128, 3) := by decide +kernel
theorem dL_law_914 : decode cL_law 914 = .ok (.lstore 6, 2) := by decide +kernel
theorem dL_law_916 : decode cL_law 916 = .ok (.aload_n 2, 1) := by decide +kernel
theorem dL_law_917 : decode cL_law 917 = .ok (.invokevirtual 90, 3) := by decide +kernel
theorem dL_law_920 : decode cL_law 920 = .ok (.iload 5, 2) := by decide +kernel
theorem dL_law_922 : decode cL_law 922 = .ok (.if_icmp .eq 5, 3) := by decide +kernel
theorem dL_law_925 : decode cL_law 925 = .ok (.iconst 0, 1) := by decide +kernel
theorem dL_law_926 : decode cL_law 926 = .ok (.ireturn, 1) := by decide +kernel
theorem dL_law_927 : decode cL_law 927 = .ok (.iload 5, 2) := by decide +kernel
theorem dL_law_929 : decode cL_law 929 = .ok (.ifCond .ne 14, 3) := by decide +kernel
theorem dL_law_932 : decode cL_law 932 = .ok (.aload_n 3, 1) := by decide +kernel
theorem dL_law_933 : decode cL_law 933 = .ok (.iconst 0, 1) := by decide +kernel
theorem dL_law_934 : decode cL_law 934 = .ok (.laload, 1) := by decide +kernel
theorem dL_law_935 : decode cL_law 935 = .ok (.lload 6, 2) := by decide +kernel
theorem dL_law_937 : decode cL_law 937 = .ok (.lcmp, 1) := by decide +kernel
theorem dL_law_938 : decode cL_law 938 = .ok (.ifCond .eq 5, 3) := by decide +kernel
theorem dL_law_941 : decode cL_law 941 = .ok (.iconst 0, 1) := by decide +kernel
theorem dL_law_942 : decode cL_law 942 = .ok (.ireturn, 1) := by decide +kernel
theorem dL_law_943 : decode cL_law 943 = .ok (.goto 660, 3) := by decide +kernel
theorem dL_law_946 : decode cL_law 946 = .ok (.aload_n 1, 1) := by decide +kernel
theorem dL_law_947 : decode cL_law 947 = .ok (.aload_n 0, 1) := by decide +kernel
theorem dL_law_948 : decode cL_law 948 = .ok (.iload 4, 2) := by decide +kernel
theorem dL_law_950 : decode cL_law 950 = .ok (.iconst 1, 1) := by decide +kernel
theorem dL_law_951 : decode cL_law 951 = .ok (.iadd, 1) := by decide +kernel
theorem dL_law_952 : decode cL_law 952 = .ok (.iaload, 1) := by decide +kernel
theorem dL_law_953 : decode cL_law 953 = .ok (.aload_n 3, 1) := by decide +kernel
theorem dL_law_954 : decode cL_law 954 = .ok (.invokestatic 129, 3) := by decide +kernel
theorem dL_law_957 : decode cL_law 957 = .ok (.istore 5, 2) := by decide +kernel
theorem dL_law_959 : decode cL_law 959 = .ok (.aload_n 2, 1) := by decide +kernel
theorem dL_law_960 : decode cL_law 960 = .ok (.aload_n 0, 1) := by decide +kernel
theorem dL_law_961 : decode cL_law 961 = .ok (.iload 4, 2) := by decide +kernel
theorem dL_law_963 : decode cL_law 963 = .ok (.iconst 1, 1) := by decide +kernel
theorem dL_law_964 : decode cL_law 964 = .ok (.iadd, 1) := by decide +kernel
theorem dL_law_965 : decode cL_law 965 = .ok (.iaload, 1) := by decide +kernel
theorem dL_law_966 : decode cL_law 966 = .ok (.invokevirtual 131, 3) := by decide +kernel
theorem dL_law_969 : decode cL_law 969 = .ok (.istore 6, 2) := by decide +kernel
theorem dL_law_971 : decode cL_law 971 = .ok (.aload_n 2, 1) := by decide +kernel
theorem dL_law_972 : decode cL_law 972 = .ok (.invokevirtual 90, 3) := by decide +kernel
theorem dL_law_975 : decode cL_law 975 = .ok (.iload 5, 2) := by decide +kernel
theorem dL_law_977 : decode cL_law 977 = .ok (.if_icmp .eq 5, 3) := by decide +kernel
theorem dL_law_980 : decode cL_law 980 = .ok (.iconst 0, 1) := by decide +kernel
theorem dL_law_981 : decode cL_law 981 = .ok (.ireturn, 1) := by decide +kernel
theorem dL_law_982 : decode cL_law 982 = .ok (.iload 5, 2) := by decide +kernel
theorem dL_law_984 : decode cL_law 984 = .ok (.ifCond .ne 15, 3) := by decide +kernel
theorem dL_law_987 : decode cL_law 987 = .ok (.aload_n 3, 1) := by decide +kernel
theorem dL_law_988 : decode cL_law 988 = .ok (.iconst 0, 1) := by decide +kernel
theorem dL_law_989 : decode cL_law 989 = .ok (.laload, 1) := by decide +kernel
theorem dL_law_990 : decode cL_law 990 = .ok (.iload 6, 2) := by decide +kernel
theorem dL_law_992 : decode cL_law 992 = .ok (.i2l, 1) := by decide +kernel
theorem dL_law_993 : decode cL_law 993 = .ok (.lcmp, 1) := by decide +kernel
theorem dL_law_994 : decode cL_law 994 = .ok (.ifCond .eq 5, 3) := by decide +kernel
theorem dL_law_997 : decode cL_law 997 = .ok (.iconst 0, 1) := by decide +kernel
theorem dL_law_998 : decode cL_law 998 = .ok (.ireturn, 1) := by decide +kernel
theorem dL_law_999 : decode cL_law 999 = .ok (.goto 604, 3) := by decide +kernel
theorem dL_law_1002 : decode cL_law 1002 = .ok (.aload_n 1, 1) := by decide +kernel
theorem dL_law_1003 : decode cL_law 1003 = .ok (.aload_n 0, 1) := by decide +kernel
theorem dL_law_1004 : decode cL_law 1004 = .ok (.iload 4, 2) := by decide +kernel
theorem dL_law_1006 : decode cL_law 1006 = .ok (.iconst 1, 1) := by decide +kernel
theorem dL_law_1007 : decode cL_law 1007 = .ok (.iadd, 1) := by decide +kernel
theorem dL_law_1008 : decode cL_law 1008 = .ok (.iaload, 1) := by decide +kernel
theorem dL_law_1009 : decode cL_law 1009 = .ok (.ifCond .eq 7, 3) := by decide +kernel
theorem dL_law_1012 : decode cL_law 1012 = .ok (.iconst 1, 1) := by decide +kernel
theorem dL_law_1013 : decode cL_law 1013 = .ok (.goto 4, 3) := by decide +kernel
theorem dL_law_1016 : decode cL_law 1016 = .ok (.iconst 0, 1) := by decide +kernel
theorem dL_law_1017 : decode cL_law 1017 = .ok (.invokevirtual 132, 3) := by decide +kernel
theorem dL_law_1020 : decode cL_law 1020 = .ok (.aload_n 2, 1) := by decide +kernel
theorem dL_law_1021 : decode cL_law 1021 = .ok (.aload_n 0, 1) := by decide +kernel
theorem dL_law_1022 : decode cL_law 1022 = .ok (.iload 4, 2) := by decide +kernel
theorem dL_law_1024 : decode cL_law 1024 = .ok (.iconst 1, 1) := by decide +kernel
theorem dL_law_1025 : decode cL_law 1025 = .ok (.iadd, 1) := by decide +kernel
theorem dL_law_1026 : decode cL_law 1026 = .ok (.iaload, 1) := by decide +kernel
theorem dL_law_1027 : decode cL_law 1027 = .ok (.ifCond .eq 7, 3) := by decide +kernel
theorem dL_law_1030 : decode cL_law 1030 = .ok (.iconst 1, 1) := by decide +kernel
theorem dL_law_1031 : decode cL_law 1031 = .ok (.goto 4, 3) := by decide +kernel
theorem dL_law_1034 : decode cL_law 1034 = .ok (.iconst 0, 1) := by decide +kernel
theorem dL_law_1035 : decode cL_law 1035 = .ok (.invokevirtual 136, 3) := by decide +kernel
theorem dL_law_1038 : decode cL_law 1038 = .ok (.lcmp, 1) := by decide +kernel
theorem dL_law_1039 : decode cL_law 1039 = .ok (.ifCond .eq 564, 3) := by decide +kernel
theorem dL_law_1042 : decode cL_law 1042 = .ok (.iconst 0, 1) := by decide +kernel
theorem dL_law_1043 : decode cL_law 1043 = .ok (.ireturn, 1) := by decide +kernel
theorem dL_law_1044 : decode cL_law 1044 = .ok (.aload_n 1, 1) := by decide +kernel
theorem dL_law_1045 : decode cL_law 1045 = .ok (.aload_n 0, 1) := by decide +kernel
theorem dL_law_1046 : decode cL_law 1046 = .ok (.iload 4, 2) := by decide +kernel
theorem dL_law_1048 : decode cL_law 1048 = .ok (.iconst 1, 1) := by decide +kernel
theorem dL_law_1049 : decode cL_law 1049 = .ok (.iadd, 1) := by decide +kernel
theorem dL_law_1050 : decode cL_law 1050 = .ok (.iaload, 1) := by decide +kernel
theorem dL_law_1051 : decode cL_law 1051 = .ok (.aload_n 0, 1) := by decide +kernel
theorem dL_law_1052 : decode cL_law 1052 = .ok (.iload 4, 2) := by decide +kernel
theorem dL_law_1054 : decode cL_law 1054 = .ok (.iconst 2, 1) := by decide +kernel
theorem dL_law_1055 : decode cL_law 1055 = .ok (.iadd, 1) := by decide +kernel
theorem dL_law_1056 : decode cL_law 1056 = .ok (.iaload, 1) := by decide +kernel
theorem dL_law_1057 : decode cL_law 1057 = .ok (.aload_n 3, 1) := by decide +kernel
theorem dL_law_1058 : decode cL_law 1058 = .ok (.invokestatic 137, 3) := by decide +kernel
theorem dL_law_1061 : decode cL_law 1061 = .ok (.istore 5, 2) := by decide +kernel
theorem dL_law_1063 : decode cL_law 1063 = .ok (.aload_n 2, 1) := by decide +kernel
theorem dL_law_1064 : decode cL_law 1064 = .ok (.aload_n 0, 1) := by decide +kernel
theorem dL_law_1065 : decode cL_law 1065 = .ok (.iload 4, 2) := by decide +kernel
theorem dL_law_1067 : decode cL_law 1067 = .ok (.iconst 1, 1) := by decide +kernel
theorem dL_law_1068 : decode cL_law 1068 = .ok (.iadd, 1) := by decide +kernel
theorem dL_law_1069 : decode cL_law 1069 = .ok (.iaload, 1) := by decide +kernel
theorem dL_law_1070 : decode cL_law 1070 = .ok (.aload_n 0, 1) := by decide +kernel
theorem dL_law_1071 : decode cL_law 1071 = .ok (.iload 4, 2) := by decide +kernel
theorem dL_law_1073 : decode cL_law 1073 = .ok (.iconst 2, 1) := by decide +kernel
theorem dL_law_1074 : decode cL_law 1074 = .ok (.iadd, 1) := by decide +kernel
theorem dL_law_1075 : decode cL_law 1075 = .ok (.iaload, 1) := by decide +kernel
theorem dL_law_1076 : decode cL_law 1076 = .ok (.invokevirtual 139, 3) := by decide +kernel
theorem dL_law_1079 : decode cL_law 1079 = .ok (.istore 6, 2) := by decide +kernel
theorem dL_law_1081 : decode cL_law 1081 = .ok (.aload_n 2, 1) := by decide +kernel
theorem dL_law_1082 : decode cL_law 1082 = .ok (.invokevirtual 90, 3) := by decide +kernel
theorem dL_law_1085 : decode cL_law 1085 = .ok (.iload 5, 2) := by decide +kernel
theorem dL_law_1087 : decode cL_law 1087 = .ok (.if_icmp .eq 5, 3) := by decide +kernel
theorem dL_law_1090 : decode cL_law 1090 = .ok (.iconst 0, 1) := by decide +kernel
theorem dL_law_1091 : decode cL_law 1091 = .ok (.ireturn, 1) := by decide +kernel
theorem dL_law_1092 : decode cL_law 1092 = .ok (.iload 5, 2) := by decide +kernel
theorem dL_law_1094 : decode cL_law 1094 = .ok (.ifCond .ne 15, 3) := by decide +kernel
theorem dL_law_1097 : decode cL_law 1097 = .ok (.aload_n 3, 1) := by decide +kernel
theorem dL_law_1098 : decode cL_law 1098 = .ok (.iconst 0, 1) := by decide +kernel
theorem dL_law_1099 : decode cL_law 1099 = .ok (.laload, 1) := by decide +kernel
theorem dL_law_1100 : decode cL_law 1100 = .ok (.iload 6, 2) := by decide +kernel
theorem dL_law_1102 : decode cL_law 1102 = .ok (.i2l, 1) := by decide +kernel
theorem dL_law_1103 : decode cL_law 1103 = .ok (.lcmp, 1) := by decide +kernel
theorem dL_law_1104 : decode cL_law 1104 = .ok (.ifCond .eq 5, 3) := by decide +kernel
theorem dL_law_1107 : decode cL_law 1107 = .ok (.iconst 0, 1) := by decide +kernel
theorem dL_law_1108 : decode cL_law 1108 = .ok (.ireturn, 1) := by decide +kernel
theorem dL_law_1109 : decode cL_law 1109 = .ok (.goto 494, 3) := by decide +kernel
theorem dL_law_1112 : decode cL_law 1112 = .ok (.aload_n 1, 1) := by decide +kernel
theorem dL_law_1113 : decode cL_law 1113 = .ok (.invokevirtual 140, 3) := by decide +kernel
theorem dL_law_1116 : decode cL_law 1116 = .ok (.aload_n 2, 1) := by decide +kernel
theorem dL_law_1117 : decode cL_law 1117 = .ok (.invokevirtual 143, 3) := by decide +kernel
theorem dL_law_1120 : decode cL_law 1120 = .ok (.if_icmp .eq 483, 3) := by decide +kernel
theorem dL_law_1123 : decode cL_law 1123 = .ok (.iconst 0, 1) := by decide +kernel
theorem dL_law_1124 : decode cL_law 1124 = .ok (.ireturn, 1) := by decide +kernel
theorem dL_law_1125 : decode cL_law 1125 = .ok (.aload_n 1, 1) := by decide +kernel
theorem dL_law_1126 : decode cL_law 1126 = .ok (.invokevirtual 144, 3) := by decide +kernel
theorem dL_law_1129 : decode cL_law 1129 = .ok (.aload_n 2, 1) := by decide +kernel
theorem dL_law_1130 : decode cL_law 1130 = .ok (.invokevirtual 147, 3) := by decide +kernel
theorem dL_law_1133 : decode cL_law 1133 = .ok (.if_icmp .eq 470, 3) := by decide +kernel
theorem dL_law_1136 : decode cL_law 1136 = .ok (.iconst 0, 1) := by decide +kernel
theorem dL_law_1137 : decode cL_law 1137 = .ok (.ireturn, 1) := by decide +kernel
theorem dL_law_1138 : decode cL_law 1138 = .ok (.aload_n 1, 1) := by decide +kernel
theorem dL_law_1139 : decode cL_law 1139 = .ok (.aload_n 0, 1) := by decide +kernel
theorem dL_law_1140 : decode cL_law 1140 = .ok (.iload 4, 2) := by decide +kernel
theorem dL_law_1142 : decode cL_law 1142 = .ok (.iconst 1, 1) := by decide +kernel
theorem dL_law_1143 : decode cL_law 1143 = .ok (.iadd, 1) := by decide +kernel
theorem dL_law_1144 : decode cL_law 1144 = .ok (.iaload, 1) := by decide +kernel
theorem dL_law_1145 : decode cL_law 1145 = .ok (.aload_n 0, 1) := by decide +kernel
theorem dL_law_1146 : decode cL_law 1146 = .ok (.iload 4, 2) := by decide +kernel
theorem dL_law_1148 : decode cL_law 1148 = .ok (.iconst 2, 1) := by decide +kernel
theorem dL_law_1149 : decode cL_law 1149 = .ok (.iadd, 1) := by decide +kernel
theorem dL_law_1150 : decode cL_law 1150 = .ok (.iaload, 1) := by decide +kernel
theorem dL_law_1151 : decode cL_law 1151 = .ok (.aload_n 3, 1) := by decide +kernel
theorem dL_law_1152 : decode cL_law 1152 = .ok (.invokestatic 148, 3) := by decide +kernel
theorem dL_law_1155 : decode cL_law 1155 = .ok (.istore 5, 2) := by decide +kernel
theorem dL_law_1157 : decode cL_law 1157 = .ok (.aload_n 2, 1) := by decide +kernel
theorem dL_law_1158 : decode cL_law 1158 = .ok (.aload_n 0, 1) := by decide +kernel
theorem dL_law_1159 : decode cL_law 1159 = .ok (.iload 4, 2) := by decide +kernel
theorem dL_law_1161 : decode cL_law 1161 = .ok (.iconst 1, 1) := by decide +kernel
theorem dL_law_1162 : decode cL_law 1162 = .ok (.iadd, 1) := by decide +kernel
theorem dL_law_1163 : decode cL_law 1163 = .ok (.iaload, 1) := by decide +kernel
theorem dL_law_1164 : decode cL_law 1164 = .ok (.aload_n 0, 1) := by decide +kernel
theorem dL_law_1165 : decode cL_law 1165 = .ok (.iload 4, 2) := by decide +kernel
theorem dL_law_1167 : decode cL_law 1167 = .ok (.iconst 2, 1) := by decide +kernel
theorem dL_law_1168 : decode cL_law 1168 = .ok (.iadd, 1) := by decide +kernel
theorem dL_law_1169 : decode cL_law 1169 = .ok (.iaload, 1) := by decide +kernel
theorem dL_law_1170 : decode cL_law 1170 = .ok (.invokevirtual 150, 3) := by decide +kernel
theorem dL_law_1173 : decode cL_law 1173 = .ok (.istore 6, 2) := by decide +kernel
theorem dL_law_1175 : decode cL_law 1175 = .ok (.aload_n 2, 1) := by decide +kernel
theorem dL_law_1176 : decode cL_law 1176 = .ok (.invokevirtual 90, 3) := by decide +kernel
theorem dL_law_1179 : decode cL_law 1179 = .ok (.iload 5, 2) := by decide +kernel
theorem dL_law_1181 : decode cL_law 1181 = .ok (.if_icmp .eq 5, 3) := by decide +kernel
theorem dL_law_1184 : decode cL_law 1184 = .ok (.iconst 0, 1) := by decide +kernel
theorem dL_law_1185 : decode cL_law 1185 = .ok (.ireturn, 1) := by decide +kernel
theorem dL_law_1186 : decode cL_law 1186 = .ok (.iload 5, 2) := by decide +kernel
theorem dL_law_1188 : decode cL_law 1188 = .ok (.ifCond .ne 15, 3) := by decide +kernel
theorem dL_law_1191 : decode cL_law 1191 = .ok (.aload_n 3, 1) := by decide +kernel
theorem dL_law_1192 : decode cL_law 1192 = .ok (.iconst 0, 1) := by decide +kernel
theorem dL_law_1193 : decode cL_law 1193 = .ok (.laload, 1) := by decide +kernel
theorem dL_law_1194 : decode cL_law 1194 = .ok (.iload 6, 2) := by decide +kernel
theorem dL_law_1196 : decode cL_law 1196 = .ok (.i2l, 1) := by decide +kernel
theorem dL_law_1197 : decode cL_law 1197 = .ok (.lcmp, 1) := by decide +kernel
theorem dL_law_1198 : decode cL_law 1198 = .ok (.ifCond .eq 5, 3) := by decide +kernel
theorem dL_law_1201 : decode cL_law 1201 = .ok (.iconst 0, 1) := by decide +kernel
theorem dL_law_1202 : decode cL_law 1202 = .ok (.ireturn, 1) := by decide +kernel
theorem dL_law_1203 : decode cL_law 1203 = .ok (.goto 400, 3) := by decide +kernel
theorem dL_law_1206 : decode cL_law 1206 = .ok (.aload_n 1, 1) := by decide +kernel
theorem dL_law_1207 : decode cL_law 1207 = .ok (.aload_n 0, 1) := by decide +kernel
theorem dL_law_1208 : decode cL_law 1208 = .ok (.iload 4, 2) := by decide +kernel
theorem dL_law_1210 : decode cL_law 1210 = .ok (.iconst 1, 1) := by decide +kernel
theorem dL_law_1211 : decode cL_law 1211 = .ok (.iadd, 1) := by decide +kernel
theorem dL_law_1212 : decode cL_law 1212 = .ok (.iaload, 1) := by decide +kernel
theorem dL_law_1213 : decode cL_law 1213 = .ok (.aload_n 3, 1) := by decide +kernel
theorem dL_law_1214 : decode cL_law 1214 = .ok (.invokestatic 151, 3) := by decide +kernel
theorem dL_law_1217 : decode cL_law 1217 = .ok (.istore 5, 2) := by decide +kernel
theorem dL_law_1219 : decode cL_law 1219 = .ok (.aload_n 2, 1) := by decide +kernel
theorem dL_law_1220 : decode cL_law 1220 = .ok (.aload_n 0, 1) := by decide +kernel
theorem dL_law_1221 : decode cL_law 1221 = .ok (.iload 4, 2) := by decide +kernel
theorem dL_law_1223 : decode cL_law 1223 = .ok (.iconst 1, 1) := by decide +kernel
theorem dL_law_1224 : decode cL_law 1224 = .ok (.iadd, 1) := by decide +kernel
theorem dL_law_1225 : decode cL_law 1225 = .ok (.iaload, 1) := by decide +kernel
theorem dL_law_1226 : decode cL_law 1226 = .ok (.invokevirtual 153, 3) := by decide +kernel
theorem dL_law_1229 : decode cL_law 1229 = .ok (.istore 6, 2) := by decide +kernel
theorem dL_law_1231 : decode cL_law 1231 = .ok (.aload_n 2, 1) := by decide +kernel
theorem dL_law_1232 : decode cL_law 1232 = .ok (.invokevirtual 90, 3) := by decide +kernel
theorem dL_law_1235 : decode cL_law 1235 = .ok (.iload 5, 2) := by decide +kernel
theorem dL_law_1237 : decode cL_law 1237 = .ok (.if_icmp .eq 5, 3) := by decide +kernel
theorem dL_law_1240 : decode cL_law 1240 = .ok (.iconst 0, 1) := by decide +kernel
theorem dL_law_1241 : decode cL_law 1241 = .ok (.ireturn, 1) := by decide +kernel
theorem dL_law_1242 : decode cL_law 1242 = .ok (.iload 5, 2) := by decide +kernel
theorem dL_law_1244 : decode cL_law 1244 = .ok (.ifCond .ne 15, 3) := by decide +kernel
theorem dL_law_1247 : decode cL_law 1247 = .ok (.aload_n 3, 1) := by decide +kernel
theorem dL_law_1248 : decode cL_law 1248 = .ok (.iconst 0, 1) := by decide +kernel
theorem dL_law_1249 : decode cL_law 1249 = .ok (.laload, 1) := by decide +kernel
theorem dL_law_1250 : decode cL_law 1250 = .ok (.iload 6, 2) := by decide +kernel
theorem dL_law_1252 : decode cL_law 1252 = .ok (.i2l, 1) := by decide +kernel
theorem dL_law_1253 : decode cL_law 1253 = .ok (.lcmp, 1) := by decide +kernel
theorem dL_law_1254 : decode cL_law 1254 = .ok (.ifCond .eq 5, 3) := by decide +kernel
theorem dL_law_1257 : decode cL_law 1257 = .ok (.iconst 0, 1) := by decide +kernel
theorem dL_law_1258 : decode cL_law 1258 = .ok (.ireturn, 1) := by decide +kernel
theorem dL_law_1259 : decode cL_law 1259 = .ok (.goto 344, 3) := by decide +kernel
theorem dL_law_1262 : decode cL_law 1262 = .ok (.aload_n 1, 1) := by decide +kernel
theorem dL_law_1263 : decode cL_law 1263 = .ok (.aload_n 0, 1) := by decide +kernel
theorem dL_law_1264 : decode cL_law 1264 = .ok (.iload 4, 2) := by decide +kernel
theorem dL_law_1266 : decode cL_law 1266 = .ok (.iconst 1, 1) := by decide +kernel
theorem dL_law_1267 : decode cL_law 1267 = .ok (.iadd, 1) := by decide +kernel
theorem dL_law_1268 : decode cL_law 1268 = .ok (.iaload, 1) := by decide +kernel
theorem dL_law_1269 : decode cL_law 1269 = .ok (.aload_n 0, 1) := by decide +kernel
theorem dL_law_1270 : decode cL_law 1270 = .ok (.iload 4, 2) := by decide +kernel
theorem dL_law_1272 : decode cL_law 1272 = .ok (.iconst 2, 1) := by decide +kernel
theorem dL_law_1273 : decode cL_law 1273 = .ok (.iadd, 1) := by decide +kernel
theorem dL_law_1274 : decode cL_law 1274 = .ok (.iaload, 1) := by decide +kernel
theorem dL_law_1275 : decode cL_law 1275 = .ok (.aload_n 0, 1) := by decide +kernel
theorem dL_law_1276 : decode cL_law 1276 = .ok (.iload 4, 2) := by decide +kernel
theorem dL_law_1278 : decode cL_law 1278 = .ok (.iconst 3, 1) := by decide +kernel
theorem dL_law_1279 : decode cL_law 1279 = .ok (.iadd, 1) := by decide +kernel
theorem dL_law_1280 : decode cL_law 1280 = .ok (.iaload, 1) := by decide +kernel
theorem dL_law_1281 : decode cL_law 1281 = .ok (.aload_n 3, 1) := by decide +kernel
theorem dL_law_1282 : decode cL_law 1282 = .ok (.invokestatic 154, 3) := by decide +kernel
theorem dL_law_1285 : decode cL_law 1285 = .ok (.istore 5, 2) := by decide +kernel
theorem dL_law_1287 : decode cL_law 1287 = .ok (.aload_n 2, 1) := by decide +kernel
theorem dL_law_1288 : decode cL_law 1288 = .ok (.aload_n 0, 1) := by decide +kernel
theorem dL_law_1289 : decode cL_law 1289 = .ok (.iload 4, 2) := by decide +kernel
theorem dL_law_1291 : decode cL_law 1291 = .ok (.iconst 1, 1) := by decide +kernel
theorem dL_law_1292 : decode cL_law 1292 = .ok (.iadd, 1) := by decide +kernel
theorem dL_law_1293 : decode cL_law 1293 = .ok (.iaload, 1) := by decide +kernel
theorem dL_law_1294 : decode cL_law 1294 = .ok (.aload_n 0, 1) := by decide +kernel
theorem dL_law_1295 : decode cL_law 1295 = .ok (.iload 4, 2) := by decide +kernel
theorem dL_law_1297 : decode cL_law 1297 = .ok (.iconst 2, 1) := by decide +kernel
theorem dL_law_1298 : decode cL_law 1298 = .ok (.iadd, 1) := by decide +kernel
theorem dL_law_1299 : decode cL_law 1299 = .ok (.iaload, 1) := by decide +kernel
theorem dL_law_1300 : decode cL_law 1300 = .ok (.aload_n 0, 1) := by decide +kernel
theorem dL_law_1301 : decode cL_law 1301 = .ok (.iload 4, 2) := by decide +kernel
theorem dL_law_1303 : decode cL_law 1303 = .ok (.iconst 3, 1) := by decide +kernel
theorem dL_law_1304 : decode cL_law 1304 = .ok (.iadd, 1) := by decide +kernel
theorem dL_law_1305 : decode cL_law 1305 = .ok (.iaload, 1) := by decide +kernel
theorem dL_law_1306 : decode cL_law 1306 = .ok (.invokevirtual 157, 3) := by decide +kernel
theorem dL_law_1309 : decode cL_law 1309 = .ok (.istore 6, 2) := by decide +kernel
theorem dL_law_1311 : decode cL_law 1311 = .ok (.aload_n 2, 1) := by decide +kernel
theorem dL_law_1312 : decode cL_law 1312 = .ok (.invokevirtual 90, 3) := by decide +kernel
theorem dL_law_1315 : decode cL_law 1315 = .ok (.iload 5, 2) := by decide +kernel
theorem dL_law_1317 : decode cL_law 1317 = .ok (.if_icmp .eq 5, 3) := by decide +kernel
theorem dL_law_1320 : decode cL_law 1320 = .ok (.iconst 0, 1) := by decide +kernel
theorem dL_law_1321 : decode cL_law 1321 = .ok (.ireturn, 1) := by decide +kernel
theorem dL_law_1322 : decode cL_law 1322 = .ok (.iload 5, 2) := by decide +kernel
theorem dL_law_1324 : decode cL_law 1324 = .ok (.ifCond .ne 15, 3) := by decide +kernel
theorem dL_law_1327 : decode cL_law 1327 = .ok (.aload_n 3, 1) := by decide +kernel
theorem dL_law_1328 : decode cL_law 1328 = .ok (.iconst 0, 1) := by decide +kernel
theorem dL_law_1329 : decode cL_law 1329 = .ok (.laload, 1) := by decide +kernel
theorem dL_law_1330 : decode cL_law 1330 = .ok (.iload 6, 2) := by decide +kernel
theorem dL_law_1332 : decode cL_law 1332 = .ok (.i2l, 1) := by decide +kernel
theorem dL_law_1333 : decode cL_law 1333 = .ok (.lcmp, 1) := by decide +kernel
theorem dL_law_1334 : decode cL_law 1334 = .ok (.ifCond .eq 5, 3) := by decide +kernel
theorem dL_law_1337 : decode cL_law 1337 = .ok (.iconst 0, 1) := by decide +kernel
theorem dL_law_1338 : decode cL_law 1338 = .ok (.ireturn, 1) := by decide +kernel
theorem dL_law_1339 : decode cL_law 1339 = .ok (.goto 264, 3) := by decide +kernel
theorem dL_law_1342 : decode cL_law 1342 = .ok (.aload_n 1, 1) := by decide +kernel
theorem dL_law_1343 : decode cL_law 1343 = .ok (.aload_n 0, 1) := by decide +kernel
theorem dL_law_1344 : decode cL_law 1344 = .ok (.iload 4, 2) := by decide +kernel
theorem dL_law_1346 : decode cL_law 1346 = .ok (.iconst 1, 1) := by decide +kernel
theorem dL_law_1347 : decode cL_law 1347 = .ok (.iadd, 1) := by decide +kernel
theorem dL_law_1348 : decode cL_law 1348 = .ok (.iaload, 1) := by decide +kernel
theorem dL_law_1349 : decode cL_law 1349 = .ok (.aload_n 0, 1) := by decide +kernel
theorem dL_law_1350 : decode cL_law 1350 = .ok (.iload 4, 2) := by decide +kernel
theorem dL_law_1352 : decode cL_law 1352 = .ok (.iconst 2, 1) := by decide +kernel
theorem dL_law_1353 : decode cL_law 1353 = .ok (.iadd, 1) := by decide +kernel
theorem dL_law_1354 : decode cL_law 1354 = .ok (.iaload, 1) := by decide +kernel
theorem dL_law_1355 : decode cL_law 1355 = .ok (.aload_n 0, 1) := by decide +kernel
theorem dL_law_1356 : decode cL_law 1356 = .ok (.iload 4, 2) := by decide +kernel
theorem dL_law_1358 : decode cL_law 1358 = .ok (.iconst 3, 1) := by decide +kernel
theorem dL_law_1359 : decode cL_law 1359 = .ok (.iadd, 1) := by decide +kernel
theorem dL_law_1360 : decode cL_law 1360 = .ok (.iaload, 1) := by decide +kernel
theorem dL_law_1361 : decode cL_law 1361 = .ok (.aload_n 3, 1) := by decide +kernel
theorem dL_law_1362 : decode cL_law 1362 = .ok (.invokestatic 158, 3) := by decide +kernel
theorem dL_law_1365 : decode cL_law 1365 = .ok (.istore 5, 2) := by decide +kernel
theorem dL_law_1367 : decode cL_law 1367 = .ok (.aload_n 2, 1) := by decide +kernel
theorem dL_law_1368 : decode cL_law 1368 = .ok (.aload_n 0, 1) := by decide +kernel
theorem dL_law_1369 : decode cL_law 1369 = .ok (.iload 4, 2) := by decide +kernel
theorem dL_law_1371 : decode cL_law 1371 = .ok (.iconst 1, 1) := by decide +kernel
theorem dL_law_1372 : decode cL_law 1372 = .ok (.iadd, 1) := by decide +kernel
theorem dL_law_1373 : decode cL_law 1373 = .ok (.iaload, 1) := by decide +kernel
theorem dL_law_1374 : decode cL_law 1374 = .ok (.aload_n 0, 1) := by decide +kernel
theorem dL_law_1375 : decode cL_law 1375 = .ok (.iload 4, 2) := by decide +kernel
theorem dL_law_1377 : decode cL_law 1377 = .ok (.iconst 2, 1) := by decide +kernel
theorem dL_law_1378 : decode cL_law 1378 = .ok (.iadd, 1) := by decide +kernel
theorem dL_law_1379 : decode cL_law 1379 = .ok (.iaload, 1) := by decide +kernel
theorem dL_law_1380 : decode cL_law 1380 = .ok (.aload_n 0, 1) := by decide +kernel
theorem dL_law_1381 : decode cL_law 1381 = .ok (.iload 4, 2) := by decide +kernel
theorem dL_law_1383 : decode cL_law 1383 = .ok (.iconst 3, 1) := by decide +kernel
theorem dL_law_1384 : decode cL_law 1384 = .ok (.iadd, 1) := by decide +kernel
theorem dL_law_1385 : decode cL_law 1385 = .ok (.iaload, 1) := by decide +kernel
theorem dL_law_1386 : decode cL_law 1386 = .ok (.invokevirtual 160, 3) := by decide +kernel
theorem dL_law_1389 : decode cL_law 1389 = .ok (.istore 6, 2) := by decide +kernel
theorem dL_law_1391 : decode cL_law 1391 = .ok (.aload_n 2, 1) := by decide +kernel
theorem dL_law_1392 : decode cL_law 1392 = .ok (.invokevirtual 90, 3) := by decide +kernel
theorem dL_law_1395 : decode cL_law 1395 = .ok (.iload 5, 2) := by decide +kernel
theorem dL_law_1397 : decode cL_law 1397 = .ok (.if_icmp .eq 5, 3) := by decide +kernel
theorem dL_law_1400 : decode cL_law 1400 = .ok (.iconst 0, 1) := by decide +kernel
theorem dL_law_1401 : decode cL_law 1401 = .ok (.ireturn, 1) := by decide +kernel
theorem dL_law_1402 : decode cL_law 1402 = .ok (.iload 5, 2) := by decide +kernel
theorem dL_law_1404 : decode cL_law 1404 = .ok (.ifCond .ne 15, 3) := by decide +kernel
theorem dL_law_1407 : decode cL_law 1407 = .ok (.aload_n 3, 1) := by decide +kernel
theorem dL_law_1408 : decode cL_law 1408 = .ok (.iconst 0, 1) := by decide +kernel
theorem dL_law_1409 : decode cL_law 1409 = .ok (.laload, 1) := by decide +kernel
theorem dL_law_1410 : decode cL_law 1410 = .ok (.iload 6, 2) := by decide +kernel
theorem dL_law_1412 : decode cL_law 1412 = .ok (.i2l, 1) := by decide +kernel
theorem dL_law_1413 : decode cL_law 1413 = .ok (.lcmp, 1) := by decide +kernel
theorem dL_law_1414 : decode cL_law 1414 = .ok (.ifCond .eq 5, 3) := by decide +kernel
theorem dL_law_1417 : decode cL_law 1417 = .ok (.iconst 0, 1) := by decide +kernel
theorem dL_law_1418 : decode cL_law 1418 = .ok (.ireturn, 1) := by decide +kernel
theorem dL_law_1419 : decode cL_law 1419 = .ok (.goto 184, 3) := by decide +kernel
theorem dL_law_1422 : decode cL_law 1422 = .ok (.aload_n 1, 1) := by decide +kernel
theorem dL_law_1423 : decode cL_law 1423 = .ok (.invokevirtual 161, 3) := by decide +kernel
theorem dL_law_1426 : decode cL_law 1426 = .ok (.dstore 5, 2) := by decide +kernel
theorem dL_law_1428 : decode cL_law 1428 = .ok (.aload_n 2, 1) := by decide +kernel
theorem dL_law_1429 : decode cL_law 1429 = .ok (.invokevirtual 165, 3) := by decide +kernel
theorem dL_law_1432 : decode cL_law 1432 = .ok (.dstore 7, 2) := by decide +kernel
theorem dL_law_1434 : decode cL_law 1434 = .ok (.dload 5, 2) := by decide +kernel
theorem dL_law_1436 : decode cL_law 1436 = .ok (.dload 7, 2) := by decide +kernel
theorem dL_law_1438 : decode cL_law 1438 = .ok (.dcmp .l, 1) := by decide +kernel
theorem dL_law_1439 : decode cL_law 1439 = .ok (.ifCond .eq 21, 3) := by decide +kernel
theorem dL_law_1442 : decode cL_law 1442 = .ok (.dload 5, 2) := by decide +kernel
theorem dL_law_1444 : decode cL_law 1444 = .ok (.dload 5, 2) := by decide +kernel
theorem dL_law_1446 : decode cL_law 1446 = .ok (.dcmp .l, 1) := by decide +kernel
theorem dL_law_1447 : decode cL_law 1447 = .ok (.ifCond .eq 11, 3) := by decide +kernel
theorem dL_law_1450 : decode cL_law 1450 = .ok (.dload 7, 2) := by decide +kernel
theorem dL_law_1452 : decode cL_law 1452 = .ok (.dload 7, 2) := by decide +kernel
theorem dL_law_1454 : decode cL_law 1454 = .ok (.dcmp .l, 1) := by decide +kernel
theorem dL_law_1455 : decode cL_law 1455 = .ok (.ifCond .ne 5, 3) := by decide +kernel
theorem dL_law_1458 : decode cL_law 1458 = .ok (.iconst 0, 1) := by decide +kernel
theorem dL_law_1459 : decode cL_law 1459 = .ok (.ireturn, 1) := by decide +kernel
theorem dL_law_1460 : decode cL_law 1460 = .ok (.goto 143, 3) := by decide +kernel
theorem dL_law_1463 : decode cL_law 1463 = .ok (.aload_n 1, 1) := by decide +kernel
theorem dL_law_1464 : decode cL_law 1464 = .ok (.aload_n 0, 1) := by decide +kernel
theorem dL_law_1465 : decode cL_law 1465 = .ok (.iload 4, 2) := by decide +kernel
theorem dL_law_1467 : decode cL_law 1467 = .ok (.iconst 1, 1) := by decide +kernel
theorem dL_law_1468 : decode cL_law 1468 = .ok (.iadd, 1) := by decide +kernel
theorem dL_law_1469 : decode cL_law 1469 = .ok (.iaload, 1) := by decide +kernel
theorem dL_law_1470 : decode cL_law 1470 = .ok (.aload_n 3, 1) := by decide +kernel
theorem dL_law_1471 : decode cL_law 1471 = .ok (.invokestatic 166, 3) := by decide +kernel
theorem dL_law_1474 : decode cL_law 1474 = .ok (.istore 5, 2) := by decide +kernel
theorem dL_law_1476 : decode cL_law 1476 = .ok (.aload_n 2, 1) := by decide +kernel
theorem dL_law_1477 : decode cL_law 1477 = .ok (.aload_n 0, 1) := by decide +kernel
theorem dL_law_1478 : decode cL_law 1478 = .ok (.iload 4, 2) := by decide +kernel
theorem dL_law_1480 : decode cL_law 1480 = .ok (.iconst 1, 1) := by decide +kernel
theorem dL_law_1481 : decode cL_law 1481 = .ok (.iadd, 1) := by decide +kernel
theorem dL_law_1482 : decode cL_law 1482 = .ok (.iaload, 1) := by decide +kernel
theorem dL_law_1483 : decode cL_law 1483 = .ok (.invokevirtual 168, 3) := by decide +kernel
theorem dL_law_1486 : decode cL_law 1486 = .ok (.istore 6, 2) := by decide +kernel
theorem dL_law_1488 : decode cL_law 1488 = .ok (.aload_n 2, 1) := by decide +kernel
theorem dL_law_1489 : decode cL_law 1489 = .ok (.invokevirtual 90, 3) := by decide +kernel
theorem dL_law_1492 : decode cL_law 1492 = .ok (.iload 5, 2) := by decide +kernel
theorem dL_law_1494 : decode cL_law 1494 = .ok (.if_icmp .eq 5, 3) := by decide +kernel
theorem dL_law_1497 : decode cL_law 1497 = .ok (.iconst 0, 1) := by decide +kernel
theorem dL_law_1498 : decode cL_law 1498 = .ok (.ireturn, 1) := by decide +kernel
theorem dL_law_1499 : decode cL_law 1499 = .ok (.iload 5, 2) := by decide +kernel
theorem dL_law_1501 : decode cL_law 1501 = .ok (.ifCond .ne 15, 3) := by decide +kernel
theorem dL_law_1504 : decode cL_law 1504 = .ok (.aload_n 3, 1) := by decide +kernel
theorem dL_law_1505 : decode cL_law 1505 = .ok (.iconst 0, 1) := by decide +kernel
theorem dL_law_1506 : decode cL_law 1506 = .ok (.laload, 1) := by decide +kernel
theorem dL_law_1507 : decode cL_law 1507 = .ok (.iload 6, 2) := by decide +kernel
theorem dL_law_1509 : decode cL_law 1509 = .ok (.i2l, 1) := by decide +kernel
theorem dL_law_1510 : decode cL_law 1510 = .ok (.lcmp, 1) := by decide +kernel
theorem dL_law_1511 : decode cL_law 1511 = .ok (.ifCond .eq 5, 3) := by decide +kernel
theorem dL_law_1514 : decode cL_law 1514 = .ok (.iconst 0, 1) := by decide +kernel
theorem dL_law_1515 : decode cL_law 1515 = .ok (.ireturn, 1) := by decide +kernel
theorem dL_law_1516 : decode cL_law 1516 = .ok (.goto 87, 3) := by decide +kernel
theorem dL_law_1519 : decode cL_law 1519 = .ok (.aload_n 1, 1) := by decide +kernel
theorem dL_law_1520 : decode cL_law 1520 = .ok (.invokevirtual 169, 3) := by decide +kernel
theorem dL_law_1523 : decode cL_law 1523 = .ok (.aload_n 2, 1) := by decide +kernel
theorem dL_law_1524 : decode cL_law 1524 = .ok (.invokevirtual 172, 3) := by decide +kernel
theorem dL_law_1527 : decode cL_law 1527 = .ok (.if_icmp .eq 76, 3) := by decide +kernel
theorem dL_law_1530 : decode cL_law 1530 = .ok (.iconst 0, 1) := by decide +kernel
theorem dL_law_1531 : decode cL_law 1531 = .ok (.ireturn, 1) := by decide +kernel
theorem dL_law_1532 : decode cL_law 1532 = .ok (.aload_n 1, 1) := by decide +kernel
theorem dL_law_1533 : decode cL_law 1533 = .ok (.invokevirtual 173, 3) := by decide +kernel
theorem dL_law_1536 : decode cL_law 1536 = .ok (.aload_n 2, 1) := by decide +kernel
theorem dL_law_1537 : decode cL_law 1537 = .ok (.invokevirtual 176, 3) := by decide +kernel
theorem dL_law_1540 : decode cL_law 1540 = .ok (.if_icmp .eq 63, 3) := by decide +kernel
theorem dL_law_1543 : decode cL_law 1543 = .ok (.iconst 0, 1) := by decide +kernel
theorem dL_law_1544 : decode cL_law 1544 = .ok (.ireturn, 1) := by decide +kernel
theorem dL_law_1545 : decode cL_law 1545 = .ok (.aload_n 1, 1) := by decide +kernel
theorem dL_law_1546 : decode cL_law 1546 = .ok (.aload_n 3, 1) := by decide +kernel
theorem dL_law_1547 : decode cL_law 1547 = .ok (.invokestatic 177, 3) := by decide +kernel
theorem dL_law_1550 : decode cL_law 1550 = .ok (.istore 5, 2) := by decide +kernel
theorem dL_law_1552 : decode cL_law 1552 = .ok (.aload_n 2, 1) := by decide +kernel
theorem dL_law_1553 : decode cL_law 1553 = .ok (.invokevirtual 179, 3) := by decide +kernel
theorem dL_law_1556 : decode cL_law 1556 = .ok (.istore 6, 2) := by decide +kernel
theorem dL_law_1558 : decode cL_law 1558 = .ok (.aload_n 2, 1) := by decide +kernel
theorem dL_law_1559 : decode cL_law 1559 = .ok (.invokevirtual 90, 3) := by decide +kernel
theorem dL_law_1562 : decode cL_law 1562 = .ok (.iload 5, 2) := by decide +kernel
theorem dL_law_1564 : decode cL_law 1564 = .ok (.if_icmp .eq 5, 3) := by decide +kernel
theorem dL_law_1567 : decode cL_law 1567 = .ok (.iconst 0, 1) := by decide +kernel
theorem dL_law_1568 : decode cL_law 1568 = .ok (.ireturn, 1) := by decide +kernel
theorem dL_law_1569 : decode cL_law 1569 = .ok (.iload 5, 2) := by decide +kernel
theorem dL_law_1571 : decode cL_law 1571 = .ok (.ifCond .ne 15, 3) := by decide +kernel
theorem dL_law_1574 : decode cL_law 1574 = .ok (.aload_n 3, 1) := by decide +kernel
theorem dL_law_1575 : decode cL_law 1575 = .ok (.iconst 0, 1) := by decide +kernel
theorem dL_law_1576 : decode cL_law 1576 = .ok (.laload, 1) := by decide +kernel
theorem dL_law_1577 : decode cL_law 1577 = .ok (.iload 6, 2) := by decide +kernel
theorem dL_law_1579 : decode cL_law 1579 = .ok (.i2l, 1) := by decide +kernel
theorem dL_law_1580 : decode cL_law 1580 = .ok (.lcmp, 1) := by decide +kernel
theorem dL_law_1581 : decode cL_law 1581 = .ok (.ifCond .eq 5, 3) := by decide +kernel
theorem dL_law_1584 : decode cL_law 1584 = .ok (.iconst 0, 1) := by decide +kernel
theorem dL_law_1585 : decode cL_law 1585 = .ok (.ireturn, 1) := by decide +kernel
theorem dL_law_1586 : decode cL_law 1586 = .ok (.goto 17, 3) := by decide +kernel
theorem dL_law_1589 : decode cL_law 1589 = .ok (.aload_n 1, 1) := by decide +kernel
theorem dL_law_1590 : decode cL_law 1590 = .ok (.invokevirtual 180, 3) := by decide +kernel
theorem dL_law_1593 : decode cL_law 1593 = .ok (.aload_n 2, 1) := by decide +kernel
theorem dL_law_1594 : decode cL_law 1594 = .ok (.invokevirtual 184, 3) := by decide +kernel
theorem dL_law_1597 : decode cL_law 1597 = .ok (.lcmp, 1) := by decide +kernel
theorem dL_law_1598 : decode cL_law 1598 = .ok (.ifCond .eq 5, 3) := by decide +kernel
theorem dL_law_1601 : decode cL_law 1601 = .ok (.iconst 0, 1) := by decide +kernel
theorem dL_law_1602 : decode cL_law 1602 = .ok (.ireturn, 1) := by decide +kernel
theorem dL_law_1603 : decode cL_law 1603 = .ok (.iinc 4 4, 3) := by decide +kernel
theorem dL_law_1606 : decode cL_law 1606 = .ok (.goto (-1583), 3) := by decide +kernel
theorem dL_law_1609 : decode cL_law 1609 = .ok (.iconst 1, 1) := by decide +kernel
theorem dL_law_1610 : decode cL_law 1610 = .ok (.ireturn, 1) := by decide +kernel
end
section
/-! the tables' words that a callee may be handed (wAll), those that need a hand of their own (NX), and a row of membership for each -/
def wAll : List Cond := lw_tbl.filter goodWord
theorem wAll_good {w : Cond} (h : w ∈ wAll) : (w.onTables && w.keeps) = true ∨ ∃ ty, w = .arrayClass ty := good_of_word (List.mem_filter.mp h).2
theorem wAll_tbl {w : Cond} (h : w ∈ wAll) : w ∈ lw_tbl := (List.mem_filter.mp h).1
theorem wAll_of {w : Cond} (i : Nat) (h : lw_tbl[i]? = some w) (hg : goodWord w = true) : w ∈ wAll := List.mem_filter.mpr ⟨List.mem_of_getElem? h, hg⟩
theorem wNest_of {w : Cond} (i : Nat) (h : tables_1[i]? = some w) : w ∈ tables_1 := List.mem_of_getElem? h
theorem qp0 : Cond.selects RX3 yX3_nextIsFrom yX3_nextIsFrom ∈ wAll := wAll_of 0 (by decide +kernel) rfl
theorem qp1 : Cond.selects RX3 yX3_takeDigit yX3_takeDigit ∈ wAll := wAll_of 1 (by decide +kernel) rfl
theorem qp2 : Cond.selects RX3 yX3_readWeight yX3_readWeight ∈ wAll := wAll_of 2 (by decide +kernel) rfl
theorem qp3 : Cond.selects RX4 yX4_acceptTrial yX4_acceptTrial ∈ wAll := wAll_of 3 (by decide +kernel) rfl
theorem qp4 : Cond.selects RX4 yX4_save yX4_save ∈ wAll := wAll_of 4 (by decide +kernel) rfl
theorem qp5 : Cond.selects RX4 yX4_savedAt yX4_savedAt ∈ wAll := wAll_of 5 (by decide +kernel) rfl
theorem qp6 : Cond.selects "java/lang/Throwable" ⟨"java/lang/Throwable", "fillInStackTrace", "(I)Ljava/lang/Throwable;"⟩ ⟨"java/lang/Throwable", "fillInStackTrace", "(I)Ljava/lang/Throwable;"⟩ ∈ wAll := wAll_of 6 (by decide +kernel) rfl
theorem qp7 : Cond.selects RX4 yX4_checkTrialRope yX4_checkTrialRope ∈ wAll := wAll_of 7 (by decide +kernel) rfl
theorem qp8 : Cond.selects RX2 yX2_moveInTurn yX2_moveInTurn ∈ wAll := wAll_of 8 (by decide +kernel) rfl
theorem qp9 : Cond.selects RX2 yX2_moveOne yX2_moveOne ∈ wAll := wAll_of 9 (by decide +kernel) rfl
theorem qp10 : Cond.selects RX4 yX4_checkPulley yX4_checkPulley ∈ wAll := wAll_of 10 (by decide +kernel) rfl
theorem qp11 : Cond.selects RX5 yX5_fails yX5_fails ∈ wAll := wAll_of 11 (by decide +kernel) rfl
theorem qp12 : Cond.selects RX5 yX5_puts yX5_puts ∈ wAll := wAll_of 12 (by decide +kernel) rfl
theorem qp13 : Cond.selects RX5 yX5_saves yX5_saves ∈ wAll := wAll_of 13 (by decide +kernel) rfl
theorem qp14 : Cond.selects RX5 yX5_tells yX5_tells ∈ wAll := wAll_of 14 (by decide +kernel) rfl
theorem qp15 : Cond.selects RX5 yX5_hanging yX5_hanging ∈ wAll := wAll_of 15 (by decide +kernel) rfl
theorem qp16 : Cond.selects RX5 yX5_strands yX5_strands ∈ wAll := wAll_of 16 (by decide +kernel) rfl
theorem qp17 : Cond.selects RX5 yX5_pulleysOn yX5_pulleysOn ∈ wAll := wAll_of 17 (by decide +kernel) rfl
theorem qp18 : Cond.selects RX5 yX5_inHand yX5_inHand ∈ wAll := wAll_of 18 (by decide +kernel) rfl
theorem qp19 : Cond.selects RX5 yX5_endStrand yX5_endStrand ∈ wAll := wAll_of 19 (by decide +kernel) rfl
theorem qp20 : Cond.selects RX5 yX5_hauls yX5_hauls ∈ wAll := wAll_of 20 (by decide +kernel) rfl
theorem qp21 : Cond.selects RX5 yX5_riser yX5_riser ∈ wAll := wAll_of 21 (by decide +kernel) rfl
theorem qp22 : Cond.selects RX5 yX5_least yX5_least ∈ wAll := wAll_of 22 (by decide +kernel) rfl
theorem qp23 : Cond.selects RX5 yX5_pullOn yX5_pullOn ∈ wAll := wAll_of 23 (by decide +kernel) rfl
theorem qp24 : Cond.selects RX5 yX5_behind yX5_behind ∈ wAll := wAll_of 24 (by decide +kernel) rfl
theorem qp25 : Cond.selects RX5 yX5_enters yX5_enters ∈ wAll := wAll_of 25 (by decide +kernel) rfl
theorem qp26 : Cond.selects RX5 yX5_sinker yX5_sinker ∈ wAll := wAll_of 26 (by decide +kernel) rfl
theorem qp27 : Cond.selects RX5 yX5_blockTold yX5_blockTold ∈ wAll := wAll_of 27 (by decide +kernel) rfl
theorem qp28 : Cond.selects RX5 yX5_passes yX5_passes ∈ wAll := wAll_of 28 (by decide +kernel) rfl
theorem qp29 : Cond.selects RX5 yX5_forceAt yX5_forceAt ∈ wAll := wAll_of 29 (by decide +kernel) rfl
theorem qp30 : Cond.selects RX5 yX5_valueTold yX5_valueTold ∈ wAll := wAll_of 30 (by decide +kernel) rfl
theorem qp31 : Cond.selects RX5 yX5_changes yX5_changes ∈ wAll := wAll_of 31 (by decide +kernel) rfl
theorem qp32 : Cond.selects RX5 yX5_laysAside yX5_laysAside ∈ wAll := wAll_of 32 (by decide +kernel) rfl
theorem qp33 : Cond.selects RX5 yX5_bringsBack yX5_bringsBack ∈ wAll := wAll_of 33 (by decide +kernel) rfl
theorem qp34 : Cond.selects RX5 yX5_reads yX5_reads ∈ wAll := wAll_of 34 (by decide +kernel) rfl
theorem qp35 : Cond.selects RX5 yX5_isAt yX5_isAt ∈ wAll := wAll_of 35 (by decide +kernel) rfl
theorem qp36 : Cond.selects RX5 yX5_readsWeight yX5_readsWeight ∈ wAll := wAll_of 36 (by decide +kernel) rfl
theorem qp37 : Cond.selects RX5 yX5_mix yX5_mix ∈ wAll := wAll_of 37 (by decide +kernel) rfl
theorem qw0 : Cond.initialized RL ∈ wAll := wAll_of 38 (by decide +kernel) rfl
theorem qw1 : Cond.initialized RX4 ∈ wAll := wAll_of 39 (by decide +kernel) rfl
theorem qw2 : Cond.initialized RX2 ∈ wAll := wAll_of 40 (by decide +kernel) rfl
theorem qw3 : Cond.initialized RX1 ∈ wAll := wAll_of 41 (by decide +kernel) rfl
theorem qw4 : Cond.initialized RX0 ∈ wAll := wAll_of 42 (by decide +kernel) rfl
theorem qw5 : Cond.initialized RX3 ∈ wAll := wAll_of 43 (by decide +kernel) rfl
theorem qw6 : Cond.initialized RX5 ∈ wAll := wAll_of 44 (by decide +kernel) rfl
theorem qw7 : Cond.initialized "java/lang/Throwable" ∈ wAll := wAll_of 45 (by decide +kernel) rfl
theorem qw8 : Cond.initialized "java/lang/Exception" ∈ wAll := wAll_of 46 (by decide +kernel) rfl
theorem qw9 : Cond.initialized "java/lang/RuntimeException" ∈ wAll := wAll_of 47 (by decide +kernel) rfl
theorem qw10 : Cond.initialized "java/lang/IndexOutOfBoundsException" ∈ wAll := wAll_of 48 (by decide +kernel) rfl
theorem qw11 : Cond.initialized "java/lang/IllegalArgumentException" ∈ wAll := wAll_of 49 (by decide +kernel) rfl
theorem qw12 : Cond.initialized RJ9 ∈ wAll := wAll_of 50 (by decide +kernel) rfl
theorem qw13 : Cond.initialized "java/lang/IllegalStateException" ∈ wAll := wAll_of 51 (by decide +kernel) rfl
theorem qw14 : Cond.classLink RL 8 "RopeTackle" ∈ wAll := wAll_of 52 (by decide +kernel) rfl
theorem qw15 : Cond.instantiable RX4 6 ∈ wAll := wAll_of 53 (by decide +kernel) rfl
theorem qw16 : Cond.methodLink RL 80 yX4_init ∈ wAll := wAll_of 54 (by decide +kernel) rfl
theorem qw17 : Cond.instanceMethod yX4_init ∈ wAll := wAll_of 55 (by decide +kernel) rfl
theorem qw18 : Cond.code yX4_init cX4_init 2 none ∈ wAll := wAll_of 56 (by decide +kernel) rfl
theorem qw19 : Cond.methodLink RX4 1 ⟨"java/lang/Object", "<init>", "()V"⟩ ∈ wAll := wAll_of 57 (by decide +kernel) rfl
theorem qw20 : Cond.instanceMethod ⟨"java/lang/Object", "<init>", "()V"⟩ ∈ wAll := wAll_of 58 (by decide +kernel) rfl
theorem qw21 : Cond.code ⟨"java/lang/Object", "<init>", "()V"⟩ object_method_1_code 1 none ∈ wAll := wAll_of 59 (by decide +kernel) rfl
theorem qw22 : Cond.classLink RX4 7 "RopeTackle$State" ∈ wAll := wAll_of 60 (by decide +kernel) rfl
theorem qw23 : Cond.instantiable RX2 6 ∈ wAll := wAll_of 61 (by decide +kernel) rfl
theorem qw24 : Cond.methodLink RX4 9 yX2_init ∈ wAll := wAll_of 62 (by decide +kernel) rfl
theorem qw25 : Cond.instanceMethod yX2_init ∈ wAll := wAll_of 63 (by decide +kernel) rfl
theorem qw26 : Cond.code yX2_init cX2_init 2 none ∈ wAll := wAll_of 64 (by decide +kernel) rfl
theorem qw27 : Cond.methodLink RX2 3 ⟨"java/lang/Object", "<init>", "()V"⟩ ∈ wAll := wAll_of 65 (by decide +kernel) rfl
theorem qw28 : Cond.classLink RX2 9 "RopeTackle$Reeving" ∈ wAll := wAll_of 66 (by decide +kernel) rfl
theorem qw29 : Cond.instantiable RX1 4 ∈ wAll := wAll_of 67 (by decide +kernel) rfl
theorem qn30 : Cond.methodLinkNest RX2 11 yX1_init "RopeTackle" ∈ tables_1 := wNest_of 30 (by decide +kernel)
theorem qw31 : Cond.instanceMethod yX1_init ∈ wAll := wAll_of 69 (by decide +kernel) rfl
theorem qw32 : Cond.code yX1_init cX1_init 1 none ∈ wAll := wAll_of 70 (by decide +kernel) rfl
theorem qw33 : Cond.methodLink RX1 3 ⟨"java/lang/Object", "<init>", "()V"⟩ ∈ wAll := wAll_of 71 (by decide +kernel) rfl
theorem qw34 : Cond.fieldLink RX1 9 "RopeTackle$Reeving" "row" "[I" ∈ wAll := wAll_of 72 (by decide +kernel) rfl
theorem qn35 : Cond.fieldLinkNest RX4 140 "RopeTackle$Reeving" "row" "[I" "RopeTackle" ∈ tables_1 := wNest_of 35 (by decide +kernel)
theorem qw36 : Cond.fieldLink RX1 15 "RopeTackle$Reeving" "pulleys" "I" ∈ wAll := wAll_of 74 (by decide +kernel) rfl
theorem qn37 : Cond.fieldLinkNest RX4 84 "RopeTackle$Reeving" "pulleys" "I" "RopeTackle" ∈ tables_1 := wNest_of 37 (by decide +kernel)
theorem qw38 : Cond.fieldLink RX1 19 "RopeTackle$Reeving" "end" "I" ∈ wAll := wAll_of 76 (by decide +kernel) rfl
theorem qn39 : Cond.fieldLinkNest RX3 48 "RopeTackle$Reeving" "end" "I" "RopeTackle" ∈ tables_1 := wNest_of 39 (by decide +kernel)
theorem qn40 : Cond.fieldLinkNest RX4 107 "RopeTackle$Reeving" "end" "I" "RopeTackle" ∈ tables_1 := wNest_of 40 (by decide +kernel)
theorem qw41 : Cond.fieldLink RX1 22 "RopeTackle$Reeving" "friction" "I" ∈ wAll := wAll_of 79 (by decide +kernel) rfl
theorem qn42 : Cond.fieldLinkNest RX4 61 "RopeTackle$Reeving" "friction" "I" "RopeTackle" ∈ tables_1 := wNest_of 42 (by decide +kernel)
theorem qw43 : Cond.laysFinal RX1 "RopeTackle$Reeving" "row" "[I" ∈ wAll := wAll_of 81 (by decide +kernel) rfl
theorem qw45 : Cond.lays RX1 "RopeTackle$Reeving" "pulleys" "I" ∈ wAll := wAll_of 83 (by decide +kernel) rfl
theorem qw47 : Cond.lays RX1 "RopeTackle$Reeving" "end" "I" ∈ wAll := wAll_of 85 (by decide +kernel) rfl
theorem qw49 : Cond.lays RX1 "RopeTackle$Reeving" "friction" "I" ∈ wAll := wAll_of 87 (by decide +kernel) rfl
theorem qw52 : Cond.arrayClass FieldType.int ∈ wAll := wAll_of 90 (by decide +kernel) rfl
theorem qw53 : Cond.classLink RX2 18 "RopeTackle$Ledger" ∈ wAll := wAll_of 91 (by decide +kernel) rfl
theorem qw54 : Cond.instantiable RX0 7 ∈ wAll := wAll_of 92 (by decide +kernel) rfl
theorem qn55 : Cond.methodLinkNest RX2 20 yX0_init "RopeTackle" ∈ tables_1 := wNest_of 55 (by decide +kernel)
theorem qw56 : Cond.instanceMethod yX0_init ∈ wAll := wAll_of 94 (by decide +kernel) rfl
theorem qw57 : Cond.code yX0_init cX0_init 1 none ∈ wAll := wAll_of 95 (by decide +kernel) rfl
theorem qw58 : Cond.methodLink RX0 3 ⟨"java/lang/Object", "<init>", "()V"⟩ ∈ wAll := wAll_of 96 (by decide +kernel) rfl
theorem qw59 : Cond.fieldLink RX0 9 "RopeTackle$Ledger" "parts" "[I" ∈ wAll := wAll_of 97 (by decide +kernel) rfl
theorem qw60 : Cond.fieldLink RX0 15 "RopeTackle$Ledger" "latest" "I" ∈ wAll := wAll_of 98 (by decide +kernel) rfl
theorem qw61 : Cond.fieldLink RX0 19 "RopeTackle$Ledger" "kept" "I" ∈ wAll := wAll_of 99 (by decide +kernel) rfl
theorem qn62 : Cond.fieldLinkNest RX4 173 "RopeTackle$Ledger" "kept" "I" "RopeTackle" ∈ tables_1 := wNest_of 62 (by decide +kernel)
theorem qw63 : Cond.fieldLink RX0 22 "RopeTackle$Ledger" "rises" "I" ∈ wAll := wAll_of 101 (by decide +kernel) rfl
theorem qn64 : Cond.fieldLinkNest RX4 165 "RopeTackle$Ledger" "rises" "I" "RopeTackle" ∈ tables_1 := wNest_of 64 (by decide +kernel)
theorem qw65 : Cond.fieldLink RX0 25 "RopeTackle$Ledger" "sinkings" "I" ∈ wAll := wAll_of 103 (by decide +kernel) rfl
theorem qn66 : Cond.fieldLinkNest RX4 170 "RopeTackle$Ledger" "sinkings" "I" "RopeTackle" ∈ tables_1 := wNest_of 66 (by decide +kernel)
theorem qw67 : Cond.fieldLink RX0 28 "RopeTackle$Ledger" "workPut" "J" ∈ wAll := wAll_of 105 (by decide +kernel) rfl
theorem qn68 : Cond.fieldLinkNest RX2 88 "RopeTackle$Ledger" "workPut" "J" "RopeTackle" ∈ tables_1 := wNest_of 68 (by decide +kernel)
theorem qn69 : Cond.fieldLinkNest RX4 182 "RopeTackle$Ledger" "workPut" "J" "RopeTackle" ∈ tables_1 := wNest_of 69 (by decide +kernel)
theorem qw70 : Cond.fieldLink RX0 32 "RopeTackle$Ledger" "workGot" "J" ∈ wAll := wAll_of 108 (by decide +kernel) rfl
theorem qn71 : Cond.fieldLinkNest RX4 178 "RopeTackle$Ledger" "workGot" "J" "RopeTackle" ∈ tables_1 := wNest_of 71 (by decide +kernel)
theorem qn72 : Cond.fieldLinkNest RX2 118 "RopeTackle$Ledger" "workGot" "J" "RopeTackle" ∈ tables_1 := wNest_of 72 (by decide +kernel)
theorem qw73 : Cond.laysFinal RX0 "RopeTackle$Ledger" "parts" "[I" ∈ wAll := wAll_of 111 (by decide +kernel) rfl
theorem qw75 : Cond.lays RX0 "RopeTackle$Ledger" "latest" "I" ∈ wAll := wAll_of 113 (by decide +kernel) rfl
theorem qw77 : Cond.lays RX0 "RopeTackle$Ledger" "kept" "I" ∈ wAll := wAll_of 115 (by decide +kernel) rfl
theorem qw79 : Cond.lays RX0 "RopeTackle$Ledger" "rises" "I" ∈ wAll := wAll_of 117 (by decide +kernel) rfl
theorem qw81 : Cond.lays RX0 "RopeTackle$Ledger" "sinkings" "I" ∈ wAll := wAll_of 119 (by decide +kernel) rfl
theorem qw83 : Cond.lays RX0 "RopeTackle$Ledger" "workPut" "J" ∈ wAll := wAll_of 121 (by decide +kernel) rfl
theorem qw85 : Cond.lays RX0 "RopeTackle$Ledger" "workGot" "J" ∈ wAll := wAll_of 123 (by decide +kernel) rfl
theorem qw88 : Cond.constant RX2 35 (60000 : Int32) ∈ wAll := wAll_of 126 (by decide +kernel) rfl
theorem qw89 : Cond.fieldLink RX2 12 "RopeTackle$State" "reeving" "LRopeTackle$Reeving;" ∈ wAll := wAll_of 127 (by decide +kernel) rfl
theorem qn90 : Cond.fieldLinkNest RX3 27 "RopeTackle$State" "reeving" "LRopeTackle$Reeving;" "RopeTackle" ∈ tables_1 := wNest_of 90 (by decide +kernel)
theorem qn91 : Cond.fieldLinkNest RX4 57 "RopeTackle$State" "reeving" "LRopeTackle$Reeving;" "RopeTackle" ∈ tables_1 := wNest_of 91 (by decide +kernel)
theorem qw92 : Cond.fieldLink RX2 21 "RopeTackle$State" "ledger" "LRopeTackle$Ledger;" ∈ wAll := wAll_of 130 (by decide +kernel) rfl
theorem qn93 : Cond.fieldLinkNest RX4 161 "RopeTackle$State" "ledger" "LRopeTackle$Ledger;" "RopeTackle" ∈ tables_1 := wNest_of 93 (by decide +kernel)
theorem qw94 : Cond.fieldLink RX2 25 "RopeTackle$State" "weights" "[I" ∈ wAll := wAll_of 132 (by decide +kernel) rfl
theorem qw95 : Cond.fieldLink RX2 29 "RopeTackle$State" "heights" "[I" ∈ wAll := wAll_of 133 (by decide +kernel) rfl
theorem qw96 : Cond.fieldLink RX2 32 "RopeTackle$State" "forces" "[I" ∈ wAll := wAll_of 134 (by decide +kernel) rfl
theorem qw97 : Cond.fieldLink RX2 36 "RopeTackle$State" "ropeLength" "I" ∈ wAll := wAll_of 135 (by decide +kernel) rfl
theorem qn98 : Cond.fieldLinkNest RX4 71 "RopeTackle$State" "ropeLength" "I" "RopeTackle" ∈ tables_1 := wNest_of 98 (by decide +kernel)
theorem qw99 : Cond.laysFinal RX2 "RopeTackle$State" "reeving" "LRopeTackle$Reeving;" ∈ wAll := wAll_of 137 (by decide +kernel) rfl
theorem qw101 : Cond.laysFinal RX2 "RopeTackle$State" "ledger" "LRopeTackle$Ledger;" ∈ wAll := wAll_of 139 (by decide +kernel) rfl
theorem qw103 : Cond.laysFinal RX2 "RopeTackle$State" "weights" "[I" ∈ wAll := wAll_of 141 (by decide +kernel) rfl
theorem qw105 : Cond.laysFinal RX2 "RopeTackle$State" "heights" "[I" ∈ wAll := wAll_of 143 (by decide +kernel) rfl
theorem qw107 : Cond.laysFinal RX2 "RopeTackle$State" "forces" "[I" ∈ wAll := wAll_of 145 (by decide +kernel) rfl
theorem qw109 : Cond.lays RX2 "RopeTackle$State" "ropeLength" "I" ∈ wAll := wAll_of 147 (by decide +kernel) rfl
theorem qw113 : Cond.classLink RX4 30 "RopeTackle$Text" ∈ wAll := wAll_of 151 (by decide +kernel) rfl
theorem qw114 : Cond.instantiable RX3 3 ∈ wAll := wAll_of 152 (by decide +kernel) rfl
theorem qn115 : Cond.methodLinkNest RX4 32 yX3_init "RopeTackle" ∈ tables_1 := wNest_of 115 (by decide +kernel)
theorem qw116 : Cond.instanceMethod yX3_init ∈ wAll := wAll_of 154 (by decide +kernel) rfl
theorem qw117 : Cond.code yX3_init cX3_init 1 none ∈ wAll := wAll_of 155 (by decide +kernel) rfl
theorem qw118 : Cond.methodLink RX3 3 ⟨"java/lang/Object", "<init>", "()V"⟩ ∈ wAll := wAll_of 156 (by decide +kernel) rfl
theorem qw119 : Cond.fieldLink RX3 9 "RopeTackle$Text" "bytes" "[I" ∈ wAll := wAll_of 157 (by decide +kernel) rfl
theorem qn120 : Cond.fieldLinkNest RX4 213 "RopeTackle$Text" "bytes" "[I" "RopeTackle" ∈ tables_1 := wNest_of 120 (by decide +kernel)
theorem qw121 : Cond.fieldLink RX3 15 "RopeTackle$Text" "length" "I" ∈ wAll := wAll_of 159 (by decide +kernel) rfl
theorem qn122 : Cond.fieldLinkNest RX4 208 "RopeTackle$Text" "length" "I" "RopeTackle" ∈ tables_1 := wNest_of 122 (by decide +kernel)
theorem qw123 : Cond.fieldLink RX3 19 "RopeTackle$Text" "place" "I" ∈ wAll := wAll_of 161 (by decide +kernel) rfl
theorem qw124 : Cond.laysFinal RX3 "RopeTackle$Text" "bytes" "[I" ∈ wAll := wAll_of 162 (by decide +kernel) rfl
theorem qw126 : Cond.lays RX3 "RopeTackle$Text" "length" "I" ∈ wAll := wAll_of 164 (by decide +kernel) rfl
theorem qw128 : Cond.lays RX3 "RopeTackle$Text" "place" "I" ∈ wAll := wAll_of 166 (by decide +kernel) rfl
theorem qw131 : Cond.fieldLink RX4 10 "RopeTackle" "now" "LRopeTackle$State;" ∈ wAll := wAll_of 169 (by decide +kernel) rfl
theorem qw132 : Cond.fieldLink RX4 16 "RopeTackle" "trial" "LRopeTackle$State;" ∈ wAll := wAll_of 170 (by decide +kernel) rfl
theorem qw133 : Cond.fieldLink RX4 19 "RopeTackle" "saved" "[LRopeTackle$State;" ∈ wAll := wAll_of 171 (by decide +kernel) rfl
theorem qw134 : Cond.fieldLink RX4 23 "RopeTackle" "savedCount" "I" ∈ wAll := wAll_of 172 (by decide +kernel) rfl
theorem qw135 : Cond.fieldLink RX4 27 "RopeTackle" "nextSlot" "I" ∈ wAll := wAll_of 173 (by decide +kernel) rfl
theorem qw136 : Cond.fieldLink RX4 33 "RopeTackle" "text" "LRopeTackle$Text;" ∈ wAll := wAll_of 174 (by decide +kernel) rfl
theorem qw137 : Cond.laysFinal RX4 "RopeTackle" "now" "LRopeTackle$State;" ∈ wAll := wAll_of 175 (by decide +kernel) rfl
theorem qw139 : Cond.laysFinal RX4 "RopeTackle" "trial" "LRopeTackle$State;" ∈ wAll := wAll_of 177 (by decide +kernel) rfl
theorem qw141 : Cond.laysFinal RX4 "RopeTackle" "saved" "[LRopeTackle$State;" ∈ wAll := wAll_of 179 (by decide +kernel) rfl
theorem qw143 : Cond.lays RX4 "RopeTackle" "savedCount" "I" ∈ wAll := wAll_of 181 (by decide +kernel) rfl
theorem qw145 : Cond.lays RX4 "RopeTackle" "nextSlot" "I" ∈ wAll := wAll_of 183 (by decide +kernel) rfl
theorem qw147 : Cond.laysFinal RX4 "RopeTackle" "text" "LRopeTackle$Text;" ∈ wAll := wAll_of 185 (by decide +kernel) rfl
theorem qw150 : Cond.methodLink RL 132 yX4_work ∈ wAll := wAll_of 188 (by decide +kernel) rfl
theorem qw151 : Cond.instanceMethod yX4_work ∈ wAll := wAll_of 189 (by decide +kernel) rfl
theorem qw152 : Cond.selects RX4 yX4_work yX4_work ∈ wAll := wAll_of 190 (by decide +kernel) rfl
theorem qw153 : Cond.code yX4_work cX4_work 2 (some FieldType.long) ∈ wAll := wAll_of 191 (by decide +kernel) rfl
theorem qw154 : Cond.methodLink RL 140 yX4_first ∈ wAll := wAll_of 192 (by decide +kernel) rfl
theorem qw155 : Cond.instanceMethod yX4_first ∈ wAll := wAll_of 193 (by decide +kernel) rfl
theorem qw156 : Cond.selects RX4 yX4_first yX4_first ∈ wAll := wAll_of 194 (by decide +kernel) rfl
theorem qw157 : Cond.code yX4_first cX4_first 1 (some FieldType.int) ∈ wAll := wAll_of 195 (by decide +kernel) rfl
theorem qw158 : Cond.methodLink RX4 190 yX2_reckonForces ∈ wAll := wAll_of 196 (by decide +kernel) rfl
theorem qw159 : Cond.instanceMethod yX2_reckonForces ∈ wAll := wAll_of 197 (by decide +kernel) rfl
theorem qw160 : Cond.selects RX2 yX2_reckonForces yX2_reckonForces ∈ wAll := wAll_of 198 (by decide +kernel) rfl
theorem qw161 : Cond.code yX2_reckonForces cX2_reckonForces 3 none ∈ wAll := wAll_of 199 (by decide +kernel) rfl
theorem qw162 : Cond.methodLink RX2 77 yX2_leastForceFor ∈ wAll := wAll_of 200 (by decide +kernel) rfl
theorem qw163 : Cond.instanceMethod yX2_leastForceFor ∈ wAll := wAll_of 201 (by decide +kernel) rfl
theorem qw164 : Cond.selects RX2 yX2_leastForceFor yX2_leastForceFor ∈ wAll := wAll_of 202 (by decide +kernel) rfl
theorem qw165 : Cond.code yX2_leastForceFor cX2_leastForceFor 3 (some FieldType.int) ∈ wAll := wAll_of 203 (by decide +kernel) rfl
theorem qw166 : Cond.methodLink RX2 70 yX2_weightOf ∈ wAll := wAll_of 204 (by decide +kernel) rfl
theorem qw167 : Cond.instanceMethod yX2_weightOf ∈ wAll := wAll_of 205 (by decide +kernel) rfl
theorem qw168 : Cond.selects RX2 yX2_weightOf yX2_weightOf ∈ wAll := wAll_of 206 (by decide +kernel) rfl
theorem qw169 : Cond.code yX2_weightOf cX2_weightOf 2 (some FieldType.int) ∈ wAll := wAll_of 207 (by decide +kernel) rfl
theorem qn170 : Cond.methodLinkNest RX2 51 yX4_at "RopeTackle" ∈ tables_1 := wNest_of 170 (by decide +kernel)
theorem qw171 : Cond.static yX4_at ∈ wAll := wAll_of 209 (by decide +kernel) rfl
theorem qw172 : Cond.code yX4_at cX4_at 2 (some FieldType.int) ∈ wAll := wAll_of 210 (by decide +kernel) rfl
theorem qw173 : Cond.methodLink RX2 73 yX1_leastForce ∈ wAll := wAll_of 211 (by decide +kernel) rfl
theorem qw174 : Cond.instanceMethod yX1_leastForce ∈ wAll := wAll_of 212 (by decide +kernel) rfl
theorem qw175 : Cond.selects RX1 yX1_leastForce yX1_leastForce ∈ wAll := wAll_of 213 (by decide +kernel) rfl
theorem qw176 : Cond.code yX1_leastForce cX1_leastForce 8 (some FieldType.int) ∈ wAll := wAll_of 214 (by decide +kernel) rfl
theorem qw177 : Cond.methodLink RX1 47 yX1_strandsOf ∈ wAll := wAll_of 215 (by decide +kernel) rfl
theorem qw178 : Cond.instanceMethod yX1_strandsOf ∈ wAll := wAll_of 216 (by decide +kernel) rfl
theorem qw179 : Cond.selects RX1 yX1_strandsOf yX1_strandsOf ∈ wAll := wAll_of 217 (by decide +kernel) rfl
theorem qw180 : Cond.code yX1_strandsOf cX1_strandsOf 2 (some FieldType.int) ∈ wAll := wAll_of 218 (by decide +kernel) rfl
theorem qw181 : Cond.methodLink RX1 37 yX1_pulleysOn ∈ wAll := wAll_of 219 (by decide +kernel) rfl
theorem qw182 : Cond.instanceMethod yX1_pulleysOn ∈ wAll := wAll_of 220 (by decide +kernel) rfl
theorem qw183 : Cond.selects RX1 yX1_pulleysOn yX1_pulleysOn ∈ wAll := wAll_of 221 (by decide +kernel) rfl
theorem qw184 : Cond.code yX1_pulleysOn cX1_pulleysOn 4 (some FieldType.int) ∈ wAll := wAll_of 222 (by decide +kernel) rfl
theorem qw185 : Cond.constant RX1 50 (1000000 : Int32) ∈ wAll := wAll_of 223 (by decide +kernel) rfl
theorem qw186 : Cond.methodLink RX1 51 yX1_pullOn ∈ wAll := wAll_of 224 (by decide +kernel) rfl
theorem qw187 : Cond.instanceMethod yX1_pullOn ∈ wAll := wAll_of 225 (by decide +kernel) rfl
theorem qw188 : Cond.selects RX1 yX1_pullOn yX1_pullOn ∈ wAll := wAll_of 226 (by decide +kernel) rfl
theorem qw189 : Cond.code yX1_pullOn cX1_pullOn 11 (some FieldType.long) ∈ wAll := wAll_of 227 (by decide +kernel) rfl
theorem qw190 : Cond.methodLink RX1 43 yX1_behindOne ∈ wAll := wAll_of 228 (by decide +kernel) rfl
theorem qw191 : Cond.instanceMethod yX1_behindOne ∈ wAll := wAll_of 229 (by decide +kernel) rfl
theorem qw192 : Cond.selects RX1 yX1_behindOne yX1_behindOne ∈ wAll := wAll_of 230 (by decide +kernel) rfl
theorem qw193 : Cond.code yX1_behindOne cX1_behindOne 6 (some FieldType.long) ∈ wAll := wAll_of 231 (by decide +kernel) rfl
theorem qw194 : Cond.constantLong RX1 41 (100 : Int64) ∈ wAll := wAll_of 232 (by decide +kernel) rfl
theorem qw195 : Cond.constant RX4 110 (1000000 : Int32) ∈ wAll := wAll_of 233 (by decide +kernel) rfl
theorem qw196 : Cond.methodLink RX4 194 yX2_nextToRise ∈ wAll := wAll_of 234 (by decide +kernel) rfl
theorem qw197 : Cond.instanceMethod yX2_nextToRise ∈ wAll := wAll_of 235 (by decide +kernel) rfl
theorem qw198 : Cond.selects RX2 yX2_nextToRise yX2_nextToRise ∈ wAll := wAll_of 236 (by decide +kernel) rfl
theorem qw199 : Cond.code yX2_nextToRise cX2_nextToRise 7 (some FieldType.int) ∈ wAll := wAll_of 237 (by decide +kernel) rfl
theorem qw200 : Cond.methodLink RX2 63 yX2_heightOf ∈ wAll := wAll_of 238 (by decide +kernel) rfl
theorem qw201 : Cond.instanceMethod yX2_heightOf ∈ wAll := wAll_of 239 (by decide +kernel) rfl
theorem qw202 : Cond.selects RX2 yX2_heightOf yX2_heightOf ∈ wAll := wAll_of 240 (by decide +kernel) rfl
theorem qw203 : Cond.code yX2_heightOf cX2_heightOf 2 (some FieldType.int) ∈ wAll := wAll_of 241 (by decide +kernel) rfl
theorem qw204 : Cond.methodLink RL 144 yX4_forceForAll ∈ wAll := wAll_of 242 (by decide +kernel) rfl
theorem qw205 : Cond.instanceMethod yX4_forceForAll ∈ wAll := wAll_of 243 (by decide +kernel) rfl
theorem qw206 : Cond.selects RX4 yX4_forceForAll yX4_forceForAll ∈ wAll := wAll_of 244 (by decide +kernel) rfl
theorem qw207 : Cond.code yX4_forceForAll cX4_forceForAll 4 (some FieldType.int) ∈ wAll := wAll_of 245 (by decide +kernel) rfl
theorem qw208 : Cond.methodLink RX4 122 yX1_strandsOf ∈ wAll := wAll_of 246 (by decide +kernel) rfl
theorem qw209 : Cond.methodLink RX4 119 yX2_heightOf ∈ wAll := wAll_of 247 (by decide +kernel) rfl
theorem qw210 : Cond.methodLink RX4 128 yX2_leastForceFor ∈ wAll := wAll_of 248 (by decide +kernel) rfl
theorem qw211 : Cond.methodLink RX4 197 yJ9_max_7cf53 ∈ wAll := wAll_of 249 (by decide +kernel) rfl
theorem qw212 : Cond.static yJ9_max_7cf53 ∈ wAll := wAll_of 250 (by decide +kernel) rfl
theorem qw213 : Cond.code yJ9_max_7cf53 cJ9_max_7cf53 2 (some FieldType.int) ∈ wAll := wAll_of 251 (by decide +kernel) rfl
theorem qw214 : Cond.methodLink RL 161 yX4_efficiency ∈ wAll := wAll_of 252 (by decide +kernel) rfl
theorem qw215 : Cond.instanceMethod yX4_efficiency ∈ wAll := wAll_of 253 (by decide +kernel) rfl
theorem qw216 : Cond.selects RX4 yX4_efficiency yX4_efficiency ∈ wAll := wAll_of 254 (by decide +kernel) rfl
theorem qw217 : Cond.code yX4_efficiency cX4_efficiency 3 (some FieldType.double) ∈ wAll := wAll_of 255 (by decide +kernel) rfl
theorem qw218 : Cond.methodLink RL 169 yX4_clearText ∈ wAll := wAll_of 256 (by decide +kernel) rfl
theorem qw219 : Cond.instanceMethod yX4_clearText ∈ wAll := wAll_of 257 (by decide +kernel) rfl
theorem qw220 : Cond.selects RX4 yX4_clearText yX4_clearText ∈ wAll := wAll_of 258 (by decide +kernel) rfl
theorem qw221 : Cond.code yX4_clearText cX4_clearText 2 (some FieldType.int) ∈ wAll := wAll_of 259 (by decide +kernel) rfl
theorem qw222 : Cond.methodLink RL 173 yX4_parse ∈ wAll := wAll_of 260 (by decide +kernel) rfl
theorem qw223 : Cond.instanceMethod yX4_parse ∈ wAll := wAll_of 261 (by decide +kernel) rfl
theorem qw224 : Cond.selects RX4 yX4_parse yX4_parse ∈ wAll := wAll_of 262 (by decide +kernel) rfl
theorem qw225 : Cond.code yX4_parse cX4_parse 2 (some FieldType.int) ∈ wAll := wAll_of 263 (by decide +kernel) rfl
theorem qw226 : Cond.methodLink RX4 67 yX2_copyFrom ∈ wAll := wAll_of 264 (by decide +kernel) rfl
theorem qw227 : Cond.instanceMethod yX2_copyFrom ∈ wAll := wAll_of 265 (by decide +kernel) rfl
theorem qw228 : Cond.selects RX2 yX2_copyFrom yX2_copyFrom ∈ wAll := wAll_of 266 (by decide +kernel) rfl
theorem qw229 : Cond.code yX2_copyFrom cX2_copyFrom 2 none ∈ wAll := wAll_of 267 (by decide +kernel) rfl
theorem qw230 : Cond.methodLink RX2 40 yX1_copyFrom ∈ wAll := wAll_of 268 (by decide +kernel) rfl
theorem qw231 : Cond.instanceMethod yX1_copyFrom ∈ wAll := wAll_of 269 (by decide +kernel) rfl
theorem qw232 : Cond.selects RX1 yX1_copyFrom yX1_copyFrom ∈ wAll := wAll_of 270 (by decide +kernel) rfl
theorem qw233 : Cond.code yX1_copyFrom cX1_copyFrom 2 none ∈ wAll := wAll_of 271 (by decide +kernel) rfl
theorem qn234 : Cond.methodLinkNest RX1 25 yX4_copyRow "RopeTackle" ∈ tables_1 := wNest_of 234 (by decide +kernel)
theorem qw235 : Cond.static yX4_copyRow ∈ wAll := wAll_of 273 (by decide +kernel) rfl
theorem qw236 : Cond.code yX4_copyRow cX4_copyRow 3 none ∈ wAll := wAll_of 274 (by decide +kernel) rfl
theorem qw237 : Cond.methodLink RX2 44 yX0_copyFrom ∈ wAll := wAll_of 275 (by decide +kernel) rfl
theorem qw238 : Cond.instanceMethod yX0_copyFrom ∈ wAll := wAll_of 276 (by decide +kernel) rfl
theorem qw239 : Cond.selects RX0 yX0_copyFrom yX0_copyFrom ∈ wAll := wAll_of 277 (by decide +kernel) rfl
theorem qw240 : Cond.code yX0_copyFrom cX0_copyFrom 2 none ∈ wAll := wAll_of 278 (by decide +kernel) rfl
theorem qn241 : Cond.methodLinkNest RX0 35 yX4_copyRow "RopeTackle" ∈ tables_1 := wNest_of 241 (by decide +kernel)
theorem qn242 : Cond.methodLinkNest RX2 47 yX4_copyRow "RopeTackle" ∈ tables_1 := wNest_of 242 (by decide +kernel)
theorem qw243 : Cond.methodLink RX4 220 yX3_readInto ∈ wAll := wAll_of 281 (by decide +kernel) rfl
theorem qw244 : Cond.instanceMethod yX3_readInto ∈ wAll := wAll_of 282 (by decide +kernel) rfl
theorem qw245 : Cond.selects RX3 yX3_readInto yX3_readInto ∈ wAll := wAll_of 283 (by decide +kernel) rfl
theorem qw246 : Cond.code yX3_readInto cX3_readInto 4 (some FieldType.int) ∈ wAll := wAll_of 284 (by decide +kernel) rfl
theorem qw247 : Cond.methodLink RX3 22 yX2_layAllDown ∈ wAll := wAll_of 285 (by decide +kernel) rfl
theorem qw248 : Cond.instanceMethod yX2_layAllDown ∈ wAll := wAll_of 286 (by decide +kernel) rfl
theorem qw249 : Cond.selects RX2 yX2_layAllDown yX2_layAllDown ∈ wAll := wAll_of 287 (by decide +kernel) rfl
theorem qw250 : Cond.code yX2_layAllDown cX2_layAllDown 2 none ∈ wAll := wAll_of 288 (by decide +kernel) rfl
theorem qw251 : Cond.methodLink RX3 31 yX1_unreeve ∈ wAll := wAll_of 289 (by decide +kernel) rfl
theorem qw252 : Cond.instanceMethod yX1_unreeve ∈ wAll := wAll_of 290 (by decide +kernel) rfl
theorem qw253 : Cond.selects RX1 yX1_unreeve yX1_unreeve ∈ wAll := wAll_of 291 (by decide +kernel) rfl
theorem qw254 : Cond.code yX1_unreeve cX1_unreeve 1 none ∈ wAll := wAll_of 292 (by decide +kernel) rfl
theorem qw255 : Cond.methodLink RX3 36 yX3_nextIsFrom ∈ wAll := wAll_of 293 (by decide +kernel) rfl
theorem qw257 : Cond.instanceMethod yX3_nextIsFrom ∈ wAll := wAll_of 295 (by decide +kernel) rfl
theorem qw258 : Cond.code yX3_nextIsFrom cX3_nextIsFrom 4 (some FieldType.boolean) ∈ wAll := wAll_of 296 (by decide +kernel) rfl
theorem qn259 : Cond.methodLinkNest RX3 60 yX4_at "RopeTackle" ∈ tables_1 := wNest_of 259 (by decide +kernel)
theorem qw260 : Cond.methodLink RX3 40 yX3_takeDigit ∈ wAll := wAll_of 298 (by decide +kernel) rfl
theorem qw262 : Cond.instanceMethod yX3_takeDigit ∈ wAll := wAll_of 300 (by decide +kernel) rfl
theorem qw263 : Cond.code yX3_takeDigit cX3_takeDigit 2 (some FieldType.int) ∈ wAll := wAll_of 301 (by decide +kernel) rfl
theorem qw264 : Cond.methodLink RX3 44 yX1_hang ∈ wAll := wAll_of 302 (by decide +kernel) rfl
theorem qw265 : Cond.instanceMethod yX1_hang ∈ wAll := wAll_of 303 (by decide +kernel) rfl
theorem qw266 : Cond.selects RX1 yX1_hang yX1_hang ∈ wAll := wAll_of 304 (by decide +kernel) rfl
theorem qw267 : Cond.code yX1_hang cX1_hang 2 none ∈ wAll := wAll_of 305 (by decide +kernel) rfl
theorem qn268 : Cond.methodLinkNest RX1 29 yX4_put "RopeTackle" ∈ tables_1 := wNest_of 268 (by decide +kernel)
theorem qw269 : Cond.static yX4_put ∈ wAll := wAll_of 307 (by decide +kernel) rfl
theorem qw270 : Cond.code yX4_put cX4_put 3 none ∈ wAll := wAll_of 308 (by decide +kernel) rfl
theorem qw271 : Cond.methodLink RX3 51 yX3_readWeight ∈ wAll := wAll_of 309 (by decide +kernel) rfl
theorem qw273 : Cond.instanceMethod yX3_readWeight ∈ wAll := wAll_of 311 (by decide +kernel) rfl
theorem qw274 : Cond.code yX3_readWeight cX3_readWeight 6 (some FieldType.int) ∈ wAll := wAll_of 312 (by decide +kernel) rfl
theorem qw275 : Cond.constant RX3 55 (50000 : Int32) ∈ wAll := wAll_of 313 (by decide +kernel) rfl
theorem qw276 : Cond.methodLink RX3 56 yX2_giveWeight ∈ wAll := wAll_of 314 (by decide +kernel) rfl
theorem qw277 : Cond.instanceMethod yX2_giveWeight ∈ wAll := wAll_of 315 (by decide +kernel) rfl
theorem qw278 : Cond.selects RX2 yX2_giveWeight yX2_giveWeight ∈ wAll := wAll_of 316 (by decide +kernel) rfl
theorem qw279 : Cond.code yX2_giveWeight cX2_giveWeight 3 none ∈ wAll := wAll_of 317 (by decide +kernel) rfl
theorem qn280 : Cond.methodLinkNest RX2 55 yX4_put "RopeTackle" ∈ tables_1 := wNest_of 280 (by decide +kernel)
theorem qw281 : Cond.methodLink RX4 80 yX2_inHand ∈ wAll := wAll_of 319 (by decide +kernel) rfl
theorem qw282 : Cond.instanceMethod yX2_inHand ∈ wAll := wAll_of 320 (by decide +kernel) rfl
theorem qw283 : Cond.selects RX2 yX2_inHand yX2_inHand ∈ wAll := wAll_of 321 (by decide +kernel) rfl
theorem qw284 : Cond.code yX2_inHand cX2_inHand 1 (some FieldType.int) ∈ wAll := wAll_of 322 (by decide +kernel) rfl
theorem qw285 : Cond.methodLink RX2 66 yX2_inStrands ∈ wAll := wAll_of 323 (by decide +kernel) rfl
theorem qw286 : Cond.instanceMethod yX2_inStrands ∈ wAll := wAll_of 324 (by decide +kernel) rfl
theorem qw287 : Cond.selects RX2 yX2_inStrands yX2_inStrands ∈ wAll := wAll_of 325 (by decide +kernel) rfl
theorem qw288 : Cond.code yX2_inStrands cX2_inStrands 3 (some FieldType.int) ∈ wAll := wAll_of 326 (by decide +kernel) rfl
theorem qw289 : Cond.methodLink RX2 59 yX1_strandsOf ∈ wAll := wAll_of 327 (by decide +kernel) rfl
theorem qw290 : Cond.methodLink RX4 77 yX4_acceptTrial ∈ wAll := wAll_of 328 (by decide +kernel) rfl
theorem qw292 : Cond.instanceMethod yX4_acceptTrial ∈ wAll := wAll_of 330 (by decide +kernel) rfl
theorem qw293 : Cond.code yX4_acceptTrial cX4_acceptTrial 1 none ∈ wAll := wAll_of 331 (by decide +kernel) rfl
theorem qw294 : Cond.methodLink RX4 46 yX4_save ∈ wAll := wAll_of 332 (by decide +kernel) rfl
theorem qw296 : Cond.instanceMethod yX4_save ∈ wAll := wAll_of 334 (by decide +kernel) rfl
theorem qw297 : Cond.code yX4_save cX4_save 2 none ∈ wAll := wAll_of 335 (by decide +kernel) rfl
theorem qw298 : Cond.methodLink RX4 229 yX4_savedAt ∈ wAll := wAll_of 336 (by decide +kernel) rfl
theorem qw300 : Cond.instanceMethod yX4_savedAt ∈ wAll := wAll_of 338 (by decide +kernel) rfl
theorem qw301 : Cond.code yX4_savedAt cX4_savedAt 2 (some (FieldType.object "RopeTackle$State")) ∈ wAll := wAll_of 339 (by decide +kernel) rfl
theorem qw302 : Cond.methodLink RX4 226 yJ9_floorMod_7cf53 ∈ wAll := wAll_of 340 (by decide +kernel) rfl
theorem qw303 : Cond.static yJ9_floorMod_7cf53 ∈ wAll := wAll_of 341 (by decide +kernel) rfl
theorem qw304 : Cond.code yJ9_floorMod_7cf53 cJ9_floorMod_7cf53 3 (some FieldType.int) ∈ wAll := wAll_of 342 (by decide +kernel) rfl
theorem qw305 : Cond.methodLink RX4 247 yJ9_min_7cf53 ∈ wAll := wAll_of 343 (by decide +kernel) rfl
theorem qw306 : Cond.static yJ9_min_7cf53 ∈ wAll := wAll_of 344 (by decide +kernel) rfl
theorem qw307 : Cond.code yJ9_min_7cf53 cJ9_min_7cf53 2 (some FieldType.int) ∈ wAll := wAll_of 345 (by decide +kernel) rfl
theorem qw308 : Cond.methodLink RL 180 yX4_digest ∈ wAll := wAll_of 346 (by decide +kernel) rfl
theorem qw309 : Cond.instanceMethod yX4_digest ∈ wAll := wAll_of 347 (by decide +kernel) rfl
theorem qw310 : Cond.selects RX4 yX4_digest yX4_digest ∈ wAll := wAll_of 348 (by decide +kernel) rfl
theorem qw311 : Cond.code yX4_digest cX4_digest 5 (some FieldType.long) ∈ wAll := wAll_of 349 (by decide +kernel) rfl
theorem qw312 : Cond.constantLong RX4 233 (112313 : Int64) ∈ wAll := wAll_of 350 (by decide +kernel) rfl
theorem qw313 : Cond.constantLong RX4 235 (31 : Int64) ∈ wAll := wAll_of 351 (by decide +kernel) rfl
theorem qw314 : Cond.methodLink RX4 237 yX4_value ∈ wAll := wAll_of 352 (by decide +kernel) rfl
theorem qw315 : Cond.instanceMethod yX4_value ∈ wAll := wAll_of 353 (by decide +kernel) rfl
theorem qw316 : Cond.selects RX4 yX4_value yX4_value ∈ wAll := wAll_of 354 (by decide +kernel) rfl
theorem qw317 : Cond.code yX4_value cX4_value 2 (some FieldType.int) ∈ wAll := wAll_of 355 (by decide +kernel) rfl
theorem qw318 : Cond.methodLink RX4 148 yX1_passes ∈ wAll := wAll_of 356 (by decide +kernel) rfl
theorem qw319 : Cond.instanceMethod yX1_passes ∈ wAll := wAll_of 357 (by decide +kernel) rfl
theorem qw320 : Cond.selects RX1 yX1_passes yX1_passes ∈ wAll := wAll_of 358 (by decide +kernel) rfl
theorem qw321 : Cond.code yX1_passes cX1_passes 1 (some FieldType.int) ∈ wAll := wAll_of 359 (by decide +kernel) rfl
theorem qw322 : Cond.methodLink RX4 158 yX2_inStrands ∈ wAll := wAll_of 360 (by decide +kernel) rfl
theorem qw323 : Cond.classLink RX4 132 "java/lang/IllegalArgumentException" ∈ wAll := wAll_of 361 (by decide +kernel) rfl
theorem qw324 : Cond.instantiable "java/lang/IllegalArgumentException" 6 ∈ wAll := wAll_of 362 (by decide +kernel) rfl
theorem qn325 : Cond.castable "java/lang/IllegalArgumentException" "java/lang/IllegalArgumentException" ∈ tables_1 := wNest_of 325 (by decide +kernel)
theorem qn326 : Cond.declares ⟨"java/lang/RuntimeException", "<init>", "()V"⟩ ∈ tables_1 := wNest_of 326 (by decide +kernel)
theorem qn327 : Cond.declares ⟨"java/lang/RuntimeException", "<init>", "(Ljava/lang/String;)V"⟩ ∈ tables_1 := wNest_of 327 (by decide +kernel)
theorem qn328 : Cond.declares ⟨"java/lang/Exception", "<init>", "()V"⟩ ∈ tables_1 := wNest_of 328 (by decide +kernel)
theorem qn329 : Cond.declares ⟨"java/lang/Exception", "<init>", "(Ljava/lang/String;)V"⟩ ∈ tables_1 := wNest_of 329 (by decide +kernel)
theorem qn330 : Cond.declares ⟨"java/lang/Throwable", "<init>", "()V"⟩ ∈ tables_1 := wNest_of 330 (by decide +kernel)
theorem qn331 : Cond.declares ⟨"java/lang/Throwable", "<init>", "(Ljava/lang/String;)V"⟩ ∈ tables_1 := wNest_of 331 (by decide +kernel)
theorem qw332 : Cond.selects "java/lang/IllegalArgumentException" ⟨"java/lang/Throwable", "fillInStackTrace", "(I)Ljava/lang/Throwable;"⟩ ⟨"java/lang/Throwable", "fillInStackTrace", "(I)Ljava/lang/Throwable;"⟩ ∈ wAll := wAll_of 370 (by decide +kernel) rfl
theorem qw333 : Cond.selects "java/lang/IllegalArgumentException" ⟨"java/lang/Throwable", "fillInStackTrace", "()Ljava/lang/Throwable;"⟩ ⟨"java/lang/Throwable", "fillInStackTrace", "()Ljava/lang/Throwable;"⟩ ∈ wAll := wAll_of 371 (by decide +kernel) rfl
theorem qw334 : Cond.lays "java/lang/IllegalArgumentException" "java/lang/Throwable" "cause" "Ljava/lang/Throwable;" ∈ wAll := wAll_of 372 (by decide +kernel) rfl
theorem qw335 : Cond.lays "java/lang/Throwable" "java/lang/Throwable" "cause" "Ljava/lang/Throwable;" ∈ wAll := wAll_of 373 (by decide +kernel) rfl
theorem qw336 : Cond.lays "java/lang/IllegalArgumentException" "java/lang/Throwable" "stackTrace" "[Ljava/lang/StackTraceElement;" ∈ wAll := wAll_of 374 (by decide +kernel) rfl
theorem qw337 : Cond.lays "java/lang/Throwable" "java/lang/Throwable" "stackTrace" "[Ljava/lang/StackTraceElement;" ∈ wAll := wAll_of 375 (by decide +kernel) rfl
theorem qw338 : Cond.lays "java/lang/IllegalArgumentException" "java/lang/Throwable" "suppressedExceptions" "Ljava/util/List;" ∈ wAll := wAll_of 376 (by decide +kernel) rfl
theorem qw339 : Cond.lays "java/lang/Throwable" "java/lang/Throwable" "suppressedExceptions" "Ljava/util/List;" ∈ wAll := wAll_of 377 (by decide +kernel) rfl
theorem qw340 : Cond.lays "java/lang/IllegalArgumentException" "java/lang/Throwable" "detailMessage" "Ljava/lang/String;" ∈ wAll := wAll_of 378 (by decide +kernel) rfl
theorem qw341 : Cond.lays "java/lang/Throwable" "java/lang/Throwable" "detailMessage" "Ljava/lang/String;" ∈ wAll := wAll_of 379 (by decide +kernel) rfl
theorem qw342 : Cond.lays "java/lang/IllegalArgumentException" "java/lang/Throwable" "backtrace" "Ljava/lang/Object;" ∈ wAll := wAll_of 380 (by decide +kernel) rfl
theorem qw343 : Cond.lays "java/lang/Throwable" "java/lang/Throwable" "backtrace" "Ljava/lang/Object;" ∈ wAll := wAll_of 381 (by decide +kernel) rfl
theorem qw344 : Cond.fieldLink "java/lang/Throwable" 198 "java/lang/Throwable" "backtrace" "Ljava/lang/Object;" ∈ wAll := wAll_of 382 (by decide +kernel) rfl
theorem qw346 : Cond.instanceMethod ⟨"java/lang/Throwable", "<init>", "()V"⟩ ∈ wAll := wAll_of 384 (by decide +kernel) rfl
theorem qw347 : Cond.code ⟨"java/lang/Throwable", "<init>", "()V"⟩ prog_15_method_1_code 1 none ∈ wAll := wAll_of 385 (by decide +kernel) rfl
theorem qw348 : Cond.methodLink "java/lang/Throwable" 1 ⟨"java/lang/Object", "<init>", "()V"⟩ ∈ wAll := wAll_of 386 (by decide +kernel) rfl
theorem qw349 : Cond.fieldLink "java/lang/Throwable" 13 "java/lang/Throwable" "UNASSIGNED_STACK" "[Ljava/lang/StackTraceElement;" ∈ wAll := wAll_of 387 (by decide +kernel) rfl
theorem qw351 : Cond.fieldLink "java/lang/Throwable" 20 "java/lang/Throwable" "SUPPRESSED_SENTINEL" "Ljava/util/List;" ∈ wAll := wAll_of 389 (by decide +kernel) rfl
theorem qw353 : Cond.methodLink "java/lang/Throwable" 27 ⟨"java/lang/Throwable", "fillInStackTrace", "()Ljava/lang/Throwable;"⟩ ∈ wAll := wAll_of 391 (by decide +kernel) rfl
theorem qw354 : Cond.instanceMethod ⟨"java/lang/Throwable", "fillInStackTrace", "()Ljava/lang/Throwable;"⟩ ∈ wAll := wAll_of 392 (by decide +kernel) rfl
theorem qw356 : Cond.selects "java/lang/IllegalStateException" ⟨"java/lang/Throwable", "fillInStackTrace", "()Ljava/lang/Throwable;"⟩ ⟨"java/lang/Throwable", "fillInStackTrace", "()Ljava/lang/Throwable;"⟩ ∈ wAll := wAll_of 394 (by decide +kernel) rfl
theorem qw357 : Cond.selects "java/lang/IndexOutOfBoundsException" ⟨"java/lang/Throwable", "fillInStackTrace", "()Ljava/lang/Throwable;"⟩ ⟨"java/lang/Throwable", "fillInStackTrace", "()Ljava/lang/Throwable;"⟩ ∈ wAll := wAll_of 395 (by decide +kernel) rfl
theorem qw359 : Cond.methodLink "java/lang/Throwable" 202 ⟨"java/lang/Throwable", "fillInStackTrace", "(I)Ljava/lang/Throwable;"⟩ ∈ wAll := wAll_of 397 (by decide +kernel) rfl
theorem qw361 : Cond.instanceMethod ⟨"java/lang/Throwable", "fillInStackTrace", "(I)Ljava/lang/Throwable;"⟩ ∈ wAll := wAll_of 399 (by decide +kernel) rfl
theorem qw362 : Cond.instantiable "java/lang/Throwable" 6 ∈ wAll := wAll_of 400 (by decide +kernel) rfl
theorem qw365 : Cond.methodLink RX4 136 ⟨"java/lang/IllegalArgumentException", "<init>", "(Ljava/lang/String;)V"⟩ ∈ wAll := wAll_of 403 (by decide +kernel) rfl
theorem qw366 : Cond.instanceMethod ⟨"java/lang/IllegalArgumentException", "<init>", "(Ljava/lang/String;)V"⟩ ∈ wAll := wAll_of 404 (by decide +kernel) rfl
theorem qw367 : Cond.code ⟨"java/lang/IllegalArgumentException", "<init>", "(Ljava/lang/String;)V"⟩ prog_9_method_2_code 2 none ∈ wAll := wAll_of 405 (by decide +kernel) rfl
theorem qw368 : Cond.methodLink "java/lang/IllegalArgumentException" 7 ⟨"java/lang/RuntimeException", "<init>", "(Ljava/lang/String;)V"⟩ ∈ wAll := wAll_of 406 (by decide +kernel) rfl
theorem qw369 : Cond.instanceMethod ⟨"java/lang/RuntimeException", "<init>", "(Ljava/lang/String;)V"⟩ ∈ wAll := wAll_of 407 (by decide +kernel) rfl
theorem qw370 : Cond.code ⟨"java/lang/RuntimeException", "<init>", "(Ljava/lang/String;)V"⟩ prog_13_method_2_code 2 none ∈ wAll := wAll_of 408 (by decide +kernel) rfl
theorem qw371 : Cond.methodLink "java/lang/RuntimeException" 7 ⟨"java/lang/Exception", "<init>", "(Ljava/lang/String;)V"⟩ ∈ wAll := wAll_of 409 (by decide +kernel) rfl
theorem qw372 : Cond.instanceMethod ⟨"java/lang/Exception", "<init>", "(Ljava/lang/String;)V"⟩ ∈ wAll := wAll_of 410 (by decide +kernel) rfl
theorem qw373 : Cond.code ⟨"java/lang/Exception", "<init>", "(Ljava/lang/String;)V"⟩ prog_8_method_2_code 2 none ∈ wAll := wAll_of 411 (by decide +kernel) rfl
theorem qw374 : Cond.methodLink "java/lang/Exception" 7 ⟨"java/lang/Throwable", "<init>", "(Ljava/lang/String;)V"⟩ ∈ wAll := wAll_of 412 (by decide +kernel) rfl
theorem qw375 : Cond.instanceMethod ⟨"java/lang/Throwable", "<init>", "(Ljava/lang/String;)V"⟩ ∈ wAll := wAll_of 413 (by decide +kernel) rfl
theorem qw376 : Cond.code ⟨"java/lang/Throwable", "<init>", "(Ljava/lang/String;)V"⟩ prog_15_method_2_code 2 none ∈ wAll := wAll_of 414 (by decide +kernel) rfl
theorem qw378 : Cond.fieldLink "java/lang/Throwable" 31 "java/lang/Throwable" "detailMessage" "Ljava/lang/String;" ∈ wAll := wAll_of 416 (by decide +kernel) rfl
theorem qw379 : Cond.fieldLink "java/lang/Throwable" 7 "java/lang/Throwable" "cause" "Ljava/lang/Throwable;" ∈ wAll := wAll_of 417 (by decide +kernel) rfl
theorem qw380 : Cond.fieldLink "java/lang/Throwable" 17 "java/lang/Throwable" "stackTrace" "[Ljava/lang/StackTraceElement;" ∈ wAll := wAll_of 418 (by decide +kernel) rfl
theorem qw381 : Cond.fieldLink "java/lang/Throwable" 24 "java/lang/Throwable" "suppressedExceptions" "Ljava/util/List;" ∈ wAll := wAll_of 419 (by decide +kernel) rfl
theorem qw386 : Cond.lays "java/lang/IllegalArgumentException" "java/lang/Throwable" "depth" "I" ∈ wAll := wAll_of 424 (by decide +kernel) rfl
theorem qw390 : Cond.arrayClass FieldType.byte ∈ wAll := wAll_of 428 (by decide +kernel) rfl
theorem qw391 : Cond.methodLink RX4 240 yX4_work ∈ wAll := wAll_of 429 (by decide +kernel) rfl
theorem qw392 : Cond.methodLink RX4 244 yX4_block ∈ wAll := wAll_of 430 (by decide +kernel) rfl
theorem qw393 : Cond.instanceMethod yX4_block ∈ wAll := wAll_of 431 (by decide +kernel) rfl
theorem qw394 : Cond.selects RX4 yX4_block yX4_block ∈ wAll := wAll_of 432 (by decide +kernel) rfl
theorem qw395 : Cond.code yX4_block cX4_block 3 (some FieldType.int) ∈ wAll := wAll_of 433 (by decide +kernel) rfl
theorem qw396 : Cond.methodLink RX4 37 yX4_checkBlock ∈ wAll := wAll_of 434 (by decide +kernel) rfl
theorem qw397 : Cond.static yX4_checkBlock ∈ wAll := wAll_of 435 (by decide +kernel) rfl
theorem qw398 : Cond.code yX4_checkBlock cX4_checkBlock 1 none ∈ wAll := wAll_of 436 (by decide +kernel) rfl
theorem qw399 : Cond.methodLink RX4 252 yX4_isBlock ∈ wAll := wAll_of 437 (by decide +kernel) rfl
theorem qw400 : Cond.static yX4_isBlock ∈ wAll := wAll_of 438 (by decide +kernel) rfl
theorem qw401 : Cond.code yX4_isBlock cX4_isBlock 1 (some FieldType.boolean) ∈ wAll := wAll_of 439 (by decide +kernel) rfl
theorem qw402 : Cond.classLink RX4 102 "java/lang/IndexOutOfBoundsException" ∈ wAll := wAll_of 440 (by decide +kernel) rfl
theorem qw403 : Cond.instantiable "java/lang/IndexOutOfBoundsException" 6 ∈ wAll := wAll_of 441 (by decide +kernel) rfl
theorem qn404 : Cond.castable "java/lang/IndexOutOfBoundsException" "java/lang/IndexOutOfBoundsException" ∈ tables_1 := wNest_of 404 (by decide +kernel)
theorem qw405 : Cond.selects "java/lang/IndexOutOfBoundsException" ⟨"java/lang/Throwable", "fillInStackTrace", "(I)Ljava/lang/Throwable;"⟩ ⟨"java/lang/Throwable", "fillInStackTrace", "(I)Ljava/lang/Throwable;"⟩ ∈ wAll := wAll_of 443 (by decide +kernel) rfl
theorem qw406 : Cond.lays "java/lang/IndexOutOfBoundsException" "java/lang/Throwable" "cause" "Ljava/lang/Throwable;" ∈ wAll := wAll_of 444 (by decide +kernel) rfl
theorem qw407 : Cond.lays "java/lang/IndexOutOfBoundsException" "java/lang/Throwable" "stackTrace" "[Ljava/lang/StackTraceElement;" ∈ wAll := wAll_of 445 (by decide +kernel) rfl
theorem qw408 : Cond.lays "java/lang/IndexOutOfBoundsException" "java/lang/Throwable" "suppressedExceptions" "Ljava/util/List;" ∈ wAll := wAll_of 446 (by decide +kernel) rfl
theorem qw409 : Cond.lays "java/lang/IndexOutOfBoundsException" "java/lang/Throwable" "detailMessage" "Ljava/lang/String;" ∈ wAll := wAll_of 447 (by decide +kernel) rfl
theorem qw410 : Cond.lays "java/lang/IndexOutOfBoundsException" "java/lang/Throwable" "backtrace" "Ljava/lang/Object;" ∈ wAll := wAll_of 448 (by decide +kernel) rfl
theorem qw412 : Cond.methodLink RX4 106 ⟨"java/lang/IndexOutOfBoundsException", "<init>", "(Ljava/lang/String;)V"⟩ ∈ wAll := wAll_of 450 (by decide +kernel) rfl
theorem qw413 : Cond.instanceMethod ⟨"java/lang/IndexOutOfBoundsException", "<init>", "(Ljava/lang/String;)V"⟩ ∈ wAll := wAll_of 451 (by decide +kernel) rfl
theorem qw414 : Cond.code ⟨"java/lang/IndexOutOfBoundsException", "<init>", "(Ljava/lang/String;)V"⟩ prog_11_method_2_code 2 none ∈ wAll := wAll_of 452 (by decide +kernel) rfl
theorem qw415 : Cond.methodLink "java/lang/IndexOutOfBoundsException" 7 ⟨"java/lang/RuntimeException", "<init>", "(Ljava/lang/String;)V"⟩ ∈ wAll := wAll_of 453 (by decide +kernel) rfl
theorem qw416 : Cond.lays "java/lang/IndexOutOfBoundsException" "java/lang/Throwable" "depth" "I" ∈ wAll := wAll_of 454 (by decide +kernel) rfl
theorem qw418 : Cond.methodLink RX4 49 yX2_weightOf ∈ wAll := wAll_of 456 (by decide +kernel) rfl
theorem qw419 : Cond.methodLink RX4 125 yX1_pulleysOn ∈ wAll := wAll_of 457 (by decide +kernel) rfl
theorem qw421 : Cond.methodLink RX4 144 yX4_at ∈ wAll := wAll_of 459 (by decide +kernel) rfl
theorem qw422 : Cond.methodLink RX4 187 yX0_part ∈ wAll := wAll_of 460 (by decide +kernel) rfl
theorem qw423 : Cond.instanceMethod yX0_part ∈ wAll := wAll_of 461 (by decide +kernel) rfl
theorem qw424 : Cond.selects RX0 yX0_part yX0_part ∈ wAll := wAll_of 462 (by decide +kernel) rfl
theorem qw425 : Cond.code yX0_part cX0_part 3 (some FieldType.int) ∈ wAll := wAll_of 463 (by decide +kernel) rfl
theorem qw426 : Cond.methodLink RX0 39 yJ9_floorMod_7cf53 ∈ wAll := wAll_of 464 (by decide +kernel) rfl
theorem qn427 : Cond.methodLinkNest RX0 52 yX4_at "RopeTackle" ∈ tables_1 := wNest_of 427 (by decide +kernel)
theorem qw428 : Cond.methodLink RL 84 yL_setWeight ∈ wAll := wAll_of 466 (by decide +kernel) rfl
theorem qw429 : Cond.static yL_setWeight ∈ wAll := wAll_of 467 (by decide +kernel) rfl
theorem qw430 : Cond.codeWith yL_setWeight cL_setWeight 5 (some FieldType.int) [(0, 10, 13, 13), (0, 10, 17, 15)] ∈ wAll := wAll_of 468 (by decide +kernel) rfl
theorem qw431 : Cond.classLink RL 13 "java/lang/IndexOutOfBoundsException" ∈ wAll := wAll_of 469 (by decide +kernel) rfl
theorem qw432 : Cond.classLink RL 15 "java/lang/IllegalArgumentException" ∈ wAll := wAll_of 470 (by decide +kernel) rfl
theorem qw433 : Cond.methodLink RL 7 yX4_setWeight ∈ wAll := wAll_of 471 (by decide +kernel) rfl
theorem qw434 : Cond.instanceMethod yX4_setWeight ∈ wAll := wAll_of 472 (by decide +kernel) rfl
theorem qw435 : Cond.selects RX4 yX4_setWeight yX4_setWeight ∈ wAll := wAll_of 473 (by decide +kernel) rfl
theorem qw436 : Cond.code yX4_setWeight cX4_setWeight 4 (some FieldType.int) ∈ wAll := wAll_of 474 (by decide +kernel) rfl
theorem qw437 : Cond.constant RX4 41 (50000 : Int32) ∈ wAll := wAll_of 475 (by decide +kernel) rfl
theorem qw438 : Cond.methodLink RX4 42 yX4_checkRange ∈ wAll := wAll_of 476 (by decide +kernel) rfl
theorem qw439 : Cond.static yX4_checkRange ∈ wAll := wAll_of 477 (by decide +kernel) rfl
theorem qw440 : Cond.code yX4_checkRange cX4_checkRange 3 none ∈ wAll := wAll_of 478 (by decide +kernel) rfl
theorem qw442 : Cond.methodLink RX4 53 yX2_giveWeight ∈ wAll := wAll_of 480 (by decide +kernel) rfl
theorem qw443 : Cond.methodLink RL 93 yL_setFriction ∈ wAll := wAll_of 481 (by decide +kernel) rfl
theorem qw444 : Cond.static yL_setFriction ∈ wAll := wAll_of 482 (by decide +kernel) rfl
theorem qw445 : Cond.codeWith yL_setFriction cL_setFriction 4 (some FieldType.int) [(0, 9, 12, 15)] ∈ wAll := wAll_of 483 (by decide +kernel) rfl
theorem qw446 : Cond.methodLink RL 17 yX4_setFriction ∈ wAll := wAll_of 484 (by decide +kernel) rfl
theorem qw447 : Cond.instanceMethod yX4_setFriction ∈ wAll := wAll_of 485 (by decide +kernel) rfl
theorem qw448 : Cond.selects RX4 yX4_setFriction yX4_setFriction ∈ wAll := wAll_of 486 (by decide +kernel) rfl
theorem qw449 : Cond.code yX4_setFriction cX4_setFriction 3 (some FieldType.int) ∈ wAll := wAll_of 487 (by decide +kernel) rfl
theorem qw450 : Cond.methodLink RL 97 yL_setLength ∈ wAll := wAll_of 488 (by decide +kernel) rfl
theorem qw451 : Cond.static yL_setLength ∈ wAll := wAll_of 489 (by decide +kernel) rfl
theorem qw452 : Cond.codeWith yL_setLength cL_setLength 4 (some FieldType.int) [(0, 9, 12, 15), (0, 9, 15, 24)] ∈ wAll := wAll_of 490 (by decide +kernel) rfl
theorem qw453 : Cond.classLink RL 24 "java/lang/IllegalStateException" ∈ wAll := wAll_of 491 (by decide +kernel) rfl
theorem qw454 : Cond.methodLink RL 21 yX4_setLength ∈ wAll := wAll_of 492 (by decide +kernel) rfl
theorem qw455 : Cond.instanceMethod yX4_setLength ∈ wAll := wAll_of 493 (by decide +kernel) rfl
theorem qw456 : Cond.selects RX4 yX4_setLength yX4_setLength ∈ wAll := wAll_of 494 (by decide +kernel) rfl
theorem qw457 : Cond.code yX4_setLength cX4_setLength 2 (some FieldType.int) ∈ wAll := wAll_of 495 (by decide +kernel) rfl
theorem qw458 : Cond.constant RX4 66 (300000 : Int32) ∈ wAll := wAll_of 496 (by decide +kernel) rfl
theorem qw459 : Cond.methodLink RX4 74 yX4_checkTrialRope ∈ wAll := wAll_of 497 (by decide +kernel) rfl
theorem qw461 : Cond.instanceMethod yX4_checkTrialRope ∈ wAll := wAll_of 499 (by decide +kernel) rfl
theorem qw462 : Cond.code yX4_checkTrialRope cX4_checkTrialRope 1 none ∈ wAll := wAll_of 500 (by decide +kernel) rfl
theorem qw463 : Cond.classLink RX4 87 "java/lang/IllegalStateException" ∈ wAll := wAll_of 501 (by decide +kernel) rfl
theorem qw464 : Cond.instantiable "java/lang/IllegalStateException" 6 ∈ wAll := wAll_of 502 (by decide +kernel) rfl
theorem qn465 : Cond.castable "java/lang/IllegalStateException" "java/lang/IllegalStateException" ∈ tables_1 := wNest_of 465 (by decide +kernel)
theorem qw466 : Cond.selects "java/lang/IllegalStateException" ⟨"java/lang/Throwable", "fillInStackTrace", "(I)Ljava/lang/Throwable;"⟩ ⟨"java/lang/Throwable", "fillInStackTrace", "(I)Ljava/lang/Throwable;"⟩ ∈ wAll := wAll_of 504 (by decide +kernel) rfl
theorem qw467 : Cond.lays "java/lang/IllegalStateException" "java/lang/Throwable" "cause" "Ljava/lang/Throwable;" ∈ wAll := wAll_of 505 (by decide +kernel) rfl
theorem qw468 : Cond.lays "java/lang/IllegalStateException" "java/lang/Throwable" "stackTrace" "[Ljava/lang/StackTraceElement;" ∈ wAll := wAll_of 506 (by decide +kernel) rfl
theorem qw469 : Cond.lays "java/lang/IllegalStateException" "java/lang/Throwable" "suppressedExceptions" "Ljava/util/List;" ∈ wAll := wAll_of 507 (by decide +kernel) rfl
theorem qw470 : Cond.lays "java/lang/IllegalStateException" "java/lang/Throwable" "detailMessage" "Ljava/lang/String;" ∈ wAll := wAll_of 508 (by decide +kernel) rfl
theorem qw471 : Cond.lays "java/lang/IllegalStateException" "java/lang/Throwable" "backtrace" "Ljava/lang/Object;" ∈ wAll := wAll_of 509 (by decide +kernel) rfl
theorem qw473 : Cond.methodLink RX4 91 ⟨"java/lang/IllegalStateException", "<init>", "(Ljava/lang/String;)V"⟩ ∈ wAll := wAll_of 511 (by decide +kernel) rfl
theorem qw474 : Cond.instanceMethod ⟨"java/lang/IllegalStateException", "<init>", "(Ljava/lang/String;)V"⟩ ∈ wAll := wAll_of 512 (by decide +kernel) rfl
theorem qw475 : Cond.code ⟨"java/lang/IllegalStateException", "<init>", "(Ljava/lang/String;)V"⟩ prog_10_method_2_code 2 none ∈ wAll := wAll_of 513 (by decide +kernel) rfl
theorem qw476 : Cond.methodLink "java/lang/IllegalStateException" 7 ⟨"java/lang/RuntimeException", "<init>", "(Ljava/lang/String;)V"⟩ ∈ wAll := wAll_of 514 (by decide +kernel) rfl
theorem qw477 : Cond.lays "java/lang/IllegalStateException" "java/lang/Throwable" "depth" "I" ∈ wAll := wAll_of 515 (by decide +kernel) rfl
theorem qw479 : Cond.methodLink RL 100 yL_addPulley ∈ wAll := wAll_of 517 (by decide +kernel) rfl
theorem qw480 : Cond.static yL_addPulley ∈ wAll := wAll_of 518 (by decide +kernel) rfl
theorem qw481 : Cond.codeWith yL_addPulley cL_addPulley 4 (some FieldType.int) [(0, 9, 12, 13), (0, 9, 15, 24)] ∈ wAll := wAll_of 519 (by decide +kernel) rfl
theorem qw482 : Cond.methodLink RL 26 yX4_addPulley ∈ wAll := wAll_of 520 (by decide +kernel) rfl
theorem qw483 : Cond.instanceMethod yX4_addPulley ∈ wAll := wAll_of 521 (by decide +kernel) rfl
theorem qw484 : Cond.selects RX4 yX4_addPulley yX4_addPulley ∈ wAll := wAll_of 522 (by decide +kernel) rfl
theorem qw485 : Cond.code yX4_addPulley cX4_addPulley 2 (some FieldType.int) ∈ wAll := wAll_of 523 (by decide +kernel) rfl
theorem qw487 : Cond.methodLink RX4 94 yX1_hang ∈ wAll := wAll_of 525 (by decide +kernel) rfl
theorem qw488 : Cond.methodLink RL 103 yL_takePulley ∈ wAll := wAll_of 526 (by decide +kernel) rfl
theorem qw489 : Cond.static yL_takePulley ∈ wAll := wAll_of 527 (by decide +kernel) rfl
theorem qw490 : Cond.codeWith yL_takePulley cL_takePulley 3 (some FieldType.int) [(0, 8, 11, 24)] ∈ wAll := wAll_of 528 (by decide +kernel) rfl
theorem qw491 : Cond.methodLink RL 29 yX4_takePulley ∈ wAll := wAll_of 529 (by decide +kernel) rfl
theorem qw492 : Cond.instanceMethod yX4_takePulley ∈ wAll := wAll_of 530 (by decide +kernel) rfl
theorem qw493 : Cond.selects RX4 yX4_takePulley yX4_takePulley ∈ wAll := wAll_of 531 (by decide +kernel) rfl
theorem qw494 : Cond.code yX4_takePulley cX4_takePulley 1 (some FieldType.int) ∈ wAll := wAll_of 532 (by decide +kernel) rfl
theorem qw496 : Cond.methodLink RX4 99 yX1_unhang ∈ wAll := wAll_of 534 (by decide +kernel) rfl
theorem qw497 : Cond.instanceMethod yX1_unhang ∈ wAll := wAll_of 535 (by decide +kernel) rfl
theorem qw498 : Cond.selects RX1 yX1_unhang yX1_unhang ∈ wAll := wAll_of 536 (by decide +kernel) rfl
theorem qw499 : Cond.code yX1_unhang cX1_unhang 1 (some FieldType.int) ∈ wAll := wAll_of 537 (by decide +kernel) rfl
theorem qn500 : Cond.methodLinkNest RX1 33 yX4_at "RopeTackle" ∈ tables_1 := wNest_of 500 (by decide +kernel)
theorem qw501 : Cond.methodLink RL 107 yL_setEnd ∈ wAll := wAll_of 539 (by decide +kernel) rfl
theorem qw502 : Cond.static yL_setEnd ∈ wAll := wAll_of 540 (by decide +kernel) rfl
theorem qw503 : Cond.codeWith yL_setEnd cL_setEnd 4 (some FieldType.int) [(0, 9, 12, 13), (0, 9, 15, 24)] ∈ wAll := wAll_of 541 (by decide +kernel) rfl
theorem qw504 : Cond.methodLink RL 33 yX4_setEnd ∈ wAll := wAll_of 542 (by decide +kernel) rfl
theorem qw505 : Cond.instanceMethod yX4_setEnd ∈ wAll := wAll_of 543 (by decide +kernel) rfl
theorem qw506 : Cond.selects RX4 yX4_setEnd yX4_setEnd ∈ wAll := wAll_of 544 (by decide +kernel) rfl
theorem qw507 : Cond.code yX4_setEnd cX4_setEnd 3 (some FieldType.int) ∈ wAll := wAll_of 545 (by decide +kernel) rfl
theorem qw509 : Cond.methodLink RL 110 yL_haul ∈ wAll := wAll_of 547 (by decide +kernel) rfl
theorem qw510 : Cond.static yL_haul ∈ wAll := wAll_of 548 (by decide +kernel) rfl
theorem qw511 : Cond.codeWith yL_haul cL_haul 5 (some FieldType.int) [(0, 10, 13, 15)] ∈ wAll := wAll_of 549 (by decide +kernel) rfl
theorem qw512 : Cond.methodLink RL 36 yX4_haul ∈ wAll := wAll_of 550 (by decide +kernel) rfl
theorem qw513 : Cond.instanceMethod yX4_haul ∈ wAll := wAll_of 551 (by decide +kernel) rfl
theorem qw514 : Cond.selects RX4 yX4_haul yX4_haul ∈ wAll := wAll_of 552 (by decide +kernel) rfl
theorem qw515 : Cond.code yX4_haul cX4_haul 3 (some FieldType.int) ∈ wAll := wAll_of 553 (by decide +kernel) rfl
theorem qw516 : Cond.constant RX4 111 (100000 : Int32) ∈ wAll := wAll_of 554 (by decide +kernel) rfl
theorem qw517 : Cond.methodLink RX4 112 yX2_moveUp ∈ wAll := wAll_of 555 (by decide +kernel) rfl
theorem qw518 : Cond.instanceMethod yX2_moveUp ∈ wAll := wAll_of 556 (by decide +kernel) rfl
theorem qw519 : Cond.selects RX2 yX2_moveUp yX2_moveUp ∈ wAll := wAll_of 557 (by decide +kernel) rfl
theorem qw520 : Cond.code yX2_moveUp cX2_moveUp 4 (some FieldType.int) ∈ wAll := wAll_of 558 (by decide +kernel) rfl
theorem qw521 : Cond.methodLink RX2 81 yX2_reckonForces ∈ wAll := wAll_of 559 (by decide +kernel) rfl
theorem qw522 : Cond.methodLink RX2 85 yX2_moveInTurn ∈ wAll := wAll_of 560 (by decide +kernel) rfl
theorem qw524 : Cond.instanceMethod yX2_moveInTurn ∈ wAll := wAll_of 562 (by decide +kernel) rfl
theorem qw525 : Cond.code yX2_moveInTurn cX2_moveInTurn 7 (some FieldType.int) ∈ wAll := wAll_of 563 (by decide +kernel) rfl
theorem qw526 : Cond.methodLink RX2 101 yX2_nextToRise ∈ wAll := wAll_of 564 (by decide +kernel) rfl
theorem qw527 : Cond.methodLink RX2 104 yX2_nextToSink ∈ wAll := wAll_of 565 (by decide +kernel) rfl
theorem qw528 : Cond.instanceMethod yX2_nextToSink ∈ wAll := wAll_of 566 (by decide +kernel) rfl
theorem qw529 : Cond.selects RX2 yX2_nextToSink yX2_nextToSink ∈ wAll := wAll_of 567 (by decide +kernel) rfl
theorem qw530 : Cond.code yX2_nextToSink cX2_nextToSink 6 (some FieldType.int) ∈ wAll := wAll_of 568 (by decide +kernel) rfl
theorem qw531 : Cond.methodLink RX2 107 yX2_moveOne ∈ wAll := wAll_of 569 (by decide +kernel) rfl
theorem qw533 : Cond.instanceMethod yX2_moveOne ∈ wAll := wAll_of 571 (by decide +kernel) rfl
theorem qw534 : Cond.code yX2_moveOne cX2_moveOne 8 (some FieldType.int) ∈ wAll := wAll_of 572 (by decide +kernel) rfl
theorem qn535 : Cond.methodLinkNest RX2 110 yX4_isBlock "RopeTackle" ∈ tables_1 := wNest_of 535 (by decide +kernel)
theorem qw536 : Cond.methodLink RX2 95 yJ9_min_7cf53 ∈ wAll := wAll_of 574 (by decide +kernel) rfl
theorem qw537 : Cond.methodLink RX2 114 yX0_note ∈ wAll := wAll_of 575 (by decide +kernel) rfl
theorem qw538 : Cond.instanceMethod yX0_note ∈ wAll := wAll_of 576 (by decide +kernel) rfl
theorem qw539 : Cond.selects RX0 yX0_note yX0_note ∈ wAll := wAll_of 577 (by decide +kernel) rfl
theorem qw540 : Cond.code yX0_note cX0_note 4 none ∈ wAll := wAll_of 578 (by decide +kernel) rfl
theorem qn541 : Cond.methodLinkNest RX0 45 yX4_put "RopeTackle" ∈ tables_1 := wNest_of 541 (by decide +kernel)
theorem qw542 : Cond.methodLink RX0 49 yJ9_min_7cf53 ∈ wAll := wAll_of 580 (by decide +kernel) rfl
theorem qw543 : Cond.methodLink RL 113 yL_letOut ∈ wAll := wAll_of 581 (by decide +kernel) rfl
theorem qw544 : Cond.static yL_letOut ∈ wAll := wAll_of 582 (by decide +kernel) rfl
theorem qw545 : Cond.codeWith yL_letOut cL_letOut 5 (some FieldType.int) [(0, 10, 13, 15)] ∈ wAll := wAll_of 583 (by decide +kernel) rfl
theorem qw546 : Cond.methodLink RL 39 yX4_letOut ∈ wAll := wAll_of 584 (by decide +kernel) rfl
theorem qw547 : Cond.instanceMethod yX4_letOut ∈ wAll := wAll_of 585 (by decide +kernel) rfl
theorem qw548 : Cond.selects RX4 yX4_letOut yX4_letOut ∈ wAll := wAll_of 586 (by decide +kernel) rfl
theorem qw549 : Cond.code yX4_letOut cX4_letOut 3 (some FieldType.int) ∈ wAll := wAll_of 587 (by decide +kernel) rfl
theorem qw550 : Cond.methodLink RX4 116 yX2_moveDown ∈ wAll := wAll_of 588 (by decide +kernel) rfl
theorem qw551 : Cond.instanceMethod yX2_moveDown ∈ wAll := wAll_of 589 (by decide +kernel) rfl
theorem qw552 : Cond.selects RX2 yX2_moveDown yX2_moveDown ∈ wAll := wAll_of 590 (by decide +kernel) rfl
theorem qw553 : Cond.code yX2_moveDown cX2_moveDown 3 (some FieldType.int) ∈ wAll := wAll_of 591 (by decide +kernel) rfl
theorem qw554 : Cond.methodLink RX2 92 yX2_inHand ∈ wAll := wAll_of 592 (by decide +kernel) rfl
theorem qw555 : Cond.methodLink RL 116 yL_block ∈ wAll := wAll_of 593 (by decide +kernel) rfl
theorem qw556 : Cond.static yL_block ∈ wAll := wAll_of 594 (by decide +kernel) rfl
theorem qw557 : Cond.codeWith yL_block cL_block 5 (some FieldType.int) [(0, 10, 13, 13), (0, 10, 17, 15)] ∈ wAll := wAll_of 595 (by decide +kernel) rfl
theorem qw558 : Cond.methodLink RL 42 yX4_block ∈ wAll := wAll_of 596 (by decide +kernel) rfl
theorem qw559 : Cond.methodLink RL 119 yL_pulley ∈ wAll := wAll_of 597 (by decide +kernel) rfl
theorem qw560 : Cond.static yL_pulley ∈ wAll := wAll_of 598 (by decide +kernel) rfl
theorem qw561 : Cond.codeWith yL_pulley cL_pulley 4 (some FieldType.int) [(0, 9, 12, 13)] ∈ wAll := wAll_of 599 (by decide +kernel) rfl
theorem qw562 : Cond.methodLink RL 45 yX4_pulley ∈ wAll := wAll_of 600 (by decide +kernel) rfl
theorem qw563 : Cond.instanceMethod yX4_pulley ∈ wAll := wAll_of 601 (by decide +kernel) rfl
theorem qw564 : Cond.selects RX4 yX4_pulley yX4_pulley ∈ wAll := wAll_of 602 (by decide +kernel) rfl
theorem qw565 : Cond.code yX4_pulley cX4_pulley 2 (some FieldType.int) ∈ wAll := wAll_of 603 (by decide +kernel) rfl
theorem qw566 : Cond.methodLink RX4 137 yX4_checkPulley ∈ wAll := wAll_of 604 (by decide +kernel) rfl
theorem qw568 : Cond.instanceMethod yX4_checkPulley ∈ wAll := wAll_of 606 (by decide +kernel) rfl
theorem qw569 : Cond.code yX4_checkPulley cX4_checkPulley 2 none ∈ wAll := wAll_of 607 (by decide +kernel) rfl
theorem qw571 : Cond.methodLink RL 122 yL_force ∈ wAll := wAll_of 609 (by decide +kernel) rfl
theorem qw572 : Cond.static yL_force ∈ wAll := wAll_of 610 (by decide +kernel) rfl
theorem qw573 : Cond.codeWith yL_force cL_force 6 (some FieldType.int) [(0, 11, 14, 15)] ∈ wAll := wAll_of 611 (by decide +kernel) rfl
theorem qw574 : Cond.methodLink RL 48 yX4_force ∈ wAll := wAll_of 612 (by decide +kernel) rfl
theorem qw575 : Cond.instanceMethod yX4_force ∈ wAll := wAll_of 613 (by decide +kernel) rfl
theorem qw576 : Cond.selects RX4 yX4_force yX4_force ∈ wAll := wAll_of 614 (by decide +kernel) rfl
theorem qw577 : Cond.code yX4_force cX4_force 4 (some FieldType.long) ∈ wAll := wAll_of 615 (by decide +kernel) rfl
theorem qw578 : Cond.methodLink RX4 151 yX1_forceBehind ∈ wAll := wAll_of 616 (by decide +kernel) rfl
theorem qw579 : Cond.instanceMethod yX1_forceBehind ∈ wAll := wAll_of 617 (by decide +kernel) rfl
theorem qw580 : Cond.selects RX1 yX1_forceBehind yX1_forceBehind ∈ wAll := wAll_of 618 (by decide +kernel) rfl
theorem qw581 : Cond.code yX1_forceBehind cX1_forceBehind 7 (some FieldType.long) ∈ wAll := wAll_of 619 (by decide +kernel) rfl
theorem qw582 : Cond.methodLink RL 126 yL_pull ∈ wAll := wAll_of 620 (by decide +kernel) rfl
theorem qw583 : Cond.static yL_pull ∈ wAll := wAll_of 621 (by decide +kernel) rfl
theorem qw584 : Cond.codeWith yL_pull cL_pull 6 (some FieldType.int) [(0, 11, 14, 13), (0, 11, 18, 15)] ∈ wAll := wAll_of 622 (by decide +kernel) rfl
theorem qw585 : Cond.methodLink RL 52 yX4_pull ∈ wAll := wAll_of 623 (by decide +kernel) rfl
theorem qw586 : Cond.instanceMethod yX4_pull ∈ wAll := wAll_of 624 (by decide +kernel) rfl
theorem qw587 : Cond.selects RX4 yX4_pull yX4_pull ∈ wAll := wAll_of 625 (by decide +kernel) rfl
theorem qw588 : Cond.code yX4_pull cX4_pull 4 (some FieldType.long) ∈ wAll := wAll_of 626 (by decide +kernel) rfl
theorem qw589 : Cond.methodLink RX4 155 yX1_pullOn ∈ wAll := wAll_of 627 (by decide +kernel) rfl
theorem qw590 : Cond.methodLink RL 129 yL_value ∈ wAll := wAll_of 628 (by decide +kernel) rfl
theorem qw591 : Cond.static yL_value ∈ wAll := wAll_of 629 (by decide +kernel) rfl
theorem qw592 : Cond.codeWith yL_value cL_value 4 (some FieldType.int) [(0, 9, 12, 15)] ∈ wAll := wAll_of 630 (by decide +kernel) rfl
theorem qw593 : Cond.methodLink RL 55 yX4_value ∈ wAll := wAll_of 631 (by decide +kernel) rfl
theorem qw594 : Cond.methodLink RL 137 yL_entry ∈ wAll := wAll_of 632 (by decide +kernel) rfl
theorem qw595 : Cond.static yL_entry ∈ wAll := wAll_of 633 (by decide +kernel) rfl
theorem qw596 : Cond.codeWith yL_entry cL_entry 5 (some FieldType.int) [(0, 10, 13, 13), (0, 10, 17, 15)] ∈ wAll := wAll_of 634 (by decide +kernel) rfl
theorem qw597 : Cond.methodLink RL 58 yX4_entry ∈ wAll := wAll_of 635 (by decide +kernel) rfl
theorem qw598 : Cond.instanceMethod yX4_entry ∈ wAll := wAll_of 636 (by decide +kernel) rfl
theorem qw599 : Cond.selects RX4 yX4_entry yX4_entry ∈ wAll := wAll_of 637 (by decide +kernel) rfl
theorem qw600 : Cond.code yX4_entry cX4_entry 3 (some FieldType.int) ∈ wAll := wAll_of 638 (by decide +kernel) rfl
theorem qw602 : Cond.methodLink RL 148 yL_pulleysFor ∈ wAll := wAll_of 640 (by decide +kernel) rfl
theorem qw603 : Cond.static yL_pulleysFor ∈ wAll := wAll_of 641 (by decide +kernel) rfl
theorem qw604 : Cond.codeWith yL_pulleysFor cL_pulleysFor 5 (some FieldType.int) [(0, 10, 13, 13), (0, 10, 17, 15)] ∈ wAll := wAll_of 642 (by decide +kernel) rfl
theorem qw605 : Cond.methodLink RL 61 yX4_pulleysFor ∈ wAll := wAll_of 643 (by decide +kernel) rfl
theorem qw606 : Cond.instanceMethod yX4_pulleysFor ∈ wAll := wAll_of 644 (by decide +kernel) rfl
theorem qw607 : Cond.selects RX4 yX4_pulleysFor yX4_pulleysFor ∈ wAll := wAll_of 645 (by decide +kernel) rfl
theorem qw608 : Cond.code yX4_pulleysFor cX4_pulleysFor 4 (some FieldType.int) ∈ wAll := wAll_of 646 (by decide +kernel) rfl
theorem qw609 : Cond.methodLink RX4 202 yX1_unreeve ∈ wAll := wAll_of 647 (by decide +kernel) rfl
theorem qw610 : Cond.methodLink RL 151 yL_bestEnd ∈ wAll := wAll_of 648 (by decide +kernel) rfl
theorem qw611 : Cond.static yL_bestEnd ∈ wAll := wAll_of 649 (by decide +kernel) rfl
theorem qw612 : Cond.codeWith yL_bestEnd cL_bestEnd 4 (some FieldType.int) [(0, 9, 12, 13)] ∈ wAll := wAll_of 650 (by decide +kernel) rfl
theorem qw613 : Cond.methodLink RL 64 yX4_bestEnd ∈ wAll := wAll_of 651 (by decide +kernel) rfl
theorem qw614 : Cond.instanceMethod yX4_bestEnd ∈ wAll := wAll_of 652 (by decide +kernel) rfl
theorem qw615 : Cond.selects RX4 yX4_bestEnd yX4_bestEnd ∈ wAll := wAll_of 653 (by decide +kernel) rfl
theorem qw616 : Cond.code yX4_bestEnd cX4_bestEnd 6 (some FieldType.int) ∈ wAll := wAll_of 654 (by decide +kernel) rfl
theorem qw617 : Cond.methodLink RL 154 yL_swapped ∈ wAll := wAll_of 655 (by decide +kernel) rfl
theorem qw618 : Cond.static yL_swapped ∈ wAll := wAll_of 656 (by decide +kernel) rfl
theorem qw619 : Cond.codeWith yL_swapped cL_swapped 6 (some FieldType.int) [(0, 12, 15, 13)] ∈ wAll := wAll_of 657 (by decide +kernel) rfl
theorem qw620 : Cond.methodLink RL 67 yX4_swapped ∈ wAll := wAll_of 658 (by decide +kernel) rfl
theorem qw621 : Cond.instanceMethod yX4_swapped ∈ wAll := wAll_of 659 (by decide +kernel) rfl
theorem qw622 : Cond.selects RX4 yX4_swapped yX4_swapped ∈ wAll := wAll_of 660 (by decide +kernel) rfl
theorem qw623 : Cond.code yX4_swapped cX4_swapped 4 (some FieldType.int) ∈ wAll := wAll_of 661 (by decide +kernel) rfl
theorem qw624 : Cond.methodLink RX4 205 yX1_swap ∈ wAll := wAll_of 662 (by decide +kernel) rfl
theorem qw625 : Cond.instanceMethod yX1_swap ∈ wAll := wAll_of 663 (by decide +kernel) rfl
theorem qw626 : Cond.selects RX1 yX1_swap yX1_swap ∈ wAll := wAll_of 664 (by decide +kernel) rfl
theorem qw627 : Cond.code yX1_swap cX1_swap 4 none ∈ wAll := wAll_of 665 (by decide +kernel) rfl
theorem qw628 : Cond.methodLink RL 158 yL_riseBy ∈ wAll := wAll_of 666 (by decide +kernel) rfl
theorem qw629 : Cond.static yL_riseBy ∈ wAll := wAll_of 667 (by decide +kernel) rfl
theorem qw630 : Cond.codeWith yL_riseBy cL_riseBy 6 (some FieldType.int) [(0, 12, 15, 13), (0, 12, 19, 15)] ∈ wAll := wAll_of 668 (by decide +kernel) rfl
theorem qw631 : Cond.methodLink RL 71 yX4_riseBy ∈ wAll := wAll_of 669 (by decide +kernel) rfl
theorem qw632 : Cond.instanceMethod yX4_riseBy ∈ wAll := wAll_of 670 (by decide +kernel) rfl
theorem qw633 : Cond.selects RX4 yX4_riseBy yX4_riseBy ∈ wAll := wAll_of 671 (by decide +kernel) rfl
theorem qw634 : Cond.code yX4_riseBy cX4_riseBy 4 (some FieldType.int) ∈ wAll := wAll_of 672 (by decide +kernel) rfl
theorem qw635 : Cond.methodLink RL 166 yL_append ∈ wAll := wAll_of 673 (by decide +kernel) rfl
theorem qw636 : Cond.static yL_append ∈ wAll := wAll_of 674 (by decide +kernel) rfl
theorem qw637 : Cond.codeWith yL_append cL_append 4 (some FieldType.int) [(0, 9, 12, 15), (0, 9, 15, 24)] ∈ wAll := wAll_of 675 (by decide +kernel) rfl
theorem qw638 : Cond.methodLink RL 74 yX4_append ∈ wAll := wAll_of 676 (by decide +kernel) rfl
theorem qw639 : Cond.instanceMethod yX4_append ∈ wAll := wAll_of 677 (by decide +kernel) rfl
theorem qw640 : Cond.selects RX4 yX4_append yX4_append ∈ wAll := wAll_of 678 (by decide +kernel) rfl
theorem qw641 : Cond.code yX4_append cX4_append 2 (some FieldType.int) ∈ wAll := wAll_of 679 (by decide +kernel) rfl
theorem qw643 : Cond.methodLink RX4 216 yX4_put ∈ wAll := wAll_of 681 (by decide +kernel) rfl
theorem qw644 : Cond.methodLink RL 177 yL_undo ∈ wAll := wAll_of 682 (by decide +kernel) rfl
theorem qw645 : Cond.static yL_undo ∈ wAll := wAll_of 683 (by decide +kernel) rfl
theorem qw646 : Cond.codeWith yL_undo cL_undo 3 (some FieldType.int) [(0, 8, 11, 24)] ∈ wAll := wAll_of 684 (by decide +kernel) rfl
theorem qw647 : Cond.methodLink RL 77 yX4_undo ∈ wAll := wAll_of 685 (by decide +kernel) rfl
theorem qw648 : Cond.instanceMethod yX4_undo ∈ wAll := wAll_of 686 (by decide +kernel) rfl
theorem qw649 : Cond.selects RX4 yX4_undo yX4_undo ∈ wAll := wAll_of 687 (by decide +kernel) rfl
theorem qw650 : Cond.code yX4_undo cX4_undo 2 (some FieldType.int) ∈ wAll := wAll_of 688 (by decide +kernel) rfl
theorem qw652 : Cond.classLink RL 81 "RopeTackleModel" ∈ wAll := wAll_of 690 (by decide +kernel) rfl
theorem qw653 : Cond.instantiable RX5 14 ∈ wAll := wAll_of 691 (by decide +kernel) rfl
theorem qw654 : Cond.methodLink RL 83 yX5_init ∈ wAll := wAll_of 692 (by decide +kernel) rfl
theorem qw655 : Cond.instanceMethod yX5_init ∈ wAll := wAll_of 693 (by decide +kernel) rfl
theorem qw656 : Cond.code yX5_init cX5_init 2 none ∈ wAll := wAll_of 694 (by decide +kernel) rfl
theorem qw657 : Cond.methodLink RX5 1 ⟨"java/lang/Object", "<init>", "()V"⟩ ∈ wAll := wAll_of 695 (by decide +kernel) rfl
theorem qw658 : Cond.constantLong RX5 29 (60000 : Int64) ∈ wAll := wAll_of 696 (by decide +kernel) rfl
theorem qw659 : Cond.constantLong RX5 31 (10 : Int64) ∈ wAll := wAll_of 697 (by decide +kernel) rfl
theorem qw660 : Cond.constantLong RX5 33 (4 : Int64) ∈ wAll := wAll_of 698 (by decide +kernel) rfl
theorem qw661 : Cond.constantLong RX5 35 (1000 : Int64) ∈ wAll := wAll_of 699 (by decide +kernel) rfl
theorem qw662 : Cond.fieldLink RX5 7 "RopeTackleModel" "s" "[J" ∈ wAll := wAll_of 700 (by decide +kernel) rfl
theorem qw663 : Cond.fieldLink RX5 13 "RopeTackleModel" "past" "[J" ∈ wAll := wAll_of 701 (by decide +kernel) rfl
theorem qw664 : Cond.fieldLink RX5 16 "RopeTackleModel" "aside" "[J" ∈ wAll := wAll_of 702 (by decide +kernel) rfl
theorem qw665 : Cond.fieldLink RX5 49 "RopeTackleModel" "saved" "I" ∈ wAll := wAll_of 703 (by decide +kernel) rfl
theorem qw666 : Cond.fieldLink RX5 19 "RopeTackleModel" "text" "[I" ∈ wAll := wAll_of 704 (by decide +kernel) rfl
theorem qw667 : Cond.fieldLink RX5 166 "RopeTackleModel" "length" "I" ∈ wAll := wAll_of 705 (by decide +kernel) rfl
theorem qw668 : Cond.fieldLink RX5 37 "RopeTackleModel" "thrown" "I" ∈ wAll := wAll_of 706 (by decide +kernel) rfl
theorem qw669 : Cond.fieldLink RX5 169 "RopeTackleModel" "at" "I" ∈ wAll := wAll_of 707 (by decide +kernel) rfl
theorem qw670 : Cond.fieldLink RX5 180 "RopeTackleModel" "readMany" "I" ∈ wAll := wAll_of 708 (by decide +kernel) rfl
theorem qw671 : Cond.fieldLink RX5 23 "RopeTackleModel" "readRow" "[I" ∈ wAll := wAll_of 709 (by decide +kernel) rfl
theorem qw672 : Cond.fieldLink RX5 183 "RopeTackleModel" "readEnd" "I" ∈ wAll := wAll_of 710 (by decide +kernel) rfl
theorem qw673 : Cond.fieldLink RX5 176 "RopeTackleModel" "readWeights" "I" ∈ wAll := wAll_of 711 (by decide +kernel) rfl
theorem qw674 : Cond.fieldLink RX5 26 "RopeTackleModel" "readWeight" "[I" ∈ wAll := wAll_of 712 (by decide +kernel) rfl
theorem qw675 : Cond.fieldLink RX5 195 "RopeTackleModel" "h" "J" ∈ wAll := wAll_of 713 (by decide +kernel) rfl
theorem qw676 : Cond.laysFinal RX5 "RopeTackleModel" "s" "[J" ∈ wAll := wAll_of 714 (by decide +kernel) rfl
theorem qw678 : Cond.laysFinal RX5 "RopeTackleModel" "past" "[J" ∈ wAll := wAll_of 716 (by decide +kernel) rfl
theorem qw680 : Cond.laysFinal RX5 "RopeTackleModel" "aside" "[J" ∈ wAll := wAll_of 718 (by decide +kernel) rfl
theorem qw682 : Cond.lays RX5 "RopeTackleModel" "saved" "I" ∈ wAll := wAll_of 720 (by decide +kernel) rfl
theorem qw684 : Cond.laysFinal RX5 "RopeTackleModel" "text" "[I" ∈ wAll := wAll_of 722 (by decide +kernel) rfl
theorem qw686 : Cond.lays RX5 "RopeTackleModel" "length" "I" ∈ wAll := wAll_of 724 (by decide +kernel) rfl
theorem qw688 : Cond.lays RX5 "RopeTackleModel" "thrown" "I" ∈ wAll := wAll_of 726 (by decide +kernel) rfl
theorem qw690 : Cond.lays RX5 "RopeTackleModel" "at" "I" ∈ wAll := wAll_of 728 (by decide +kernel) rfl
theorem qw692 : Cond.lays RX5 "RopeTackleModel" "readMany" "I" ∈ wAll := wAll_of 730 (by decide +kernel) rfl
theorem qw694 : Cond.laysFinal RX5 "RopeTackleModel" "readRow" "[I" ∈ wAll := wAll_of 732 (by decide +kernel) rfl
theorem qw696 : Cond.lays RX5 "RopeTackleModel" "readEnd" "I" ∈ wAll := wAll_of 734 (by decide +kernel) rfl
theorem qw698 : Cond.lays RX5 "RopeTackleModel" "readWeights" "I" ∈ wAll := wAll_of 736 (by decide +kernel) rfl
theorem qw700 : Cond.laysFinal RX5 "RopeTackleModel" "readWeight" "[I" ∈ wAll := wAll_of 738 (by decide +kernel) rfl
theorem qw702 : Cond.lays RX5 "RopeTackleModel" "h" "J" ∈ wAll := wAll_of 740 (by decide +kernel) rfl
theorem qw705 : Cond.arrayClass FieldType.long ∈ wAll := wAll_of 743 (by decide +kernel) rfl
theorem qw706 : Cond.methodLink RL 90 yX5_thrown ∈ wAll := wAll_of 744 (by decide +kernel) rfl
theorem qw707 : Cond.instanceMethod yX5_thrown ∈ wAll := wAll_of 745 (by decide +kernel) rfl
theorem qw708 : Cond.selects RX5 yX5_thrown yX5_thrown ∈ wAll := wAll_of 746 (by decide +kernel) rfl
theorem qw709 : Cond.code yX5_thrown cX5_thrown 1 (some FieldType.int) ∈ wAll := wAll_of 747 (by decide +kernel) rfl
theorem qw710 : Cond.methodLink RL 89 yX5_setWeight ∈ wAll := wAll_of 748 (by decide +kernel) rfl
theorem qw711 : Cond.instanceMethod yX5_setWeight ∈ wAll := wAll_of 749 (by decide +kernel) rfl
theorem qw712 : Cond.selects RX5 yX5_setWeight yX5_setWeight ∈ wAll := wAll_of 750 (by decide +kernel) rfl
theorem qw713 : Cond.code yX5_setWeight cX5_setWeight 3 (some FieldType.int) ∈ wAll := wAll_of 751 (by decide +kernel) rfl
theorem qw714 : Cond.methodLink RX5 81 yX5_isBlock ∈ wAll := wAll_of 752 (by decide +kernel) rfl
theorem qw715 : Cond.static yX5_isBlock ∈ wAll := wAll_of 753 (by decide +kernel) rfl
theorem qw716 : Cond.code yX5_isBlock cX5_isBlock 1 (some FieldType.boolean) ∈ wAll := wAll_of 754 (by decide +kernel) rfl
theorem qw717 : Cond.constantLong RX5 41 (3 : Int64) ∈ wAll := wAll_of 755 (by decide +kernel) rfl
theorem qw718 : Cond.methodLink RX5 43 yX5_in ∈ wAll := wAll_of 756 (by decide +kernel) rfl
theorem qw719 : Cond.static yX5_in ∈ wAll := wAll_of 757 (by decide +kernel) rfl
theorem qw720 : Cond.code yX5_in cX5_in 6 (some FieldType.boolean) ∈ wAll := wAll_of 758 (by decide +kernel) rfl
theorem qw721 : Cond.methodLink RX5 85 yX5_fails ∈ wAll := wAll_of 759 (by decide +kernel) rfl
theorem qw723 : Cond.instanceMethod yX5_fails ∈ wAll := wAll_of 761 (by decide +kernel) rfl
theorem qw724 : Cond.code yX5_fails cX5_fails 2 (some FieldType.int) ∈ wAll := wAll_of 762 (by decide +kernel) rfl
theorem qw725 : Cond.constantLong RX5 88 (50000 : Int64) ∈ wAll := wAll_of 763 (by decide +kernel) rfl
theorem qw726 : Cond.methodLink RX5 90 yX5_puts ∈ wAll := wAll_of 764 (by decide +kernel) rfl
theorem qw728 : Cond.instanceMethod yX5_puts ∈ wAll := wAll_of 766 (by decide +kernel) rfl
theorem qw729 : Cond.code yX5_puts cX5_puts 4 (some FieldType.int) ∈ wAll := wAll_of 767 (by decide +kernel) rfl
theorem qw730 : Cond.methodLink RX5 75 yX5_saves ∈ wAll := wAll_of 768 (by decide +kernel) rfl
theorem qw732 : Cond.instanceMethod yX5_saves ∈ wAll := wAll_of 770 (by decide +kernel) rfl
theorem qw733 : Cond.code yX5_saves cX5_saves 2 none ∈ wAll := wAll_of 771 (by decide +kernel) rfl
theorem qw734 : Cond.methodLink RX5 78 yX5_tells ∈ wAll := wAll_of 772 (by decide +kernel) rfl
theorem qw736 : Cond.instanceMethod yX5_tells ∈ wAll := wAll_of 774 (by decide +kernel) rfl
theorem qw737 : Cond.code yX5_tells cX5_tells 2 (some FieldType.int) ∈ wAll := wAll_of 775 (by decide +kernel) rfl
theorem qw738 : Cond.methodLink RL 96 yX5_setFriction ∈ wAll := wAll_of 776 (by decide +kernel) rfl
theorem qw739 : Cond.instanceMethod yX5_setFriction ∈ wAll := wAll_of 777 (by decide +kernel) rfl
theorem qw740 : Cond.selects RX5 yX5_setFriction yX5_setFriction ∈ wAll := wAll_of 778 (by decide +kernel) rfl
theorem qw741 : Cond.code yX5_setFriction cX5_setFriction 2 (some FieldType.int) ∈ wAll := wAll_of 779 (by decide +kernel) rfl
theorem qw742 : Cond.constantLong RX5 94 (30 : Int64) ∈ wAll := wAll_of 780 (by decide +kernel) rfl
theorem qw743 : Cond.methodLink RL 99 yX5_setLength ∈ wAll := wAll_of 781 (by decide +kernel) rfl
theorem qw744 : Cond.instanceMethod yX5_setLength ∈ wAll := wAll_of 782 (by decide +kernel) rfl
theorem qw745 : Cond.selects RX5 yX5_setLength yX5_setLength ∈ wAll := wAll_of 783 (by decide +kernel) rfl
theorem qw746 : Cond.code yX5_setLength cX5_setLength 2 (some FieldType.int) ∈ wAll := wAll_of 784 (by decide +kernel) rfl
theorem qw747 : Cond.constantLong RX5 96 (300000 : Int64) ∈ wAll := wAll_of 785 (by decide +kernel) rfl
theorem qw748 : Cond.methodLink RX5 59 yX5_hanging ∈ wAll := wAll_of 786 (by decide +kernel) rfl
theorem qw750 : Cond.instanceMethod yX5_hanging ∈ wAll := wAll_of 788 (by decide +kernel) rfl
theorem qw751 : Cond.code yX5_hanging cX5_hanging 3 (some FieldType.int) ∈ wAll := wAll_of 789 (by decide +kernel) rfl
theorem qw752 : Cond.methodLink RX5 56 yX5_strands ∈ wAll := wAll_of 790 (by decide +kernel) rfl
theorem qw754 : Cond.instanceMethod yX5_strands ∈ wAll := wAll_of 792 (by decide +kernel) rfl
theorem qw755 : Cond.code yX5_strands cX5_strands 2 (some FieldType.int) ∈ wAll := wAll_of 793 (by decide +kernel) rfl
theorem qw756 : Cond.methodLink RX5 52 yX5_pulleysOn ∈ wAll := wAll_of 794 (by decide +kernel) rfl
theorem qw758 : Cond.instanceMethod yX5_pulleysOn ∈ wAll := wAll_of 796 (by decide +kernel) rfl
theorem qw759 : Cond.code yX5_pulleysOn cX5_pulleysOn 4 (some FieldType.int) ∈ wAll := wAll_of 797 (by decide +kernel) rfl
theorem qw760 : Cond.methodLink RX5 98 yX5_inHand ∈ wAll := wAll_of 798 (by decide +kernel) rfl
theorem qw762 : Cond.instanceMethod yX5_inHand ∈ wAll := wAll_of 800 (by decide +kernel) rfl
theorem qw763 : Cond.code yX5_inHand cX5_inHand 1 (some FieldType.int) ∈ wAll := wAll_of 801 (by decide +kernel) rfl
theorem qw764 : Cond.methodLink RL 102 yX5_addPulley ∈ wAll := wAll_of 802 (by decide +kernel) rfl
theorem qw765 : Cond.instanceMethod yX5_addPulley ∈ wAll := wAll_of 803 (by decide +kernel) rfl
theorem qw766 : Cond.selects RX5 yX5_addPulley yX5_addPulley ∈ wAll := wAll_of 804 (by decide +kernel) rfl
theorem qw767 : Cond.code yX5_addPulley cX5_addPulley 2 (some FieldType.int) ∈ wAll := wAll_of 805 (by decide +kernel) rfl
theorem qw768 : Cond.constantLong RX5 101 (2 : Int64) ∈ wAll := wAll_of 806 (by decide +kernel) rfl
theorem qw769 : Cond.constantLong RX5 103 (10000 : Int64) ∈ wAll := wAll_of 807 (by decide +kernel) rfl
theorem qw770 : Cond.methodLink RL 106 yX5_takePulley ∈ wAll := wAll_of 808 (by decide +kernel) rfl
theorem qw771 : Cond.instanceMethod yX5_takePulley ∈ wAll := wAll_of 809 (by decide +kernel) rfl
theorem qw772 : Cond.selects RX5 yX5_takePulley yX5_takePulley ∈ wAll := wAll_of 810 (by decide +kernel) rfl
theorem qw773 : Cond.code yX5_takePulley cX5_takePulley 1 (some FieldType.int) ∈ wAll := wAll_of 811 (by decide +kernel) rfl
theorem qw774 : Cond.methodLink RL 109 yX5_setEnd ∈ wAll := wAll_of 812 (by decide +kernel) rfl
theorem qw775 : Cond.instanceMethod yX5_setEnd ∈ wAll := wAll_of 813 (by decide +kernel) rfl
theorem qw776 : Cond.selects RX5 yX5_setEnd yX5_setEnd ∈ wAll := wAll_of 814 (by decide +kernel) rfl
theorem qw777 : Cond.code yX5_setEnd cX5_setEnd 2 (some FieldType.int) ∈ wAll := wAll_of 815 (by decide +kernel) rfl
theorem qw778 : Cond.methodLink RX5 105 yX5_endStrand ∈ wAll := wAll_of 816 (by decide +kernel) rfl
theorem qw780 : Cond.instanceMethod yX5_endStrand ∈ wAll := wAll_of 818 (by decide +kernel) rfl
theorem qw781 : Cond.code yX5_endStrand cX5_endStrand 2 (some FieldType.int) ∈ wAll := wAll_of 819 (by decide +kernel) rfl
theorem qw782 : Cond.methodLink RL 112 yX5_haul ∈ wAll := wAll_of 820 (by decide +kernel) rfl
theorem qw783 : Cond.instanceMethod yX5_haul ∈ wAll := wAll_of 821 (by decide +kernel) rfl
theorem qw784 : Cond.selects RX5 yX5_haul yX5_haul ∈ wAll := wAll_of 822 (by decide +kernel) rfl
theorem qw785 : Cond.code yX5_haul cX5_haul 3 (some FieldType.int) ∈ wAll := wAll_of 823 (by decide +kernel) rfl
theorem qw786 : Cond.methodLink RX5 127 yX5_isForce ∈ wAll := wAll_of 824 (by decide +kernel) rfl
theorem qw787 : Cond.static yX5_isForce ∈ wAll := wAll_of 825 (by decide +kernel) rfl
theorem qw788 : Cond.code yX5_isForce cX5_isForce 1 (some FieldType.boolean) ∈ wAll := wAll_of 826 (by decide +kernel) rfl
theorem qw789 : Cond.constantLong RX5 47 (1000000 : Int64) ∈ wAll := wAll_of 827 (by decide +kernel) rfl
theorem qw790 : Cond.constantLong RX5 130 (100000 : Int64) ∈ wAll := wAll_of 828 (by decide +kernel) rfl
theorem qw791 : Cond.methodLink RX5 132 yX5_hauls ∈ wAll := wAll_of 829 (by decide +kernel) rfl
theorem qw793 : Cond.instanceMethod yX5_hauls ∈ wAll := wAll_of 831 (by decide +kernel) rfl
theorem qw794 : Cond.code yX5_hauls cX5_hauls 6 (some FieldType.int) ∈ wAll := wAll_of 832 (by decide +kernel) rfl
theorem qw795 : Cond.methodLink RX5 116 yX5_riser ∈ wAll := wAll_of 833 (by decide +kernel) rfl
theorem qw797 : Cond.instanceMethod yX5_riser ∈ wAll := wAll_of 835 (by decide +kernel) rfl
theorem qw798 : Cond.code yX5_riser cX5_riser 7 (some FieldType.int) ∈ wAll := wAll_of 836 (by decide +kernel) rfl
theorem qw799 : Cond.constantLong RX5 110 (9000 : Int64) ∈ wAll := wAll_of 837 (by decide +kernel) rfl
theorem qw800 : Cond.methodLink RX5 112 yX5_least ∈ wAll := wAll_of 838 (by decide +kernel) rfl
theorem qw802 : Cond.instanceMethod yX5_least ∈ wAll := wAll_of 840 (by decide +kernel) rfl
theorem qw803 : Cond.code yX5_least cX5_least 6 (some FieldType.int) ∈ wAll := wAll_of 841 (by decide +kernel) rfl
theorem qw804 : Cond.constant RX5 69 (1000000 : Int32) ∈ wAll := wAll_of 842 (by decide +kernel) rfl
theorem qw805 : Cond.methodLink RX5 70 yX5_pullOn ∈ wAll := wAll_of 843 (by decide +kernel) rfl
theorem qw807 : Cond.instanceMethod yX5_pullOn ∈ wAll := wAll_of 845 (by decide +kernel) rfl
theorem qw808 : Cond.code yX5_pullOn cX5_pullOn 11 (some FieldType.long) ∈ wAll := wAll_of 846 (by decide +kernel) rfl
theorem qw809 : Cond.methodLink RX5 65 yX5_behind ∈ wAll := wAll_of 847 (by decide +kernel) rfl
theorem qw811 : Cond.instanceMethod yX5_behind ∈ wAll := wAll_of 849 (by decide +kernel) rfl
theorem qw812 : Cond.code yX5_behind cX5_behind 6 (some FieldType.long) ∈ wAll := wAll_of 850 (by decide +kernel) rfl
theorem qw813 : Cond.constantLong RX5 63 (100 : Int64) ∈ wAll := wAll_of 851 (by decide +kernel) rfl
theorem qw814 : Cond.constant RX5 74 (524288 : Int32) ∈ wAll := wAll_of 852 (by decide +kernel) rfl
theorem qw815 : Cond.methodLink RX5 119 yX5_lesser ∈ wAll := wAll_of 853 (by decide +kernel) rfl
theorem qw816 : Cond.static yX5_lesser ∈ wAll := wAll_of 854 (by decide +kernel) rfl
theorem qw817 : Cond.code yX5_lesser cX5_lesser 4 (some FieldType.int) ∈ wAll := wAll_of 855 (by decide +kernel) rfl
theorem qw818 : Cond.methodLink RX5 123 yX5_enters ∈ wAll := wAll_of 856 (by decide +kernel) rfl
theorem qw820 : Cond.instanceMethod yX5_enters ∈ wAll := wAll_of 858 (by decide +kernel) rfl
theorem qw821 : Cond.code yX5_enters cX5_enters 5 none ∈ wAll := wAll_of 859 (by decide +kernel) rfl
theorem qw822 : Cond.constantLong RX5 108 (16 : Int64) ∈ wAll := wAll_of 860 (by decide +kernel) rfl
theorem qw823 : Cond.methodLink RL 115 yX5_letOut ∈ wAll := wAll_of 861 (by decide +kernel) rfl
theorem qw824 : Cond.instanceMethod yX5_letOut ∈ wAll := wAll_of 862 (by decide +kernel) rfl
theorem qw825 : Cond.selects RX5 yX5_letOut yX5_letOut ∈ wAll := wAll_of 863 (by decide +kernel) rfl
theorem qw826 : Cond.code yX5_letOut cX5_letOut 7 (some FieldType.int) ∈ wAll := wAll_of 864 (by decide +kernel) rfl
theorem qw827 : Cond.methodLink RX5 135 yX5_sinker ∈ wAll := wAll_of 865 (by decide +kernel) rfl
theorem qw829 : Cond.instanceMethod yX5_sinker ∈ wAll := wAll_of 867 (by decide +kernel) rfl
theorem qw830 : Cond.code yX5_sinker cX5_sinker 6 (some FieldType.int) ∈ wAll := wAll_of 868 (by decide +kernel) rfl
theorem qw831 : Cond.methodLink RL 118 yX5_block ∈ wAll := wAll_of 869 (by decide +kernel) rfl
theorem qw832 : Cond.instanceMethod yX5_block ∈ wAll := wAll_of 870 (by decide +kernel) rfl
theorem qw833 : Cond.selects RX5 yX5_block yX5_block ∈ wAll := wAll_of 871 (by decide +kernel) rfl
theorem qw834 : Cond.code yX5_block cX5_block 3 (some FieldType.int) ∈ wAll := wAll_of 872 (by decide +kernel) rfl
theorem qw835 : Cond.constantLong RX5 138 (6 : Int64) ∈ wAll := wAll_of 873 (by decide +kernel) rfl
theorem qw836 : Cond.methodLink RX5 140 yX5_blockTold ∈ wAll := wAll_of 874 (by decide +kernel) rfl
theorem qw838 : Cond.instanceMethod yX5_blockTold ∈ wAll := wAll_of 876 (by decide +kernel) rfl
theorem qw839 : Cond.code yX5_blockTold cX5_blockTold 3 (some FieldType.int) ∈ wAll := wAll_of 877 (by decide +kernel) rfl
theorem qw840 : Cond.methodLink RL 121 yX5_pulley ∈ wAll := wAll_of 878 (by decide +kernel) rfl
theorem qw841 : Cond.instanceMethod yX5_pulley ∈ wAll := wAll_of 879 (by decide +kernel) rfl
theorem qw842 : Cond.selects RX5 yX5_pulley yX5_pulley ∈ wAll := wAll_of 880 (by decide +kernel) rfl
theorem qw843 : Cond.code yX5_pulley cX5_pulley 2 (some FieldType.int) ∈ wAll := wAll_of 881 (by decide +kernel) rfl
theorem qw844 : Cond.methodLink RL 125 yX5_force ∈ wAll := wAll_of 882 (by decide +kernel) rfl
theorem qw845 : Cond.instanceMethod yX5_force ∈ wAll := wAll_of 883 (by decide +kernel) rfl
theorem qw846 : Cond.selects RX5 yX5_force yX5_force ∈ wAll := wAll_of 884 (by decide +kernel) rfl
theorem qw847 : Cond.code yX5_force cX5_force 5 (some FieldType.long) ∈ wAll := wAll_of 885 (by decide +kernel) rfl
theorem qw848 : Cond.methodLink RX5 143 yX5_passes ∈ wAll := wAll_of 886 (by decide +kernel) rfl
theorem qw850 : Cond.instanceMethod yX5_passes ∈ wAll := wAll_of 888 (by decide +kernel) rfl
theorem qw851 : Cond.code yX5_passes cX5_passes 1 (some FieldType.int) ∈ wAll := wAll_of 889 (by decide +kernel) rfl
theorem qw852 : Cond.methodLink RX5 146 yX5_forceAt ∈ wAll := wAll_of 890 (by decide +kernel) rfl
theorem qw854 : Cond.instanceMethod yX5_forceAt ∈ wAll := wAll_of 892 (by decide +kernel) rfl
theorem qw855 : Cond.code yX5_forceAt cX5_forceAt 7 (some FieldType.long) ∈ wAll := wAll_of 893 (by decide +kernel) rfl
theorem qw856 : Cond.methodLink RL 128 yX5_pull ∈ wAll := wAll_of 894 (by decide +kernel) rfl
theorem qw857 : Cond.instanceMethod yX5_pull ∈ wAll := wAll_of 895 (by decide +kernel) rfl
theorem qw858 : Cond.selects RX5 yX5_pull yX5_pull ∈ wAll := wAll_of 896 (by decide +kernel) rfl
theorem qw859 : Cond.code yX5_pull cX5_pull 4 (some FieldType.long) ∈ wAll := wAll_of 897 (by decide +kernel) rfl
theorem qw860 : Cond.methodLink RL 131 yX5_value ∈ wAll := wAll_of 898 (by decide +kernel) rfl
theorem qw861 : Cond.instanceMethod yX5_value ∈ wAll := wAll_of 899 (by decide +kernel) rfl
theorem qw862 : Cond.selects RX5 yX5_value yX5_value ∈ wAll := wAll_of 900 (by decide +kernel) rfl
theorem qw863 : Cond.code yX5_value cX5_value 2 (some FieldType.int) ∈ wAll := wAll_of 901 (by decide +kernel) rfl
theorem qw864 : Cond.constantLong RX5 149 (9 : Int64) ∈ wAll := wAll_of 902 (by decide +kernel) rfl
theorem qw865 : Cond.methodLink RX5 151 yX5_valueTold ∈ wAll := wAll_of 903 (by decide +kernel) rfl
theorem qw867 : Cond.instanceMethod yX5_valueTold ∈ wAll := wAll_of 905 (by decide +kernel) rfl
theorem qw868 : Cond.code yX5_valueTold cX5_valueTold 2 (some FieldType.int) ∈ wAll := wAll_of 906 (by decide +kernel) rfl
theorem qw869 : Cond.methodLink RL 136 yX5_work ∈ wAll := wAll_of 907 (by decide +kernel) rfl
theorem qw870 : Cond.instanceMethod yX5_work ∈ wAll := wAll_of 908 (by decide +kernel) rfl
theorem qw871 : Cond.selects RX5 yX5_work yX5_work ∈ wAll := wAll_of 909 (by decide +kernel) rfl
theorem qw872 : Cond.code yX5_work cX5_work 2 (some FieldType.long) ∈ wAll := wAll_of 910 (by decide +kernel) rfl
theorem qw873 : Cond.methodLink RL 139 yX5_entry ∈ wAll := wAll_of 911 (by decide +kernel) rfl
theorem qw874 : Cond.instanceMethod yX5_entry ∈ wAll := wAll_of 912 (by decide +kernel) rfl
theorem qw875 : Cond.selects RX5 yX5_entry yX5_entry ∈ wAll := wAll_of 913 (by decide +kernel) rfl
theorem qw876 : Cond.code yX5_entry cX5_entry 3 (some FieldType.int) ∈ wAll := wAll_of 914 (by decide +kernel) rfl
theorem qw877 : Cond.methodLink RL 143 yX5_first ∈ wAll := wAll_of 915 (by decide +kernel) rfl
theorem qw878 : Cond.instanceMethod yX5_first ∈ wAll := wAll_of 916 (by decide +kernel) rfl
theorem qw879 : Cond.selects RX5 yX5_first yX5_first ∈ wAll := wAll_of 917 (by decide +kernel) rfl
theorem qw880 : Cond.code yX5_first cX5_first 1 (some FieldType.int) ∈ wAll := wAll_of 918 (by decide +kernel) rfl
theorem qw881 : Cond.methodLink RL 147 yX5_forceForAll ∈ wAll := wAll_of 919 (by decide +kernel) rfl
theorem qw882 : Cond.instanceMethod yX5_forceForAll ∈ wAll := wAll_of 920 (by decide +kernel) rfl
theorem qw883 : Cond.selects RX5 yX5_forceForAll yX5_forceForAll ∈ wAll := wAll_of 921 (by decide +kernel) rfl
theorem qw884 : Cond.code yX5_forceForAll cX5_forceForAll 4 (some FieldType.int) ∈ wAll := wAll_of 922 (by decide +kernel) rfl
theorem qw885 : Cond.methodLink RL 150 yX5_pulleysFor ∈ wAll := wAll_of 923 (by decide +kernel) rfl
theorem qw886 : Cond.instanceMethod yX5_pulleysFor ∈ wAll := wAll_of 924 (by decide +kernel) rfl
theorem qw887 : Cond.selects RX5 yX5_pulleysFor yX5_pulleysFor ∈ wAll := wAll_of 925 (by decide +kernel) rfl
theorem qw888 : Cond.code yX5_pulleysFor cX5_pulleysFor 10 (some FieldType.int) ∈ wAll := wAll_of 926 (by decide +kernel) rfl
theorem qw889 : Cond.methodLink RL 153 yX5_bestEnd ∈ wAll := wAll_of 927 (by decide +kernel) rfl
theorem qw890 : Cond.instanceMethod yX5_bestEnd ∈ wAll := wAll_of 928 (by decide +kernel) rfl
theorem qw891 : Cond.selects RX5 yX5_bestEnd yX5_bestEnd ∈ wAll := wAll_of 929 (by decide +kernel) rfl
theorem qw892 : Cond.code yX5_bestEnd cX5_bestEnd 9 (some FieldType.int) ∈ wAll := wAll_of 930 (by decide +kernel) rfl
theorem qw893 : Cond.methodLink RL 157 yX5_swapped ∈ wAll := wAll_of 931 (by decide +kernel) rfl
theorem qw894 : Cond.instanceMethod yX5_swapped ∈ wAll := wAll_of 932 (by decide +kernel) rfl
theorem qw895 : Cond.selects RX5 yX5_swapped yX5_swapped ∈ wAll := wAll_of 933 (by decide +kernel) rfl
theorem qw896 : Cond.code yX5_swapped cX5_swapped 5 (some FieldType.int) ∈ wAll := wAll_of 934 (by decide +kernel) rfl
theorem qw897 : Cond.methodLink RX5 154 yX5_changes ∈ wAll := wAll_of 935 (by decide +kernel) rfl
theorem qw899 : Cond.instanceMethod yX5_changes ∈ wAll := wAll_of 937 (by decide +kernel) rfl
theorem qw900 : Cond.code yX5_changes cX5_changes 5 none ∈ wAll := wAll_of 938 (by decide +kernel) rfl
theorem qw901 : Cond.methodLink RL 160 yX5_riseBy ∈ wAll := wAll_of 939 (by decide +kernel) rfl
theorem qw902 : Cond.instanceMethod yX5_riseBy ∈ wAll := wAll_of 940 (by decide +kernel) rfl
theorem qw903 : Cond.selects RX5 yX5_riseBy yX5_riseBy ∈ wAll := wAll_of 941 (by decide +kernel) rfl
theorem qw904 : Cond.code yX5_riseBy cX5_riseBy 6 (some FieldType.int) ∈ wAll := wAll_of 942 (by decide +kernel) rfl
theorem qw905 : Cond.methodLink RX5 158 yX5_laysAside ∈ wAll := wAll_of 943 (by decide +kernel) rfl
theorem qw907 : Cond.instanceMethod yX5_laysAside ∈ wAll := wAll_of 945 (by decide +kernel) rfl
theorem qw908 : Cond.code yX5_laysAside cX5_laysAside 2 none ∈ wAll := wAll_of 946 (by decide +kernel) rfl
theorem qw909 : Cond.methodLink RX5 161 yX5_bringsBack ∈ wAll := wAll_of 947 (by decide +kernel) rfl
theorem qw911 : Cond.instanceMethod yX5_bringsBack ∈ wAll := wAll_of 949 (by decide +kernel) rfl
theorem qw912 : Cond.code yX5_bringsBack cX5_bringsBack 2 none ∈ wAll := wAll_of 950 (by decide +kernel) rfl
theorem qw913 : Cond.methodLink RL 165 yX5_efficiency ∈ wAll := wAll_of 951 (by decide +kernel) rfl
theorem qw914 : Cond.instanceMethod yX5_efficiency ∈ wAll := wAll_of 952 (by decide +kernel) rfl
theorem qw915 : Cond.selects RX5 yX5_efficiency yX5_efficiency ∈ wAll := wAll_of 953 (by decide +kernel) rfl
theorem qw916 : Cond.code yX5_efficiency cX5_efficiency 1 (some FieldType.double) ∈ wAll := wAll_of 954 (by decide +kernel) rfl
theorem qw917 : Cond.methodLink RL 168 yX5_append ∈ wAll := wAll_of 955 (by decide +kernel) rfl
theorem qw918 : Cond.instanceMethod yX5_append ∈ wAll := wAll_of 956 (by decide +kernel) rfl
theorem qw919 : Cond.selects RX5 yX5_append yX5_append ∈ wAll := wAll_of 957 (by decide +kernel) rfl
theorem qw920 : Cond.code yX5_append cX5_append 2 (some FieldType.int) ∈ wAll := wAll_of 958 (by decide +kernel) rfl
theorem qw921 : Cond.constantLong RX5 164 (127 : Int64) ∈ wAll := wAll_of 959 (by decide +kernel) rfl
theorem qw922 : Cond.methodLink RL 172 yX5_clearText ∈ wAll := wAll_of 960 (by decide +kernel) rfl
theorem qw923 : Cond.instanceMethod yX5_clearText ∈ wAll := wAll_of 961 (by decide +kernel) rfl
theorem qw924 : Cond.selects RX5 yX5_clearText yX5_clearText ∈ wAll := wAll_of 962 (by decide +kernel) rfl
theorem qw925 : Cond.code yX5_clearText cX5_clearText 2 (some FieldType.int) ∈ wAll := wAll_of 963 (by decide +kernel) rfl
theorem qw926 : Cond.methodLink RL 176 yX5_parse ∈ wAll := wAll_of 964 (by decide +kernel) rfl
theorem qw927 : Cond.instanceMethod yX5_parse ∈ wAll := wAll_of 965 (by decide +kernel) rfl
theorem qw928 : Cond.selects RX5 yX5_parse yX5_parse ∈ wAll := wAll_of 966 (by decide +kernel) rfl
theorem qw929 : Cond.code yX5_parse cX5_parse 3 (some FieldType.int) ∈ wAll := wAll_of 967 (by decide +kernel) rfl
theorem qw930 : Cond.methodLink RX5 190 yX5_reads ∈ wAll := wAll_of 968 (by decide +kernel) rfl
theorem qw932 : Cond.instanceMethod yX5_reads ∈ wAll := wAll_of 970 (by decide +kernel) rfl
theorem qw933 : Cond.code yX5_reads cX5_reads 2 (some FieldType.boolean) ∈ wAll := wAll_of 971 (by decide +kernel) rfl
theorem qw934 : Cond.methodLink RX5 172 yX5_isAt ∈ wAll := wAll_of 972 (by decide +kernel) rfl
theorem qw936 : Cond.instanceMethod yX5_isAt ∈ wAll := wAll_of 974 (by decide +kernel) rfl
theorem qw937 : Cond.code yX5_isAt cX5_isAt 3 (some FieldType.boolean) ∈ wAll := wAll_of 975 (by decide +kernel) rfl
theorem qw938 : Cond.methodLink RX5 186 yX5_readsWeight ∈ wAll := wAll_of 976 (by decide +kernel) rfl
theorem qw940 : Cond.instanceMethod yX5_readsWeight ∈ wAll := wAll_of 978 (by decide +kernel) rfl
theorem qw941 : Cond.code yX5_readsWeight cX5_readsWeight 3 (some FieldType.boolean) ∈ wAll := wAll_of 979 (by decide +kernel) rfl
theorem qw942 : Cond.constant RX5 179 (50000 : Int32) ∈ wAll := wAll_of 980 (by decide +kernel) rfl
theorem qw943 : Cond.methodLink RL 179 yX5_undo ∈ wAll := wAll_of 981 (by decide +kernel) rfl
theorem qw944 : Cond.instanceMethod yX5_undo ∈ wAll := wAll_of 982 (by decide +kernel) rfl
theorem qw945 : Cond.selects RX5 yX5_undo yX5_undo ∈ wAll := wAll_of 983 (by decide +kernel) rfl
theorem qw946 : Cond.code yX5_undo cX5_undo 2 (some FieldType.int) ∈ wAll := wAll_of 984 (by decide +kernel) rfl
theorem qw947 : Cond.methodLink RL 184 yX5_digest ∈ wAll := wAll_of 985 (by decide +kernel) rfl
theorem qw948 : Cond.instanceMethod yX5_digest ∈ wAll := wAll_of 986 (by decide +kernel) rfl
theorem qw949 : Cond.selects RX5 yX5_digest yX5_digest ∈ wAll := wAll_of 987 (by decide +kernel) rfl
theorem qw950 : Cond.code yX5_digest cX5_digest 2 (some FieldType.long) ∈ wAll := wAll_of 988 (by decide +kernel) rfl
theorem qw951 : Cond.constantLong RX5 199 (3623 : Int64) ∈ wAll := wAll_of 989 (by decide +kernel) rfl
theorem qw952 : Cond.methodLink RX5 201 yX5_mix ∈ wAll := wAll_of 990 (by decide +kernel) rfl
theorem qw954 : Cond.instanceMethod yX5_mix ∈ wAll := wAll_of 992 (by decide +kernel) rfl
theorem qw955 : Cond.code yX5_mix cX5_mix 3 none ∈ wAll := wAll_of 993 (by decide +kernel) rfl
theorem qw956 : Cond.constantLong RX5 193 (31 : Int64) ∈ wAll := wAll_of 994 (by decide +kernel) rfl
end
section
/-! the judgement J and the contracts CT: over any heap that holds the world -/
abbrev Gh : Type := va_G × ClassId × ClassId × ClassId
abbrev gD (g : Gh) : va_G := g.1
abbrev gI (g : Gh) : ClassId := g.2.1
abbrev gL (g : Gh) : ClassId := g.2.2.1
abbrev gS (g : Gh) : ClassId := g.2.2.2
abbrev tysOf (g : Gh) : List (ClassId × FieldType) := [(gI g, .int), (gL g, .long), (gS g, .object "RopeTackle$State")]
abbrev iI (x : Int) : Int32 := Int32.ofInt x
abbrev lI (x : Int) : Int64 := Int64.ofInt x
/-- the exceptions' texts -/
def strL : List (Nat × String) := [(176, "no such value"), (256, "no such block"), (134, "no such value of a block"), (260, "out of range"), (250, "the rope is too short"), (89, "the row is full"), (97, "the row is empty"), (104, "no such end"), (258, "no such pulley"), (185, "no such entry"), (211, "the text is full"), (224, "nothing is saved")]
def isNest : Cond → Bool
  | .fieldLinkNest .. => true
  | .methodLinkNest .. => true
  | .castable .. => true
  | .declares _ => true
  | _ => false
def NX (U : State) : Prop := (∀ w ∈ tables_1, isNest w = true → va_Nw w U) ∧ ∀ q ∈ strL, ∃ a : Nat, vk_R "RopeTackle" q.1 q.2 a U
theorem NX.warm {s U : State} (hW : s.WarmedH U.vm) (h : NX s) : NX U := by
  refine ⟨fun w hw hn => ?_, fun q hq => ?_⟩
  · have h1 := h.1 w hw hn
    cases w <;> first | exact va_Nw.warmF hW h1 | exact va_Nw.warmM hW h1 | exact va_Nw.warmC hW h1 | exact va_Nw.warmD hW h1 | (simp [isNest] at hn; done)
  · obtain ⟨a, ha⟩ := h.2 q hq
    exact ⟨a, vk_R.warm hW ha⟩
theorem NX.same {u U : State} (hv : U.vm = u.vm) (h : NX u) : NX U := by
  refine ⟨fun w hw hn => ?_, fun q hq => ?_⟩
  · have h1 := h.1 w hw hn
    cases w <;> first | exact va_Nw.same rfl hv.symm h1 | (simp [isNest] at hn; done)
  · obtain ⟨a, ha⟩ := h.2 q hq
    exact ⟨a, vk_R.same hv ha⟩
/-- the two statics that Throwable's constructor reads -/
def XH (A : Nat → Prop) (U : State) (H : Heap) : Prop := vx_Zq Bundle.tN "UNASSIGNED_STACK" Bundle.steD A U H ∧ vx_Zq Bundle.tN "SUPPRESSED_SENTINEL" Bundle.listD A U H
theorem XH.moved {A : Nat → Prop} {u U : State} {H : Heap} (hvm : u.vm.Alike U.vm) (h : XH A u H) : XH A U H := ⟨h.1.moved hvm, h.2.moved hvm⟩
theorem XH.kept {A : Nat → Prop} {U : State} {H H1 : Heap} (h : XH A U H) (hq : ∀ a : Nat, a < H.size → ¬ A a → H1[a]? = H[a]?) : XH A U H1 := ⟨h.1.kept hq, h.2.kept hq⟩
theorem XH.narrow {A B : Nat → Prop} {U : State} {H : Heap} (h : XH A U H) (hAB : ∀ q, B q → A q) : XH B U H := ⟨h.1.narrow hAB, h.2.narrow hAB⟩
/-- a method's start: a world of these cells -/
def PU (g : Gh) (w : va_W) (sz : Nat) (U : State) : Prop := U.heap.size = sz ∧ va_P (gD g) vwCl w U.heap ∧ va_K (gD g) vwCl (tysOf g) U ∧ va_D (fun _ => True) w ∧ NX U ∧ XH (va_A w sz) U U.heap
theorem PU.blind {g : Gh} {av : List Value} {w : va_W} {sz : Nat} : FrameBlind (va_Pc av (PU g w sz)) := fun a U gg mk ⟨h0, h1, h2, h3, h4, h5, h6⟩ =>
  ⟨h0, h1, h2, va_K.moved (u := U) (U := U.calling gg mk a) (Vm.Alike.refl U.vm) h3, h4, NX.same (u := U) rfl h5, XH.moved (u := U) (U := U.calling gg mk a) (Vm.Alike.refl U.vm) h6⟩
/-- a method's end: its answer and the world, of which Post speaks -/
def QE (g : Gh) (A : Nat → Prop) (Post : Option Value → va_W → Prop) : Array Value → State → Outcome → State → Prop := fun _ st oc t => (∃ (r : Option Value) (w' : va_W), oc = .returned r ∧ Post r w' ∧ va_P (gD g) vwCl w' t.heap ∧ va_D A w') ∧ va_F A st t
/-- a contract -/
def CT (l : Launch) (g : Gh) (y : MethodName) (cc : ByteArray) (nL : Nat) (ret : Option FieldType) (rm : Room) (av : List Value) (w : va_W) (Post : Option Value → va_W → Prop) : Prop :=
  ∀ sz : Nat, Met l y (Cond.code y cc nL ret :: wAll) rm (va_Pc av (PU g w sz)) (QE g (va_A w sz) Post) rm.cells rm.slots (va_A w sz)
/-- what stands all through a method -/
def Cx (p : Program) (g : Gh) (s : State) (m : MethodId) (args : Array Value) (c : Code) (cc : ByteArray) (nL : Nat) (own : String) (A : Nat → Prop) : Prop :=
  p.tables.exec = Jvm.exec ∧ c.code = cc ∧ c.maxLocals = nL ∧ s.vm.findClass own = some m.cls ∧ (∀ w ∈ wAll, w.before args s = true) ∧ NX s ∧ va_K (gD g) vwCl (tysOf g) s ∧ (∀ q, s.heap.size ≤ q → A q) ∧ XH A s s.heap
def J (p : Program) (l : Launch) (e : Env) (R : Room) (s : State) (m : MethodId) (args : Array Value) (below : List Frame) (meth : Method) (c : Code) (g : Gh) (A : Nat → Prop) (nL : Nat) (pc : Nat) (L : List (Nat × Value)) (S : List Value) (ws : va_W) (cells slots : Nat) (Q : State → Prop) : Prop :=
  ∀ (H : Heap) (locs : List Loc) (ls : Array Slot), va_P (gD g) vwCl ws H → va_D A ws → va_S A s.heap H locs → lv_has ls nL L → W p l e R s m args below meth c H locs cells slots Q (F0 m pc ls S)
theorem CT.intro {l : Launch} {g : Gh} {y : MethodName} {cc : ByteArray} {nL : Nat} {ret : Option FieldType} {rm : Room} {av : List Value} {w : va_W} {Post : Option Value → va_W → Prop} {own : String} {L0 : List (Nat × Value)} (hy : plainName y.cls = true) (hown : y.cls = own) (hfit : (lg_sl av).length ≤ nL) (hL : lv_args 0 av = L0)
    (body : ∀ (p : Program) (e : Env) (s : State) (m : MethodId) (args : Array Value) (below : List Frame) (meth : Method) (c : Code) (A : Nat → Prop), Cx p g s m args c cc nL own A → meth.sig.returnType = ret → meth.locks = false → J p l e rm s m args below meth c g A nL 0 L0 [] w 0 0 (MQ below (QE g A Post) args s rm.cells rm.slots A)) : CT l g y cc nL ret rm av w Post := by
  intro sz
  subst hown; subst hL
  refine Met.ofW (cc := cc) (maxL := nL) (ret := ret) hy rfl ?_
  intro p e s m args below meth c s₁ B hml hv
  obtain ⟨rfl, hsz, hP, hK, hD0, hN, hX⟩ := hv
  subst hsz
  have hts := atoms_spec (ws := Cond.code y cc nL ret :: wAll) B.pre
  have C0 : Cx p g s m av.toArray c cc nL y.cls (va_A w s.heap.size) := ⟨B.exec, B.bytes, hml, findClass_of_methodNamed B.named, fun w h => hts w (List.mem_cons_of_mem _ h), hN, hK, fun q h => Or.inr h, hX⟩
  have hl := lv_entry av (n := nL) hfit
  rw [lg_entry_eq]
  exact body p e s m _ below meth c _ C0 B.returns B.notSynchronized s.heap [] _ hP (hD0.self (sz := s.heap.size)) va_S.rf hl
/-- lists: locals behind a store -/
theorem lP {α : Type} {l : List α} {q : α} (i : Nat) (h : l[i]? = some q) : l[i]? = some q := h
end
section
section JR
variable {p : Program} {l : Launch} {e : Env} {R : Room} {s : State} {m : MethodId} {args : Array Value} {below : List Frame} {meth : Method} {c : Code} {g : Gh} {A : Nat → Prop} {cc : ByteArray} {nL : Nat} {own : String} {pc : Nat} {L : List (Nat × Value)} {S : List Value} {ws : va_W} {cells slots : Nat} {Q : State → Prop}
theorem iI_toInt {x : Int} (h : -2147483648 ≤ x ∧ x < 2147483648) : (iI x).toInt = x := Int32.toInt_ofInt_of_le (by omega) (by omega)
theorem lI_toInt {x : Int} (h : -9223372036854775808 ≤ x ∧ x < 9223372036854775808) : (lI x).toInt = x := Int64.toInt_ofInt_of_le (by omega) (by omega)
theorem iI_lt {x y : Int} (hx : -2147483648 ≤ x ∧ x < 2147483648) (hy : -2147483648 ≤ y ∧ y < 2147483648) : iI x < iI y ↔ x < y := by rw [Int32.lt_iff_toInt_lt, iI_toInt hx, iI_toInt hy]
theorem iI_le {x y : Int} (hx : -2147483648 ≤ x ∧ x < 2147483648) (hy : -2147483648 ≤ y ∧ y < 2147483648) : iI x ≤ iI y ↔ x ≤ y := by rw [Int32.le_iff_toInt_le, iI_toInt hx, iI_toInt hy]
theorem iI_eq {x y : Int} (hx : -2147483648 ≤ x ∧ x < 2147483648) (hy : -2147483648 ≤ y ∧ y < 2147483648) : iI x = iI y ↔ x = y := ⟨fun h => by rw [← iI_toInt hx, h, iI_toInt hy], fun h => by rw [h]⟩
theorem lI_lt {x y : Int} (hx : -9223372036854775808 ≤ x ∧ x < 9223372036854775808) (hy : -9223372036854775808 ≤ y ∧ y < 9223372036854775808) : lI x < lI y ↔ x < y := by rw [Int64.lt_iff_toInt_lt, lI_toInt hx, lI_toInt hy]
theorem lI_eq {x y : Int} (hx : -9223372036854775808 ≤ x ∧ x < 9223372036854775808) (hy : -9223372036854775808 ≤ y ∧ y < 9223372036854775808) : lI x = lI y ↔ x = y := ⟨fun h => by rw [← lI_toInt hx, h, lI_toInt hy], fun h => by rw [h]⟩
theorem iI_0 : iI 0 = 0 := rfl
theorem iI_nI (n : Nat) : iI (n : Int) = Int32.ofNat n := by first | rfl | exact Int32.ofInt_natCast n | simp [iI]
theorem iI_clamp {x : Int} {k : Nat} (hk : x = (k : Int)) (h : (k : Int) < 2147483648) : (iI x).toNatClampNeg = k := by
  subst hk
  show (iI (k : Int)).toInt.toNat = k
  rw [iI_toInt (by omega)]
  omega
theorem iI_in {x : Int} {k n : Nat} (hk : x = (k : Int)) (h : k < n) (hn : (n : Int) ≤ 2147483648) : vp_in (iI x) n := by
  rintro (h1 | h1)
  · rw [← iI_0, iI_lt (by omega) (by omega)] at h1; omega
  · rw [iI_clamp hk (by omega)] at h1; omega
theorem i2l_ok {x : Int} (hx : -2147483648 ≤ x ∧ x < 2147483648) : (iI x).toInt64 = lI x := by
  apply Int64.toInt_inj.mp
  rw [Int32.toInt_toInt64, iI_toInt hx, lI_toInt (by omega)]
theorem l2i_ok (x : Int) : (lI x).toInt32 = iI x := by first | exact Int64.toInt32_ofInt x | simp [lI, iI]
theorem va_up_iI (f : Nat → Int) (k : Nat) (x : Int) : upd (fun j => iI (f j)) k (iI x) = fun j => iI (va_up f k x j) := by
  funext j
  by_cases h : j = k <;> simp [upd, va_up, h]
theorem va_up_lI (f : Nat → Int) (k : Nat) (x : Int) : vp_updL (fun j => lI (f j)) k (lI x) = fun j => lI (va_up f k x j) := by
  funext j
  by_cases h : j = k <;> simp [vp_updL, va_up, h]
theorem j_iconst (C : Cx p g s m args c cc nL own A) {n : Int} (hd : decode cc pc = .ok (.iconst n, 1)) (kk : J p l e R s m args below meth c g A nL (pc + 1) L (.int (iI n) :: S) ws cells slots Q) : J p l e R s m args below meth c g A nL pc L S ws cells slots Q := by
  intro H locs ls hP hD hS h
  exact lv_iconst C.1 C.2.1 hd rfl (kk H locs ls hP hD hS h)
theorem j_bipush (C : Cx p g s m args c cc nL own A) {n : Int} (hd : decode cc pc = .ok (.bipush n, 2)) (hv : (Int8.ofInt n).toInt32 = iI n) (kk : J p l e R s m args below meth c g A nL (pc + 2) L (.int (iI n) :: S) ws cells slots Q) : J p l e R s m args below meth c g A nL pc L S ws cells slots Q := by
  intro H locs ls hP hD hS h
  exact lv_bipush C.1 C.2.1 hd hv (kk H locs ls hP hD hS h)
theorem j_sipush (C : Cx p g s m args c cc nL own A) {n : Int} (hd : decode cc pc = .ok (.sipush n, 3)) (hv : (Int16.ofInt n).toInt32 = iI n) (kk : J p l e R s m args below meth c g A nL (pc + 3) L (.int (iI n) :: S) ws cells slots Q) : J p l e R s m args below meth c g A nL pc L S ws cells slots Q := by
  intro H locs ls hP hD hS h
  exact lv_sipush C.1 C.2.1 hd hv (kk H locs ls hP hD hS h)
theorem j_lconst (C : Cx p g s m args c cc nL own A) {n : Fin 2} {v : Int} (hd : decode cc pc = .ok (.lconst n, 1)) (hv : Int64.ofNat (n : Nat) = lI v) (kk : J p l e R s m args below meth c g A nL (pc + 1) L (.long (lI v) :: S) ws cells slots Q) : J p l e R s m args below meth c g A nL pc L S ws cells slots Q := by
  intro H locs ls hP hD hS h
  exact lv_lconst C.1 C.2.1 hd hv (kk H locs ls hP hD hS h)
theorem j_ldc (C : Cx p g s m args c cc nL own A) {index : Nat} {v : Int32} {x : Int} (hw : Cond.constant own index v ∈ wAll) (hv : v = iI x) (hd : decode cc pc = .ok (.ldc index, 2)) (kk : J p l e R s m args below meth c g A nL (pc + 2) L (.int (iI x) :: S) ws cells slots Q) : J p l e R s m args below meth c g A nL pc L S ws cells slots Q := by
  intro H locs ls hP hD hS h
  subst hv
  exact lv_ldc C.1 C.2.1 C.2.2.2.1 (C.2.2.2.2.1 _ hw) hd (kk H locs ls hP hD hS h)
theorem j_ldcw (C : Cx p g s m args c cc nL own A) {index : Nat} {v : Int32} {x : Int} (hw : Cond.constant own index v ∈ wAll) (hv : v = iI x) (hd : decode cc pc = .ok (.ldc_w index, 3)) (kk : J p l e R s m args below meth c g A nL (pc + 3) L (.int (iI x) :: S) ws cells slots Q) : J p l e R s m args below meth c g A nL pc L S ws cells slots Q := by
  intro H locs ls hP hD hS h
  subst hv
  exact lv_ldcw C.1 C.2.1 C.2.2.2.1 (C.2.2.2.2.1 _ hw) hd (kk H locs ls hP hD hS h)
theorem j_ldc2 (C : Cx p g s m args c cc nL own A) {index : Nat} {v : Int64} {x : Int} (hw : Cond.constantLong own index v ∈ wAll) (hv : v = lI x) (hd : decode cc pc = .ok (.ldc2_w index, 3)) (kk : J p l e R s m args below meth c g A nL (pc + 3) L (.long (lI x) :: S) ws cells slots Q) : J p l e R s m args below meth c g A nL pc L S ws cells slots Q := by
  intro H locs ls hP hD hS h
  subst hv
  exact lv_ldc2 C.1 C.2.1 C.2.2.2.1 (C.2.2.2.2.1 _ hw) hd (kk H locs ls hP hD hS h)
theorem j_iload_n (C : Cx p g s m args c cc nL own A) {k : Fin 4} {i : Nat} {x : Int32} (q : Nat) (hd : decode cc pc = .ok (.iload_n k, 1)) (hi : (k : Nat) = i) (hl : L[q]? = some (i, .int x)) (kk : J p l e R s m args below meth c g A nL (pc + 1) L (.int x :: S) ws cells slots Q) : J p l e R s m args below meth c g A nL pc L S ws cells slots Q := by
  intro H locs ls hP hD hS h
  exact lv_iload_n C.1 C.2.1 hd hi (lv_at h q hl) (kk H locs ls hP hD hS h)
theorem j_iload (C : Cx p g s m args c cc nL own A) {i : Nat} {x : Int32} (q : Nat) (hd : decode cc pc = .ok (.iload i, 2)) (hl : L[q]? = some (i, .int x)) (kk : J p l e R s m args below meth c g A nL (pc + 2) L (.int x :: S) ws cells slots Q) : J p l e R s m args below meth c g A nL pc L S ws cells slots Q := by
  intro H locs ls hP hD hS h
  exact lv_iload C.1 C.2.1 hd (lv_at h q hl) (kk H locs ls hP hD hS h)
theorem j_istore_n (C : Cx p g s m args c cc nL own A) {k : Fin 4} {i : Nat} {x : Int32} {L1 : List (Nat × Value)} (hd : decode cc pc = .ok (.istore_n k, 1)) (hi : (k : Nat) = i) (hn : i < nL) (hl : (i, Value.int x) :: L.filter (fun q => !(q.1 == i) && !(q.1 + 1 == i && q.2.category == 2)) = L1) (kk : J p l e R s m args below meth c g A nL (pc + 1) L1 S ws cells slots Q) : J p l e R s m args below meth c g A nL pc L (.int x :: S) ws cells slots Q := by
  intro H locs ls hP hD hS h
  exact lv_istore_n C.1 C.2.1 hd hi h hn hl (fun ls h => kk H locs ls hP hD hS h)
theorem j_istore (C : Cx p g s m args c cc nL own A) {i : Nat} {x : Int32} {L1 : List (Nat × Value)} (hd : decode cc pc = .ok (.istore i, 2)) (hn : i < nL) (hl : (i, Value.int x) :: L.filter (fun q => !(q.1 == i) && !(q.1 + 1 == i && q.2.category == 2)) = L1) (kk : J p l e R s m args below meth c g A nL (pc + 2) L1 S ws cells slots Q) : J p l e R s m args below meth c g A nL pc L (.int x :: S) ws cells slots Q := by
  intro H locs ls hP hD hS h
  exact lv_istore C.1 C.2.1 hd h hn hl (fun ls h => kk H locs ls hP hD hS h)
theorem j_lload_n (C : Cx p g s m args c cc nL own A) {k : Fin 4} {i : Nat} {x : Int64} (q : Nat) (hd : decode cc pc = .ok (.lload_n k, 1)) (hi : (k : Nat) = i) (hl : L[q]? = some (i, .long x)) (kk : J p l e R s m args below meth c g A nL (pc + 1) L (.long x :: S) ws cells slots Q) : J p l e R s m args below meth c g A nL pc L S ws cells slots Q := by
  intro H locs ls hP hD hS h
  exact lv_lload_n C.1 C.2.1 hd hi (lv_at h q hl) (kk H locs ls hP hD hS h)
theorem j_lload (C : Cx p g s m args c cc nL own A) {i : Nat} {x : Int64} (q : Nat) (hd : decode cc pc = .ok (.lload i, 2)) (hl : L[q]? = some (i, .long x)) (kk : J p l e R s m args below meth c g A nL (pc + 2) L (.long x :: S) ws cells slots Q) : J p l e R s m args below meth c g A nL pc L S ws cells slots Q := by
  intro H locs ls hP hD hS h
  exact lv_lload C.1 C.2.1 hd (lv_at h q hl) (kk H locs ls hP hD hS h)
theorem j_lstore_n (C : Cx p g s m args c cc nL own A) {k : Fin 4} {i : Nat} {x : Int64} {L1 : List (Nat × Value)} (hd : decode cc pc = .ok (.lstore_n k, 1)) (hi : (k : Nat) = i) (hn : i + 1 < nL) (hl : (i, Value.long x) :: L.filter (fun q => !(q.1 == i) && (!(q.1 == i + 1) && !(q.1 + 1 == i && q.2.category == 2))) = L1) (kk : J p l e R s m args below meth c g A nL (pc + 1) L1 S ws cells slots Q) : J p l e R s m args below meth c g A nL pc L (.long x :: S) ws cells slots Q := by
  intro H locs ls hP hD hS h
  exact lv_lstore_n C.1 C.2.1 hd hi h hn hl (fun ls h => kk H locs ls hP hD hS h)
theorem j_lstore (C : Cx p g s m args c cc nL own A) {i : Nat} {x : Int64} {L1 : List (Nat × Value)} (hd : decode cc pc = .ok (.lstore i, 2)) (hn : i + 1 < nL) (hl : (i, Value.long x) :: L.filter (fun q => !(q.1 == i) && (!(q.1 == i + 1) && !(q.1 + 1 == i && q.2.category == 2))) = L1) (kk : J p l e R s m args below meth c g A nL (pc + 2) L1 S ws cells slots Q) : J p l e R s m args below meth c g A nL pc L (.long x :: S) ws cells slots Q := by
  intro H locs ls hP hD hS h
  exact lv_lstore C.1 C.2.1 hd h hn hl (fun ls h => kk H locs ls hP hD hS h)
theorem j_aload_n (C : Cx p g s m args c cc nL own A) {k : Fin 4} {i : Nat} {x : Nat} (q : Nat) (hd : decode cc pc = .ok (.aload_n k, 1)) (hi : (k : Nat) = i) (hl : L[q]? = some (i, .ref x)) (kk : J p l e R s m args below meth c g A nL (pc + 1) L (.ref x :: S) ws cells slots Q) : J p l e R s m args below meth c g A nL pc L S ws cells slots Q := by
  intro H locs ls hP hD hS h
  exact lv_aload_n C.1 C.2.1 hd hi (lv_at h q hl) (kk H locs ls hP hD hS h)
theorem j_aload (C : Cx p g s m args c cc nL own A) {i : Nat} {x : Nat} (q : Nat) (hd : decode cc pc = .ok (.aload i, 2)) (hl : L[q]? = some (i, .ref x)) (kk : J p l e R s m args below meth c g A nL (pc + 2) L (.ref x :: S) ws cells slots Q) : J p l e R s m args below meth c g A nL pc L S ws cells slots Q := by
  intro H locs ls hP hD hS h
  exact lv_aload C.1 C.2.1 hd (lv_at h q hl) (kk H locs ls hP hD hS h)
theorem j_astore_n (C : Cx p g s m args c cc nL own A) {k : Fin 4} {i : Nat} {x : Nat} {L1 : List (Nat × Value)} (hd : decode cc pc = .ok (.astore_n k, 1)) (hi : (k : Nat) = i) (hn : i < nL) (hl : (i, Value.ref x) :: L.filter (fun q => !(q.1 == i) && !(q.1 + 1 == i && q.2.category == 2)) = L1) (kk : J p l e R s m args below meth c g A nL (pc + 1) L1 S ws cells slots Q) : J p l e R s m args below meth c g A nL pc L (.ref x :: S) ws cells slots Q := by
  intro H locs ls hP hD hS h
  exact lv_astore_n C.1 C.2.1 hd hi h hn hl (fun ls h => kk H locs ls hP hD hS h)
theorem j_astore (C : Cx p g s m args c cc nL own A) {i : Nat} {x : Nat} {L1 : List (Nat × Value)} (hd : decode cc pc = .ok (.astore i, 2)) (hn : i < nL) (hl : (i, Value.ref x) :: L.filter (fun q => !(q.1 == i) && !(q.1 + 1 == i && q.2.category == 2)) = L1) (kk : J p l e R s m args below meth c g A nL (pc + 2) L1 S ws cells slots Q) : J p l e R s m args below meth c g A nL pc L (.ref x :: S) ws cells slots Q := by
  intro H locs ls hP hD hS h
  exact lv_astore C.1 C.2.1 hd h hn hl (fun ls h => kk H locs ls hP hD hS h)
theorem j_dload_n (C : Cx p g s m args c cc nL own A) {k : Fin 4} {i : Nat} {x : UInt64} (q : Nat) (hd : decode cc pc = .ok (.dload_n k, 1)) (hi : (k : Nat) = i) (hl : L[q]? = some (i, .double x)) (kk : J p l e R s m args below meth c g A nL (pc + 1) L (.double x :: S) ws cells slots Q) : J p l e R s m args below meth c g A nL pc L S ws cells slots Q := by
  intro H locs ls hP hD hS h
  exact lv_dload_n C.1 C.2.1 hd hi (lv_at h q hl) (kk H locs ls hP hD hS h)
theorem j_dload (C : Cx p g s m args c cc nL own A) {i : Nat} {x : UInt64} (q : Nat) (hd : decode cc pc = .ok (.dload i, 2)) (hl : L[q]? = some (i, .double x)) (kk : J p l e R s m args below meth c g A nL (pc + 2) L (.double x :: S) ws cells slots Q) : J p l e R s m args below meth c g A nL pc L S ws cells slots Q := by
  intro H locs ls hP hD hS h
  exact lv_dload C.1 C.2.1 hd (lv_at h q hl) (kk H locs ls hP hD hS h)
theorem j_dstore_n (C : Cx p g s m args c cc nL own A) {k : Fin 4} {i : Nat} {x : UInt64} {L1 : List (Nat × Value)} (hd : decode cc pc = .ok (.dstore_n k, 1)) (hi : (k : Nat) = i) (hn : i + 1 < nL) (hl : (i, Value.double x) :: L.filter (fun q => !(q.1 == i) && (!(q.1 == i + 1) && !(q.1 + 1 == i && q.2.category == 2))) = L1) (kk : J p l e R s m args below meth c g A nL (pc + 1) L1 S ws cells slots Q) : J p l e R s m args below meth c g A nL pc L (.double x :: S) ws cells slots Q := by
  intro H locs ls hP hD hS h
  exact lv_dstore_n C.1 C.2.1 hd hi h hn hl (fun ls h => kk H locs ls hP hD hS h)
theorem j_dstore (C : Cx p g s m args c cc nL own A) {i : Nat} {x : UInt64} {L1 : List (Nat × Value)} (hd : decode cc pc = .ok (.dstore i, 2)) (hn : i + 1 < nL) (hl : (i, Value.double x) :: L.filter (fun q => !(q.1 == i) && (!(q.1 == i + 1) && !(q.1 + 1 == i && q.2.category == 2))) = L1) (kk : J p l e R s m args below meth c g A nL (pc + 2) L1 S ws cells slots Q) : J p l e R s m args below meth c g A nL pc L (.double x :: S) ws cells slots Q := by
  intro H locs ls hP hD hS h
  exact lv_dstore C.1 C.2.1 hd h hn hl (fun ls h => kk H locs ls hP hD hS h)
theorem j_iinc (C : Cx p g s m args c cc nL own A) {i : Nat} {n x : Int} {L1 : List (Nat × Value)} (q : Nat) (hd : decode cc pc = .ok (.iinc i n, 3)) (hk : L[q]? = some (i, .int (iI x))) (hn : i < nL) (hl : (i, Value.int (iI (x + n))) :: L.filter (fun q => !(q.1 == i) && !(q.1 + 1 == i && q.2.category == 2)) = L1) (kk : J p l e R s m args below meth c g A nL (pc + 3) L1 S ws cells slots Q) : J p l e R s m args below meth c g A nL pc L S ws cells slots Q := by
  intro H locs ls hP hD hS h
  exact lv_iinc C.1 C.2.1 hd h hk (by rw [show iI (x + n) = iI x + iI n from Int32.ofInt_add ..]) hn hl (fun ls h => kk H locs ls hP hD hS h)
theorem j_dup (C : Cx p g s m args c cc nL own A) {v : Value} (hd : decode cc pc = .ok (.dup, 1)) (hc : v.category = 1) (kk : J p l e R s m args below meth c g A nL (pc + 1) L (v :: v :: S) ws cells slots Q) : J p l e R s m args below meth c g A nL pc L (v :: S) ws cells slots Q := by
  intro H locs ls hP hD hS h
  exact lv_dup C.1 C.2.1 hd hc (kk H locs ls hP hD hS h)
theorem j_dup2 (C : Cx p g s m args c cc nL own A) {v w : Value} (hd : decode cc pc = .ok (.dup2, 1)) (hc : v.category = 1) (hc2 : w.category = 1) (kk : J p l e R s m args below meth c g A nL (pc + 1) L (v :: w :: v :: w :: S) ws cells slots Q) : J p l e R s m args below meth c g A nL pc L (v :: w :: S) ws cells slots Q := by
  intro H locs ls hP hD hS h
  exact lv_dup2_11 C.1 C.2.1 hd hc hc2 (kk H locs ls hP hD hS h)
theorem j_pop (C : Cx p g s m args c cc nL own A) {v : Value} (hd : decode cc pc = .ok (.pop, 1)) (hc : v.category = 1) (kk : J p l e R s m args below meth c g A nL (pc + 1) L S ws cells slots Q) : J p l e R s m args below meth c g A nL pc L (v :: S) ws cells slots Q := by
  intro H locs ls hP hD hS h
  exact lv_pop C.1 C.2.1 hd hc (kk H locs ls hP hD hS h)
theorem j_null (C : Cx p g s m args c cc nL own A)  (hd : decode cc pc = .ok (.aconst_null, 1)) (kk : J p l e R s m args below meth c g A nL (pc + 1) L (.null :: S) ws cells slots Q) : J p l e R s m args below meth c g A nL pc L S ws cells slots Q := by
  intro H locs ls hP hD hS h
  exact lv_null C.1 C.2.1 hd (kk H locs ls hP hD hS h)
theorem j_iadd (C : Cx p g s m args c cc nL own A) {x y : Int} (hd : decode cc pc = .ok (.iadd, 1)) (kk : J p l e R s m args below meth c g A nL (pc + 1) L (.int (iI (x + y)) :: S) ws cells slots Q) : J p l e R s m args below meth c g A nL pc L (.int (iI y) :: .int (iI x) :: S) ws cells slots Q := by
  intro H locs ls hP hD hS h
  refine lv_iadd C.1 C.2.1 hd ?_
  rw [← show iI (x + y) = iI x + iI y from Int32.ofInt_add ..]
  exact kk H locs ls hP hD hS h
theorem j_ladd (C : Cx p g s m args c cc nL own A) {x y : Int} (hd : decode cc pc = .ok (.ladd, 1)) (kk : J p l e R s m args below meth c g A nL (pc + 1) L (.long (lI (x + y)) :: S) ws cells slots Q) : J p l e R s m args below meth c g A nL pc L (.long (lI y) :: .long (lI x) :: S) ws cells slots Q := by
  intro H locs ls hP hD hS h
  refine lv_ladd C.1 C.2.1 hd ?_
  rw [← show lI (x + y) = lI x + lI y from Int64.ofInt_add ..]
  exact kk H locs ls hP hD hS h
theorem j_isub (C : Cx p g s m args c cc nL own A) {x y : Int} (hd : decode cc pc = .ok (.isub, 1)) (kk : J p l e R s m args below meth c g A nL (pc + 1) L (.int (iI (x - y)) :: S) ws cells slots Q) : J p l e R s m args below meth c g A nL pc L (.int (iI y) :: .int (iI x) :: S) ws cells slots Q := by
  intro H locs ls hP hD hS h
  refine lv_isub C.1 C.2.1 hd ?_
  rw [← show iI (x - y) = iI x - iI y from Int32.ofInt_sub ..]
  exact kk H locs ls hP hD hS h
theorem j_lsub (C : Cx p g s m args c cc nL own A) {x y : Int} (hd : decode cc pc = .ok (.lsub, 1)) (kk : J p l e R s m args below meth c g A nL (pc + 1) L (.long (lI (x - y)) :: S) ws cells slots Q) : J p l e R s m args below meth c g A nL pc L (.long (lI y) :: .long (lI x) :: S) ws cells slots Q := by
  intro H locs ls hP hD hS h
  refine lv_lsub C.1 C.2.1 hd ?_
  rw [← show lI (x - y) = lI x - lI y from Int64.ofInt_sub ..]
  exact kk H locs ls hP hD hS h
theorem j_imul (C : Cx p g s m args c cc nL own A) {x y : Int} (hd : decode cc pc = .ok (.imul, 1)) (kk : J p l e R s m args below meth c g A nL (pc + 1) L (.int (iI (x * y)) :: S) ws cells slots Q) : J p l e R s m args below meth c g A nL pc L (.int (iI y) :: .int (iI x) :: S) ws cells slots Q := by
  intro H locs ls hP hD hS h
  refine lv_imul C.1 C.2.1 hd ?_
  rw [← show iI (x * y) = iI x * iI y from Int32.ofInt_mul ..]
  exact kk H locs ls hP hD hS h
theorem j_lmul (C : Cx p g s m args c cc nL own A) {x y : Int} (hd : decode cc pc = .ok (.lmul, 1)) (kk : J p l e R s m args below meth c g A nL (pc + 1) L (.long (lI (x * y)) :: S) ws cells slots Q) : J p l e R s m args below meth c g A nL pc L (.long (lI y) :: .long (lI x) :: S) ws cells slots Q := by
  intro H locs ls hP hD hS h
  refine lv_lmul C.1 C.2.1 hd ?_
  rw [← show lI (x * y) = lI x * lI y from Int64.ofInt_mul ..]
  exact kk H locs ls hP hD hS h
theorem j_ineg (C : Cx p g s m args c cc nL own A) {x : Int} (hd : decode cc pc = .ok (.ineg, 1)) (kk : J p l e R s m args below meth c g A nL (pc + 1) L (.int (iI (-x)) :: S) ws cells slots Q) : J p l e R s m args below meth c g A nL pc L (.int (iI x) :: S) ws cells slots Q := by
  intro H locs ls hP hD hS h
  refine lv_ineg C.1 C.2.1 hd ?_
  rw [← show iI (-x) = -iI x from Int32.ofInt_neg ..]
  exact kk H locs ls hP hD hS h
theorem j_i2l (C : Cx p g s m args c cc nL own A) {x : Int} (hx : -2147483648 ≤ x ∧ x < 2147483648) (hd : decode cc pc = .ok (.i2l, 1)) (kk : J p l e R s m args below meth c g A nL (pc + 1) L (.long (lI x) :: S) ws cells slots Q) : J p l e R s m args below meth c g A nL pc L (.int (iI x) :: S) ws cells slots Q := by
  intro H locs ls hP hD hS h
  exact lv_i2l C.1 C.2.1 hd (i2l_ok hx) (kk H locs ls hP hD hS h)
theorem j_l2i (C : Cx p g s m args c cc nL own A) {x : Int} (hd : decode cc pc = .ok (.l2i, 1)) (kk : J p l e R s m args below meth c g A nL (pc + 1) L (.int (iI x) :: S) ws cells slots Q) : J p l e R s m args below meth c g A nL pc L (.long (lI x) :: S) ws cells slots Q := by
  intro H locs ls hP hD hS h
  exact lv_l2i C.1 C.2.1 hd (l2i_ok x) (kk H locs ls hP hD hS h)
theorem j_idiv (C : Cx p g s m args c cc nL own A) {x y : Int} (hx : 0 ≤ x ∧ x < 2147483648) (hy : 0 < y ∧ y < 2147483648) (hd : decode cc pc = .ok (.idiv, 1)) (kk : J p l e R s m args below meth c g A nL (pc + 1) L (.int (iI (x / y)) :: S) ws cells slots Q) : J p l e R s m args below meth c g A nL pc L (.int (iI y) :: .int (iI x) :: S) ws cells slots Q := by
  intro H locs ls hP hD hS h
  refine lv_idiv C.1 C.2.1 hd (fun h0 => ?_) ?_
  · rw [← iI_0, iI_eq (by omega) (by omega)] at h0; omega
  have h1 : 0 ≤ x / y := Int.ediv_nonneg hx.1 (by omega)
  have h2 : x / y ≤ x := Int.ediv_le_self _ hx.1
  have e : iI (x / y) = iI x / iI y := by
    apply Int32.toInt_inj.mp
    rw [Int32.toInt_div, iI_toInt (by omega), iI_toInt (by omega), iI_toInt (by omega), Int.tdiv_eq_ediv_of_nonneg hx.1]
    rw [Int.bmod_eq_of_le (by omega) (by omega)]
  rw [← e]
  exact kk H locs ls hP hD hS h
theorem j_ldiv (C : Cx p g s m args c cc nL own A) {x y : Int} (hx : 0 ≤ x ∧ x < 9223372036854775808) (hy : 0 < y ∧ y < 9223372036854775808) (hd : decode cc pc = .ok (.ldiv, 1)) (kk : J p l e R s m args below meth c g A nL (pc + 1) L (.long (lI (x / y)) :: S) ws cells slots Q) : J p l e R s m args below meth c g A nL pc L (.long (lI y) :: .long (lI x) :: S) ws cells slots Q := by
  intro H locs ls hP hD hS h
  have l0 : lI 0 = 0 := rfl
  refine lv_ldiv C.1 C.2.1 hd (fun h0 => ?_) ?_
  · rw [← l0, lI_eq (by omega) (by omega)] at h0; omega
  have h1 : 0 ≤ x / y := Int.ediv_nonneg hx.1 (by omega)
  have h2 : x / y ≤ x := Int.ediv_le_self _ hx.1
  have e : lI (x / y) = lI x / lI y := by
    apply Int64.toInt_inj.mp
    rw [Int64.toInt_div, lI_toInt (by omega), lI_toInt (by omega), lI_toInt (by omega), Int.tdiv_eq_ediv_of_nonneg hx.1]
    rw [Int.bmod_eq_of_le (by omega) (by omega)]
  rw [← e]
  exact kk H locs ls hP hD hS h
theorem j_icmp_lt (C : Cx p g s m args c cc nL own A) {x y off : Int} {tgt : Nat} (hx : -2147483648 ≤ x ∧ x < 2147483648) (hy : -2147483648 ≤ y ∧ y < 2147483648) (hd : decode cc pc = .ok (.if_icmp .lt off, 3)) (ht : (pc : Int) + off = (tgt : Int)) (kt : x < y → J p l e R s m args below meth c g A nL tgt L S ws cells slots Q) (kf : y ≤ x → J p l e R s m args below meth c g A nL (pc + 3) L S ws cells slots Q) : J p l e R s m args below meth c g A nL pc L (.int (iI y) :: .int (iI x) :: S) ws cells slots Q := by
  intro H locs ls hP hD hS h
  exact lv_icmp_lt C.1 C.2.1 hd ht (fun hc => kt ((iI_lt hx hy).mp hc) H locs ls hP hD hS h) (fun hc => kf (Int.not_lt.mp (fun e => hc ((iI_lt hx hy).mpr e))) H locs ls hP hD hS h)
theorem j_if_lt (C : Cx p g s m args c cc nL own A) {x off : Int} {tgt : Nat} (hx : -2147483648 ≤ x ∧ x < 2147483648) (hd : decode cc pc = .ok (.ifCond .lt off, 3)) (ht : (pc : Int) + off = (tgt : Int)) (kt : x < 0 → J p l e R s m args below meth c g A nL tgt L S ws cells slots Q) (kf : 0 ≤ x → J p l e R s m args below meth c g A nL (pc + 3) L S ws cells slots Q) : J p l e R s m args below meth c g A nL pc L (.int (iI x) :: S) ws cells slots Q := by
  intro H locs ls hP hD hS h
  exact lv_if_lt C.1 C.2.1 hd ht (fun hc => kt ((iI_lt hx (by omega)).mp hc) H locs ls hP hD hS h) (fun hc => kf (Int.not_lt.mp (fun e => hc ((iI_lt hx (by omega)).mpr e))) H locs ls hP hD hS h)
theorem j_icmp_ge (C : Cx p g s m args c cc nL own A) {x y off : Int} {tgt : Nat} (hx : -2147483648 ≤ x ∧ x < 2147483648) (hy : -2147483648 ≤ y ∧ y < 2147483648) (hd : decode cc pc = .ok (.if_icmp .ge off, 3)) (ht : (pc : Int) + off = (tgt : Int)) (kt : y ≤ x → J p l e R s m args below meth c g A nL tgt L S ws cells slots Q) (kf : x < y → J p l e R s m args below meth c g A nL (pc + 3) L S ws cells slots Q) : J p l e R s m args below meth c g A nL pc L (.int (iI y) :: .int (iI x) :: S) ws cells slots Q := by
  intro H locs ls hP hD hS h
  exact lv_icmp_ge C.1 C.2.1 hd ht (fun hc => kt ((iI_le hy hx).mp hc) H locs ls hP hD hS h) (fun hc => kf (Int.not_le.mp (fun e => hc ((iI_le hy hx).mpr e))) H locs ls hP hD hS h)
theorem j_if_ge (C : Cx p g s m args c cc nL own A) {x off : Int} {tgt : Nat} (hx : -2147483648 ≤ x ∧ x < 2147483648) (hd : decode cc pc = .ok (.ifCond .ge off, 3)) (ht : (pc : Int) + off = (tgt : Int)) (kt : 0 ≤ x → J p l e R s m args below meth c g A nL tgt L S ws cells slots Q) (kf : x < 0 → J p l e R s m args below meth c g A nL (pc + 3) L S ws cells slots Q) : J p l e R s m args below meth c g A nL pc L (.int (iI x) :: S) ws cells slots Q := by
  intro H locs ls hP hD hS h
  exact lv_if_ge C.1 C.2.1 hd ht (fun hc => kt ((iI_le (by omega) hx).mp hc) H locs ls hP hD hS h) (fun hc => kf (Int.not_le.mp (fun e => hc ((iI_le (by omega) hx).mpr e))) H locs ls hP hD hS h)
theorem j_icmp_gt (C : Cx p g s m args c cc nL own A) {x y off : Int} {tgt : Nat} (hx : -2147483648 ≤ x ∧ x < 2147483648) (hy : -2147483648 ≤ y ∧ y < 2147483648) (hd : decode cc pc = .ok (.if_icmp .gt off, 3)) (ht : (pc : Int) + off = (tgt : Int)) (kt : y < x → J p l e R s m args below meth c g A nL tgt L S ws cells slots Q) (kf : x ≤ y → J p l e R s m args below meth c g A nL (pc + 3) L S ws cells slots Q) : J p l e R s m args below meth c g A nL pc L (.int (iI y) :: .int (iI x) :: S) ws cells slots Q := by
  intro H locs ls hP hD hS h
  exact lv_icmp_gt C.1 C.2.1 hd ht (fun hc => kt ((iI_lt hy hx).mp hc) H locs ls hP hD hS h) (fun hc => kf (Int.not_lt.mp (fun e => hc ((iI_lt hy hx).mpr e))) H locs ls hP hD hS h)
theorem j_if_gt (C : Cx p g s m args c cc nL own A) {x off : Int} {tgt : Nat} (hx : -2147483648 ≤ x ∧ x < 2147483648) (hd : decode cc pc = .ok (.ifCond .gt off, 3)) (ht : (pc : Int) + off = (tgt : Int)) (kt : 0 < x → J p l e R s m args below meth c g A nL tgt L S ws cells slots Q) (kf : x ≤ 0 → J p l e R s m args below meth c g A nL (pc + 3) L S ws cells slots Q) : J p l e R s m args below meth c g A nL pc L (.int (iI x) :: S) ws cells slots Q := by
  intro H locs ls hP hD hS h
  exact lv_if_gt C.1 C.2.1 hd ht (fun hc => kt ((iI_lt (by omega) hx).mp hc) H locs ls hP hD hS h) (fun hc => kf (Int.not_lt.mp (fun e => hc ((iI_lt (by omega) hx).mpr e))) H locs ls hP hD hS h)
theorem j_icmp_le (C : Cx p g s m args c cc nL own A) {x y off : Int} {tgt : Nat} (hx : -2147483648 ≤ x ∧ x < 2147483648) (hy : -2147483648 ≤ y ∧ y < 2147483648) (hd : decode cc pc = .ok (.if_icmp .le off, 3)) (ht : (pc : Int) + off = (tgt : Int)) (kt : x ≤ y → J p l e R s m args below meth c g A nL tgt L S ws cells slots Q) (kf : y < x → J p l e R s m args below meth c g A nL (pc + 3) L S ws cells slots Q) : J p l e R s m args below meth c g A nL pc L (.int (iI y) :: .int (iI x) :: S) ws cells slots Q := by
  intro H locs ls hP hD hS h
  exact lv_icmp_le C.1 C.2.1 hd ht (fun hc => kt ((iI_le hx hy).mp hc) H locs ls hP hD hS h) (fun hc => kf (Int.not_le.mp (fun e => hc ((iI_le hx hy).mpr e))) H locs ls hP hD hS h)
theorem j_if_le (C : Cx p g s m args c cc nL own A) {x off : Int} {tgt : Nat} (hx : -2147483648 ≤ x ∧ x < 2147483648) (hd : decode cc pc = .ok (.ifCond .le off, 3)) (ht : (pc : Int) + off = (tgt : Int)) (kt : x ≤ 0 → J p l e R s m args below meth c g A nL tgt L S ws cells slots Q) (kf : 0 < x → J p l e R s m args below meth c g A nL (pc + 3) L S ws cells slots Q) : J p l e R s m args below meth c g A nL pc L (.int (iI x) :: S) ws cells slots Q := by
  intro H locs ls hP hD hS h
  exact lv_if_le C.1 C.2.1 hd ht (fun hc => kt ((iI_le hx (by omega)).mp hc) H locs ls hP hD hS h) (fun hc => kf (Int.not_le.mp (fun e => hc ((iI_le hx (by omega)).mpr e))) H locs ls hP hD hS h)
theorem j_icmp_eq (C : Cx p g s m args c cc nL own A) {x y off : Int} {tgt : Nat} (hx : -2147483648 ≤ x ∧ x < 2147483648) (hy : -2147483648 ≤ y ∧ y < 2147483648) (hd : decode cc pc = .ok (.if_icmp .eq off, 3)) (ht : (pc : Int) + off = (tgt : Int)) (kt : x = y → J p l e R s m args below meth c g A nL tgt L S ws cells slots Q) (kf : x ≠ y → J p l e R s m args below meth c g A nL (pc + 3) L S ws cells slots Q) : J p l e R s m args below meth c g A nL pc L (.int (iI y) :: .int (iI x) :: S) ws cells slots Q := by
  intro H locs ls hP hD hS h
  exact lv_icmp_eq C.1 C.2.1 hd ht (fun hc => kt ((iI_eq hx hy).mp hc) H locs ls hP hD hS h) (fun hc => kf (fun e => hc ((iI_eq hx hy).mpr e)) H locs ls hP hD hS h)
theorem j_if_eq (C : Cx p g s m args c cc nL own A) {x off : Int} {tgt : Nat} (hx : -2147483648 ≤ x ∧ x < 2147483648) (hd : decode cc pc = .ok (.ifCond .eq off, 3)) (ht : (pc : Int) + off = (tgt : Int)) (kt : x = 0 → J p l e R s m args below meth c g A nL tgt L S ws cells slots Q) (kf : x ≠ 0 → J p l e R s m args below meth c g A nL (pc + 3) L S ws cells slots Q) : J p l e R s m args below meth c g A nL pc L (.int (iI x) :: S) ws cells slots Q := by
  intro H locs ls hP hD hS h
  exact lv_if_eq C.1 C.2.1 hd ht (fun hc => kt ((iI_eq hx (by omega)).mp hc) H locs ls hP hD hS h) (fun hc => kf (fun e => hc ((iI_eq hx (by omega)).mpr e)) H locs ls hP hD hS h)
theorem j_icmp_ne (C : Cx p g s m args c cc nL own A) {x y off : Int} {tgt : Nat} (hx : -2147483648 ≤ x ∧ x < 2147483648) (hy : -2147483648 ≤ y ∧ y < 2147483648) (hd : decode cc pc = .ok (.if_icmp .ne off, 3)) (ht : (pc : Int) + off = (tgt : Int)) (kt : x ≠ y → J p l e R s m args below meth c g A nL tgt L S ws cells slots Q) (kf : x = y → J p l e R s m args below meth c g A nL (pc + 3) L S ws cells slots Q) : J p l e R s m args below meth c g A nL pc L (.int (iI y) :: .int (iI x) :: S) ws cells slots Q := by
  intro H locs ls hP hD hS h
  exact lv_icmp_ne C.1 C.2.1 hd ht (fun hc => kt (fun e => hc ((iI_eq hx hy).mpr e)) H locs ls hP hD hS h) (fun hc => kf ((iI_eq hx hy).mp hc) H locs ls hP hD hS h)
theorem j_if_ne (C : Cx p g s m args c cc nL own A) {x off : Int} {tgt : Nat} (hx : -2147483648 ≤ x ∧ x < 2147483648) (hd : decode cc pc = .ok (.ifCond .ne off, 3)) (ht : (pc : Int) + off = (tgt : Int)) (kt : x ≠ 0 → J p l e R s m args below meth c g A nL tgt L S ws cells slots Q) (kf : x = 0 → J p l e R s m args below meth c g A nL (pc + 3) L S ws cells slots Q) : J p l e R s m args below meth c g A nL pc L (.int (iI x) :: S) ws cells slots Q := by
  intro H locs ls hP hD hS h
  exact lv_if_ne C.1 C.2.1 hd ht (fun hc => kt (fun e => hc ((iI_eq hx (by omega)).mpr e)) H locs ls hP hD hS h) (fun hc => kf ((iI_eq hx (by omega)).mp hc) H locs ls hP hD hS h)
theorem j_goto (C : Cx p g s m args c cc nL own A) {off : Int} {tgt : Nat} (hd : decode cc pc = .ok (.goto off, 3)) (ht : (pc : Int) + off = (tgt : Int)) (kk : J p l e R s m args below meth c g A nL tgt L S ws cells slots Q) : J p l e R s m args below meth c g A nL pc L S ws cells slots Q := by
  intro H locs ls hP hD hS h
  exact lv_goto C.1 C.2.1 hd ht (kk H locs ls hP hD hS h)
theorem j_lcmp (C : Cx p g s m args c cc nL own A) {x y : Int} (hx : -9223372036854775808 ≤ x ∧ x < 9223372036854775808) (hy : -9223372036854775808 ≤ y ∧ y < 9223372036854775808) (hd : decode cc pc = .ok (.lcmp, 1)) (kk : J p l e R s m args below meth c g A nL (pc + 1) L (.int (iI (if y < x then 1 else if x = y then 0 else -1)) :: S) ws cells slots Q) : J p l e R s m args below meth c g A nL pc L (.long (lI y) :: .long (lI x) :: S) ws cells slots Q := by
  intro H locs ls hP hD hS h
  refine W.lcmp C.1 C.2.1 hd ?_
  have e : lg_cmp (lI x) (lI y) = iI (if y < x then 1 else if x = y then 0 else -1) := by
    unfold lg_cmp
    by_cases h1 : y < x
    · simp only [gt_iff_lt, lI_lt hy hx, if_pos h1]; rfl
    · by_cases h2 : x = y
      · simp only [gt_iff_lt, lI_lt hy hx, lI_eq hx hy, if_neg h1, if_pos h2]; rfl
      · simp only [gt_iff_lt, lI_lt hy hx, lI_eq hx hy, if_neg h1, if_neg h2]; rfl
  rw [e]
  exact kk H locs ls hP hD hS h
end JR
end
section
section JW
theorem wP_iff {D : va_G} {cl : List vw_C} {ws : va_W} {H : Heap} : va_P D cl ws H ↔ ∀ q ∈ ws, va_at D cl q H := by
  refine ⟨fun h q hq => ?_, fun h k q hk => h q (List.mem_of_getElem? hk)⟩
  obtain ⟨i, hi⟩ := List.getElem?_of_mem hq
  exact h i q hi
theorem wD_iff {A : Nat → Prop} {ws : va_W} : va_D A ws ↔ (ws.map (fun q => q.1)).Nodup ∧ ∀ q ∈ ws, A q.1 := by
  constructor
  · intro h
    refine ⟨?_, fun q hq => ?_⟩
    · rw [List.Nodup, List.pairwise_iff_getElem]
      intro i j hi hj hij he
      simp only [List.length_map] at hi hj
      simp only [List.getElem_map] at he
      have := h.1 i j _ _ (List.getElem?_eq_getElem hi) (List.getElem?_eq_getElem hj) he
      omega
    · obtain ⟨i, hi⟩ := List.getElem?_of_mem hq
      exact h.2 i q hi
  · rintro ⟨hn, hA⟩
    refine ⟨fun i j p q hi hj he => ?_, fun k q hk => hA q (List.mem_of_getElem? hk)⟩
    rw [List.Nodup, List.pairwise_iff_getElem] at hn
    have li := (List.getElem?_eq_some_iff.mp hi).1
    have lj := (List.getElem?_eq_some_iff.mp hj).1
    have ei := (List.getElem?_eq_some_iff.mp hi).2
    have ej := (List.getElem?_eq_some_iff.mp hj).2
    rcases Nat.lt_trichotomy i j with h | h | h
    · have h9 := hn i j (by simpa using li) (by simpa using lj) h
      simp only [List.getElem_map, ei, ej] at h9
      exact absurd he h9
    · exact h
    · have h9 := hn j i (by simpa using lj) (by simpa using li) h
      simp only [List.getElem_map, ei, ej] at h9
      exact absurd he.symm h9
theorem wP_perm {D : va_G} {cl : List vw_C} {w1 w2 : va_W} {H : Heap} (hp : w1.Perm w2) (h : va_P D cl w1 H) : va_P D cl w2 H := wP_iff.mpr fun q hq => wP_iff.mp h q (hp.mem_iff.mpr hq)
theorem wD_perm {A : Nat → Prop} {w1 w2 : va_W} (hp : w1.Perm w2) (h : va_D A w1) : va_D A w2 := by
  rw [wD_iff] at h ⊢
  exact ⟨(hp.map _).nodup_iff.mp h.1, fun q hq => h.2 q (hp.mem_iff.mpr hq)⟩
theorem wA_iff {ws : va_W} {sz q : Nat} : va_A ws sz q ↔ (∃ e ∈ ws, e.1 = q) ∨ sz ≤ q := by
  constructor
  · rintro (⟨k, e, h⟩ | h)
    · exact Or.inl ⟨(q, e), List.mem_of_getElem? h, rfl⟩
    · exact Or.inr h
  · rintro (⟨e, h, rfl⟩ | h)
    · obtain ⟨i, hi⟩ := List.getElem?_of_mem h
      exact Or.inl ⟨i, e.2, hi⟩
    · exact Or.inr h
/-- behind a call: the callee's new world beside the rest -/
theorem wJoin {A : Nat → Prop} {D : va_G} {cl : List vw_C} {wc wr w1 : va_W} {H H1 : Heap} (hP : va_P D cl (wc ++ wr) H) (hD : va_D A (wc ++ wr)) (hA : ∀ q, va_A wc H.size q → A q) (hP1 : va_P D cl w1 H1) (hD1 : va_D (va_A wc H.size) w1) (hk : ∀ q : Nat, q < H.size → ¬ va_A wc H.size q → H1[q]? = H[q]?) : va_P D cl (w1 ++ wr) H1 ∧ va_D A (w1 ++ wr) := by
  rw [wP_iff] at hP hP1 ⊢
  rw [wD_iff] at hD hD1 ⊢
  obtain ⟨hn, hAA⟩ := hD
  rw [List.map_append, List.nodup_append] at hn
  have apart : ∀ q ∈ wr, q.1 < H.size ∧ ¬ va_A wc H.size q.1 := by
    intro q hq
    have hl := (hP q (List.mem_append_right _ hq)).lt
    refine ⟨hl, fun h => ?_⟩
    rcases wA_iff.mp h with ⟨e, he, h9⟩ | h9
    · exact hn.2.2 _ (List.mem_map.mpr ⟨e, he, rfl⟩) _ (List.mem_map.mpr ⟨q, hq, rfl⟩) h9
    · omega
  refine ⟨fun q hq => ?_, ?_, fun q hq => ?_⟩
  · rcases List.mem_append.mp hq with h | h
    · exact hP1 q h
    · exact (hP q (List.mem_append_right _ h)).kept (hk q.1 (apart q h).1 (apart q h).2)
  · rw [List.map_append, List.nodup_append]
    refine ⟨hD1.1, hn.2.1, fun a ha b hb hab => ?_⟩
    obtain ⟨x, hx, rfl⟩ := List.mem_map.mp ha
    obtain ⟨y, hy, rfl⟩ := List.mem_map.mp hb
    exact (apart y hy).2 (hab ▸ hD1.2 x hx)
  · rcases List.mem_append.mp hq with h | h
    · exact hA _ (hD1.2 q h)
    · exact hAA q (List.mem_append_right _ h)
theorem pf0 : ∀ w : va_W, w.Perm (w ++ []) := fun w => by rw [List.append_nil]
theorem pf1 (pre post : va_W) : ∀ w : va_W, (pre ++ (w ++ post)).Perm (w ++ (pre ++ post)) := fun w => by
  rw [← List.append_assoc, ← List.append_assoc]
  exact List.Perm.append_right post List.perm_append_comm
theorem pf2 (pre : va_W) (n : Nat) (mid post : va_W) : ∀ w : va_W, (pre ++ (w.take n ++ (mid ++ (w.drop n ++ post)))).Perm (w ++ (pre ++ (mid ++ post))) := fun w => by
  have h1 : (pre ++ (w.take n ++ (mid ++ (w.drop n ++ post)))).Perm (w.take n ++ (pre ++ (mid ++ (w.drop n ++ post)))) := pf1 pre _ _
  have h2 : (pre ++ (mid ++ (w.drop n ++ post))).Perm (w.drop n ++ (pre ++ (mid ++ post))) := by
    have := pf1 (pre ++ mid) post (w.drop n)
    rw [List.append_assoc, List.append_assoc] at this
    exact this
  have h3 := h1.trans (List.Perm.append_left (w.take n) h2)
  rw [show w.take n ++ (w.drop n ++ (pre ++ (mid ++ post))) = w ++ (pre ++ (mid ++ post)) by rw [← List.append_assoc, List.take_append_drop]] at h3
  exact h3
/-- a class of the worlds: its fields and what the tables say of them -/
def CK (ci : Nat) (C' : String) (T : u_T) (N : Nat) (ty0 : Nat → FieldType) : Prop := (∀ w ∈ u_ws C' T N, w ∈ wAll) ∧ (∀ k, k < N → parseFieldDescriptor (T k).2.2.1 = some (ty0 k)) ∧ (∀ a, a < N → ∀ b, b < N → a ≠ b → (T a).2.1 ≠ (T b).2.1) ∧ vwCl[ci]? = some (C', T, N)
theorem ck0 : CK 0 RX0 TX0 7 tyX0 := ⟨by decide +kernel, tyX0_ok, nmX0, rfl⟩
theorem ck1 : CK 1 RX1 TX1 4 tyX1 := ⟨by decide +kernel, tyX1_ok, nmX1, rfl⟩
theorem ck2 : CK 2 RX2 TX2 6 tyX2 := ⟨by decide +kernel, tyX2_ok, nmX2, rfl⟩
theorem ck3 : CK 3 RX3 TX3 3 tyX3 := ⟨by decide +kernel, tyX3_ok, nmX3, rfl⟩
theorem ck4 : CK 4 RX4 TX4 6 tyX4 := ⟨by decide +kernel, tyX4_ok, nmX4, rfl⟩
theorem ck5 : CK 5 RX5 TX5 14 tyX5 := ⟨by decide +kernel, tyX5_ok, nmX5, rfl⟩
variable {p : Program} {l : Launch} {e : Env} {R : Room} {s : State} {m : MethodId} {args : Array Value} {below : List Frame} {meth : Method} {c : Code} {g : Gh} {A : Nat → Prop} {cc : ByteArray} {nL : Nat} {own : String} {pc : Nat} {L : List (Nat × Value)} {S : List Value} {ws : va_W} {cells slots : Nat} {Q : State → Prop}
theorem J.world {ws1 : va_W} (h : ws = ws1) (kk : J p l e R s m args below meth c g A nL pc L S ws1 cells slots Q) : J p l e R s m args below meth c g A nL pc L S ws cells slots Q := h ▸ kk
theorem J.to {ws1 : va_W} {L1 : List (Nat × Value)} {S1 : List Value} (h : ws = ws1) (hL : L = L1) (hS : S = S1) (kk : J p l e R s m args below meth c g A nL pc L1 S1 ws1 cells slots Q) : J p l e R s m args below meth c g A nL pc L S ws cells slots Q := by subst h; subst hL; subst hS; exact kk
theorem J.sub {L1 : List (Nat × Value)} (ks : List Nat) (hl : lv_pick L ks = L1) (kk : J p l e R s m args below meth c g A nL pc L1 S ws cells slots Q) : J p l e R s m args below meth c g A nL pc L S ws cells slots Q := fun H locs ls hP hD hS h => kk H locs ls hP hD hS (lv_sub h ks hl)
theorem J.wide {k n : Nat} (h1 : cells ≤ k) (h2 : slots ≤ n) (kk : J p l e R s m args below meth c g A nL pc L S ws k n Q) : J p l e R s m args below meth c g A nL pc L S ws cells slots Q := fun H locs ls hP hD hS h => W.widen h1 h2 (kk H locs ls hP hD hS h)
theorem J.perm {w1 : va_W} (hp : ws.Perm w1) (kk : J p l e R s m args below meth c g A nL pc L S w1 cells slots Q) : J p l e R s m args below meth c g A nL pc L S ws cells slots Q := fun H locs ls hP hD hS h => kk H locs ls (wP_perm hp hP) (wD_perm hp hD) hS h
theorem j_get (C : Cx p g s m args c cc nL own A) {ci index : Nat} {C' : String} {T : u_T} {N : Nat} {ty0 : Nat → FieldType} {a : Nat} {fs : List Value} {v : Value} (K : CK ci C' T N ty0) (q0 k : Nat) (hk : k < N) (hw : Cond.fieldLink own index (T k).1 (T k).2.1 (T k).2.2.1 ∈ wAll) (he : ws[q0]? = some (a, .inr (ci, fs))) (hv : fs[k]? = some v) (hd : decode cc pc = .ok (.getfield index, 3)) (kk : J p l e R s m args below meth c g A nL (pc + 3) L (v :: S) ws cells slots Q) : J p l e R s m args below meth c g A nL pc L (.ref a :: S) ws cells slots Q := by
  intro H locs ls hP hD hS h
  exact va_get C.1 C.2.1 C.2.2.2.2.1 K.1 C.2.2.2.1 C.2.2.2.2.2.2.1 hP q0 he K.2.2.2 k hk (C.2.2.2.2.1 _ hw) (fun _ h9 => h9) hv hd (kk H locs ls hP hD hS h)
theorem j_getN (C : Cx p g s m args c cc nL own A) {ci index : Nat} {C' : String} {T : u_T} {N : Nat} {ty0 : Nat → FieldType} {a : Nat} {fs : List Value} {v : Value} {host : String} (K : CK ci C' T N ty0) (q0 k : Nat) (hk : k < N) (hw : Cond.fieldLinkNest own index (T k).1 (T k).2.1 (T k).2.2.1 host ∈ tables_1) (he : ws[q0]? = some (a, .inr (ci, fs))) (hv : fs[k]? = some v) (hd : decode cc pc = .ok (.getfield index, 3)) (kk : J p l e R s m args below meth c g A nL (pc + 3) L (v :: S) ws cells slots Q) : J p l e R s m args below meth c g A nL pc L (.ref a :: S) ws cells slots Q := by
  intro H locs ls hP hD hS h
  exact va_getN C.1 C.2.1 C.2.2.2.2.1 K.1 C.2.2.2.1 C.2.2.2.2.2.2.1 hP q0 he K.2.2.2 k hk (va_Nw.use rfl (C.2.2.2.2.2.1.1 _ hw rfl)) (fun _ h9 => h9) hv hd (kk H locs ls hP hD hS h)
theorem j_put (C : Cx p g s m args c cc nL own A) {ci index : Nat} {C' : String} {T : u_T} {N : Nat} {ty0 : Nat → FieldType} {a : Nat} {fs : List Value} {v : Value} {ws1 : va_W} (K : CK ci C' T N ty0) (q0 k : Nat) (hk : k < N) (hw : Cond.fieldLink own index (T k).1 (T k).2.1 (T k).2.2.1 ∈ wAll) (he : ws[q0]? = some (a, .inr (ci, fs))) (hd : decode cc pc = .ok (.putfield index, 3)) (hws : ws.set q0 (a, .inr (ci, fs.set k v)) = ws1) (hfin : (T k).2.2.2 = false) (hn : narrow (ty0 k) v = v) (hfit : fits (ty0 k) v = true) (hl : k < fs.length) (kk : J p l e R s m args below meth c g A nL (pc + 3) L S ws1 cells slots Q) : J p l e R s m args below meth c g A nL pc L (v :: .ref a :: S) ws cells slots Q := by
  intro H locs ls hP hD hS h
  subst hws
  exact va_put C.1 C.2.1 C.2.2.2.2.1 K.1 ty0 K.2.1 K.2.2.1 C.2.2.2.1 C.2.2.2.2.2.2.1 hP hD hS q0 he K.2.2.2 k hk (C.2.2.2.2.1 _ hw) (fun _ h9 => h9) hfin (K.2.1 k hk) hn hfit hl hd (fun H1 locs1 hP hD hS => kk H1 locs1 ls hP hD hS h)
theorem j_putN (C : Cx p g s m args c cc nL own A) {ci index : Nat} {C' : String} {T : u_T} {N : Nat} {ty0 : Nat → FieldType} {a : Nat} {fs : List Value} {v : Value} {ws1 : va_W} {host : String} (K : CK ci C' T N ty0) (q0 k : Nat) (hk : k < N) (hw : Cond.fieldLinkNest own index (T k).1 (T k).2.1 (T k).2.2.1 host ∈ tables_1) (he : ws[q0]? = some (a, .inr (ci, fs))) (hd : decode cc pc = .ok (.putfield index, 3)) (hws : ws.set q0 (a, .inr (ci, fs.set k v)) = ws1) (hfin : (T k).2.2.2 = false) (hn : narrow (ty0 k) v = v) (hfit : fits (ty0 k) v = true) (hl : k < fs.length) (kk : J p l e R s m args below meth c g A nL (pc + 3) L S ws1 cells slots Q) : J p l e R s m args below meth c g A nL pc L (v :: .ref a :: S) ws cells slots Q := by
  intro H locs ls hP hD hS h
  subst hws
  exact va_putN C.1 C.2.1 C.2.2.2.2.1 K.1 ty0 K.2.1 K.2.2.1 C.2.2.2.1 C.2.2.2.2.2.2.1 hP hD hS q0 he K.2.2.2 k hk (va_Nw.use rfl (C.2.2.2.2.2.1.1 _ hw rfl)) (fun _ h9 => h9) hfin (K.2.1 k hk) hn hfit hl hd (fun H1 locs1 hP hD hS => kk H1 locs1 ls hP hD hS h)
theorem j_putF (C : Cx p g s m args c cc nL own A) {ci index : Nat} {C' : String} {T : u_T} {N : Nat} {ty0 : Nat → FieldType} {a : Nat} {fs : List Value} {v : Value} {ws1 : va_W} (hin2 : meth.name = "<init>") (K : CK ci C' T N ty0) (q0 k : Nat) (hk : k < N) (hw : Cond.fieldLink own index (T k).1 (T k).2.1 (T k).2.2.1 ∈ wAll) (hdecl : (T k).1 = own) (he : ws[q0]? = some (a, .inr (ci, fs))) (hd : decode cc pc = .ok (.putfield index, 3)) (hws : ws.set q0 (a, .inr (ci, fs.set k v)) = ws1) (hfin : (T k).2.2.2 = true) (hn : narrow (ty0 k) v = v) (hfit : fits (ty0 k) v = true) (hl : k < fs.length) (kk : J p l e R s m args below meth c g A nL (pc + 3) L S ws1 cells slots Q) : J p l e R s m args below meth c g A nL pc L (v :: .ref a :: S) ws cells slots Q := by
  intro H locs ls hP hD hS h
  subst hws
  exact va_putF C.1 C.2.1 C.2.2.2.2.1 K.1 ty0 K.2.1 K.2.2.1 C.2.2.2.1 C.2.2.2.2.2.2.1 hP hD hS q0 he K.2.2.2 k hk (C.2.2.2.2.1 _ hw) (fun _ h9 => h9) hfin hin2 hdecl (K.2.1 k hk) hn hfit hl hd (fun H1 locs1 hP hD hS => kk H1 locs1 ls hP hD hS h)
theorem j_iald (C : Cx p g s m args c cc nL own A) {a n : Nat} {f : Nat → Int} {i : Int} (q0 k : Nat) (he : ws[q0]? = some (a, .inl (gI g, n, .inl (fun j => iI (f j))))) (hk : i = (k : Int)) (hn : k < n) (hN : (n : Int) ≤ 2147483648) (hd : decode cc pc = .ok (.iaload, 1)) (kk : J p l e R s m args below meth c g A nL (pc + 1) L (.int (iI (f k)) :: S) ws cells slots Q) : J p l e R s m args below meth c g A nL pc L (.int (iI i) :: .ref a :: S) ws cells slots Q := by
  intro H locs ls hP hD hS h
  refine va_iald C.1 C.2.1 C.2.2.2.2.2.2.1 hP q0 0 he rfl (iI_in hk hn hN) hd ?_
  rw [iI_clamp hk (by omega)]
  exact kk H locs ls hP hD hS h
theorem j_iast (C : Cx p g s m args c cc nL own A) {a n : Nat} {f : Nat → Int} {i x : Int} {ws1 : va_W} (q0 k : Nat) (he : ws[q0]? = some (a, .inl (gI g, n, .inl (fun j => iI (f j))))) (hk : i = (k : Int)) (hn : k < n) (hN : (n : Int) ≤ 2147483648) (hd : decode cc pc = .ok (.iastore, 1)) (hws : ws.set q0 (a, .inl (gI g, n, .inl (fun j => iI (va_up f k x j)))) = ws1) (kk : J p l e R s m args below meth c g A nL (pc + 1) L S ws1 cells slots Q) : J p l e R s m args below meth c g A nL pc L (.int (iI x) :: .int (iI i) :: .ref a :: S) ws cells slots Q := by
  intro H locs ls hP hD hS h
  subst hws
  refine va_iast C.1 C.2.1 C.2.2.2.2.2.2.1 hP hD hS q0 0 he rfl (iI_in hk hn hN) hd (fun H1 locs1 hP hD hS => ?_)
  rw [iI_clamp hk (by omega), va_up_iI] at hP hD
  exact kk H1 locs1 ls hP hD hS h
theorem j_ilen (C : Cx p g s m args c cc nL own A) {a n : Nat} {f : Nat → Int} {v : Int} (q0 : Nat) (he : ws[q0]? = some (a, .inl (gI g, n, .inl (fun j => iI (f j))))) (hv : (n : Int) = v) (hd : decode cc pc = .ok (.arraylength, 1)) (kk : J p l e R s m args below meth c g A nL (pc + 1) L (.int (iI v) :: S) ws cells slots Q) : J p l e R s m args below meth c g A nL pc L (.ref a :: S) ws cells slots Q := by
  intro H locs ls hP hD hS h
  subst hv
  exact va_alen C.1 C.2.1 C.2.2.2.2.2.2.1 hP q0 0 he rfl (iI_nI n).symm hd (kk H locs ls hP hD hS h)
theorem j_lald (C : Cx p g s m args c cc nL own A) {a n : Nat} {f : Nat → Int} {i : Int} (q0 k : Nat) (he : ws[q0]? = some (a, .inl (gL g, n, .inr (.inl (fun j => lI (f j)))))) (hk : i = (k : Int)) (hn : k < n) (hN : (n : Int) ≤ 2147483648) (hd : decode cc pc = .ok (.laload, 1)) (kk : J p l e R s m args below meth c g A nL (pc + 1) L (.long (lI (f k)) :: S) ws cells slots Q) : J p l e R s m args below meth c g A nL pc L (.int (iI i) :: .ref a :: S) ws cells slots Q := by
  intro H locs ls hP hD hS h
  refine va_lald C.1 C.2.1 C.2.2.2.2.2.2.1 hP q0 1 he rfl (iI_in hk hn hN) hd ?_
  rw [iI_clamp hk (by omega)]
  exact kk H locs ls hP hD hS h
theorem j_last (C : Cx p g s m args c cc nL own A) {a n : Nat} {f : Nat → Int} {i x : Int} {ws1 : va_W} (q0 k : Nat) (he : ws[q0]? = some (a, .inl (gL g, n, .inr (.inl (fun j => lI (f j)))))) (hk : i = (k : Int)) (hn : k < n) (hN : (n : Int) ≤ 2147483648) (hd : decode cc pc = .ok (.lastore, 1)) (hws : ws.set q0 (a, .inl (gL g, n, .inr (.inl (fun j => lI (va_up f k x j))))) = ws1) (kk : J p l e R s m args below meth c g A nL (pc + 1) L S ws1 cells slots Q) : J p l e R s m args below meth c g A nL pc L (.long (lI x) :: .int (iI i) :: .ref a :: S) ws cells slots Q := by
  intro H locs ls hP hD hS h
  subst hws
  refine va_last C.1 C.2.1 C.2.2.2.2.2.2.1 hP hD hS q0 1 he rfl (iI_in hk hn hN) hd (fun H1 locs1 hP hD hS => ?_)
  rw [iI_clamp hk (by omega), va_up_lI] at hP hD
  exact kk H1 locs1 ls hP hD hS h
theorem j_llen (C : Cx p g s m args c cc nL own A) {a n : Nat} {f : Nat → Int} {v : Int} (q0 : Nat) (he : ws[q0]? = some (a, .inl (gL g, n, .inr (.inl (fun j => lI (f j)))))) (hv : (n : Int) = v) (hd : decode cc pc = .ok (.arraylength, 1)) (kk : J p l e R s m args below meth c g A nL (pc + 1) L (.int (iI v) :: S) ws cells slots Q) : J p l e R s m args below meth c g A nL pc L (.ref a :: S) ws cells slots Q := by
  intro H locs ls hP hD hS h
  subst hv
  exact va_alen C.1 C.2.1 C.2.2.2.2.2.2.1 hP q0 1 he rfl (iI_nI n).symm hd (kk H locs ls hP hD hS h)
theorem j_aald (C : Cx p g s m args c cc nL own A) {a n : Nat} {f : Nat → Option Nat} {i : Int} {b : Nat} (q0 k : Nat) (he : ws[q0]? = some (a, .inl (gS g, n, .inr (.inr (.inr (.inr f)))))) (hk : i = (k : Int)) (hn : k < n) (hN : (n : Int) ≤ 2147483648) (hb : f k = some b) (hd : decode cc pc = .ok (.aaload, 1)) (kk : J p l e R s m args below meth c g A nL (pc + 1) L (.ref b :: S) ws cells slots Q) : J p l e R s m args below meth c g A nL pc L (.int (iI i) :: .ref a :: S) ws cells slots Q := by
  intro H locs ls hP hD hS h
  refine va_aldq C.1 C.2.1 C.2.2.2.2.2.2.1 hP q0 2 he rfl (iI_in hk hn hN) hd ?_
  rw [iI_clamp hk (by omega), hb]
  exact kk H locs ls hP hD hS h
theorem j_aalen (C : Cx p g s m args c cc nL own A) {a n : Nat} {f : Nat → Option Nat} {v : Int} (q0 : Nat) (he : ws[q0]? = some (a, .inl (gS g, n, .inr (.inr (.inr (.inr f)))))) (hv : (n : Int) = v) (hd : decode cc pc = .ok (.arraylength, 1)) (kk : J p l e R s m args below meth c g A nL (pc + 1) L (.int (iI v) :: S) ws cells slots Q) : J p l e R s m args below meth c g A nL pc L (.ref a :: S) ws cells slots Q := by
  intro H locs ls hP hD hS h
  subst hv
  exact va_alen C.1 C.2.1 C.2.2.2.2.2.2.1 hP q0 2 he rfl (iI_nI n).symm hd (kk H locs ls hP hD hS h)
theorem j_ifnull (C : Cx p g s m args c cc nL own A) {x : Nat} {off : Int} (hd : decode cc pc = .ok (.ifnull off, 3)) (kk : J p l e R s m args below meth c g A nL (pc + 3) L S ws cells slots Q) : J p l e R s m args below meth c g A nL pc L (.ref x :: S) ws cells slots Q := by
  intro H locs ls hP hD hS h
  exact lv_ifnull C.1 C.2.1 hd (kk H locs ls hP hD hS h)
theorem j_iret (C : Cx p g s m args c cc nL own A) {Post : Option Value → va_W → Prop} {mc ms : Nat} {v : Int32} (hr : meth.sig.returnType = some .int) (hlk : meth.locks = false) (hd : decode cc pc = .ok (.ireturn, 1)) (hpo : Post (some (.int v)) ws) (hc : cells ≤ mc) (hs : slots ≤ ms) : J p l e R s m args below meth c g A nL pc L [.int v] ws cells slots (MQ below (QE g A Post) args s mc ms A) := by
  intro H locs ls hP hD hS h
  refine W.widen hc hs ?_
  exact W.iret C.1 C.2.1 hr (fun t ht hW => ⟨⟨_, ws, rfl, hpo, by rw [ht]; exact hP, hD⟩, hS.F ht⟩) hS.2.2 hd hlk
theorem j_zret (C : Cx p g s m args c cc nL own A) {Post : Option Value → va_W → Prop} {mc ms : Nat} {v : Int32} (hr : meth.sig.returnType = some .boolean) (hlk : meth.locks = false) (hv : narrow .boolean (.int v) = .int v) (hd : decode cc pc = .ok (.ireturn, 1)) (hpo : Post (some (.int v)) ws) (hc : cells ≤ mc) (hs : slots ≤ ms) : J p l e R s m args below meth c g A nL pc L [.int v] ws cells slots (MQ below (QE g A Post) args s mc ms A) := by
  intro H locs ls hP hD hS h
  refine W.widen hc hs ?_
  exact W.zret C.1 C.2.1 hr hv (fun t ht hW => ⟨⟨_, ws, rfl, hpo, by rw [ht]; exact hP, hD⟩, hS.F ht⟩) hS.2.2 hd hlk
theorem j_lret (C : Cx p g s m args c cc nL own A) {Post : Option Value → va_W → Prop} {mc ms : Nat} {v : Int64} (hr : meth.sig.returnType = some .long) (hlk : meth.locks = false) (hd : decode cc pc = .ok (.lreturn, 1)) (hpo : Post (some (.long v)) ws) (hc : cells ≤ mc) (hs : slots ≤ ms) : J p l e R s m args below meth c g A nL pc L [.long v] ws cells slots (MQ below (QE g A Post) args s mc ms A) := by
  intro H locs ls hP hD hS h
  refine W.widen hc hs ?_
  exact W.lret C.1 C.2.1 hr (fun t ht hW => ⟨⟨_, ws, rfl, hpo, by rw [ht]; exact hP, hD⟩, hS.F ht⟩) hS.2.2 hd hlk
theorem j_dret (C : Cx p g s m args c cc nL own A) {Post : Option Value → va_W → Prop} {mc ms : Nat} {v : UInt64} (hr : meth.sig.returnType = some .double) (hlk : meth.locks = false) (hd : decode cc pc = .ok (.dreturn, 1)) (hpo : Post (some (.double v)) ws) (hc : cells ≤ mc) (hs : slots ≤ ms) : J p l e R s m args below meth c g A nL pc L [.double v] ws cells slots (MQ below (QE g A Post) args s mc ms A) := by
  intro H locs ls hP hD hS h
  refine W.widen hc hs ?_
  exact W.dret C.1 C.2.1 hr (fun t ht hW => ⟨⟨_, ws, rfl, hpo, by rw [ht]; exact hP, hD⟩, hS.F ht⟩) hS.2.2 hd hlk
theorem j_vret (C : Cx p g s m args c cc nL own A) {Post : Option Value → va_W → Prop} {mc ms : Nat}  (hr : meth.sig.returnType = none) (hlk : meth.locks = false) (hd : decode cc pc = .ok (.return_, 1)) (hpo : Post none ws) (hc : cells ≤ mc) (hs : slots ≤ ms) : J p l e R s m args below meth c g A nL pc L [] ws cells slots (MQ below (QE g A Post) args s mc ms A) := by
  intro H locs ls hP hD hS h
  refine W.widen hc hs ?_
  exact W.vret C.1 C.2.1 hr (fun t ht hW => ⟨⟨_, ws, rfl, hpo, by rw [ht]; exact hP, hD⟩, hS.F ht⟩) hS.2.2 hd hlk
theorem j_aret (C : Cx p g s m args c cc nL own A) {Post : Option Value → va_W → Prop} {mc ms : Nat} {v : Nat} {n : String} (hr : meth.sig.returnType = some (.object n)) (hlk : meth.locks = false) (hd : decode cc pc = .ok (.areturn, 1)) (hpo : Post (some (.ref v)) ws) (hc : cells ≤ mc) (hs : slots ≤ ms) : J p l e R s m args below meth c g A nL pc L [.ref v] ws cells slots (MQ below (QE g A Post) args s mc ms A) := by
  intro H locs ls hP hD hS h
  refine W.widen hc hs ?_
  exact W.aret C.1 C.2.1 hr (Or.inl ⟨_, rfl⟩) (Or.inr ⟨_, rfl⟩) (fun t ht hW => ⟨⟨_, ws, rfl, hpo, by rw [ht]; exact hP, hD⟩, hS.F ht⟩) hS.2.2 hd hlk
/-- a method, whoever calls it -/
def YV (y : MethodName) (C' : String) (bytes : ByteArray) (maxL : Nat) (ret : Option FieldType) (n : Nat) : Prop := Cond.instanceMethod y ∈ wAll ∧ Cond.selects C' y y ∈ wAll ∧ Cond.initialized C' ∈ wAll ∧ Cond.code y bytes maxL ret ∈ wAll ∧ y.cls = C' ∧ (y.cls ≠ "java/lang/invoke/MethodHandle" ∧ y.cls ≠ "java/lang/invoke/VarHandle") ∧ (parseMethodDescriptor y.desc).map (fun d => d.parameters.length) = some n
def YS (y : MethodName) (C' : String) (bytes : ByteArray) (maxL : Nat) (ret : Option FieldType) (n : Nat) : Prop := Cond.static y ∈ wAll ∧ Cond.initialized C' ∈ wAll ∧ Cond.code y bytes maxL ret ∈ wAll ∧ y.cls = C' ∧ (y.cls ≠ "java/lang/invoke/MethodHandle" ∧ y.cls ≠ "java/lang/invoke/VarHandle") ∧ (parseMethodDescriptor y.desc).map (fun d => d.parameters.length) = some n
def YI (y : MethodName) (C' : String) (bytes : ByteArray) (maxL : Nat) (n : Nat) : Prop := Cond.instanceMethod y ∈ wAll ∧ Cond.initialized C' ∈ wAll ∧ Cond.code y bytes maxL none ∈ wAll ∧ y.cls = C' ∧ y.name = "<init>" ∧ (y.cls ≠ "java/lang/invoke/MethodHandle" ∧ y.cls ≠ "java/lang/invoke/VarHandle") ∧ (parseMethodDescriptor y.desc).map (fun d => d.parameters.length) = some n
theorem gW {y : MethodName} {bytes : ByteArray} {maxL : Nat} {ret : Option FieldType} (h : Cond.code y bytes maxL ret ∈ wAll) : GoodIn wAll (Cond.code y bytes maxL ret :: wAll) := by
  intro w hw
  rcases List.mem_cons.mp hw with rfl | hw
  · exact ⟨h, wAll_good h⟩
  · exact ⟨hw, wAll_good hw⟩
theorem jPre {p : Program} {g : Gh} {s : State} {m : MethodId} {args : Array Value} {c : Code} {cc : ByteArray} {nL : Nat} {own : String} {A : Nat → Prop} (C : Cx p g s m args c cc nL own A) {H : Heap} {locs : List Loc} {wc wr : va_W} (hP : va_P (gD g) vwCl (wc ++ wr) H) (hD : va_D A (wc ++ wr)) (hS : va_S A s.heap H locs) (av : List Value) :
    (∀ U : State, U.heap = H → s.WarmedH U.vm → va_Pc av (PU g wc H.size) av.toArray U) ∧ (∀ q, va_A wc H.size q → A q) := by
  obtain ⟨-, -, -, -, -, hN, hK, hA, hX⟩ := C
  have hsub : ∀ q, va_A wc H.size q → A q := by
    intro q h
    rcases wA_iff.mp h with ⟨e, he, rfl⟩ | h
    · exact (wD_iff.mp hD).2 e (List.mem_append_left _ he)
    · exact hA q (Nat.le_trans hS.1 h)
  refine ⟨fun U hU hW => ⟨rfl, by rw [hU], ?_, hK.moved hW.alike, ?_, hN.warm hW, ?_⟩, hsub⟩
  · rw [hU, wP_iff]; exact fun q hq => wP_iff.mp hP q (List.mem_append_left _ hq)
  · have h9 := (wD_iff.mp hD).1
    rw [List.map_append, List.nodup_append] at h9
    exact wD_iff.mpr ⟨h9.1, fun _ _ => trivial⟩
  · rw [hU]; exact ((hX.kept hS.2.1).moved hW.alike).narrow hsub
theorem j_run {mc ms : Nat} {wc wr : va_W} {F : va_W → va_W} {Post : Option Value → va_W → Prop} {st0 rest : List Value} {a9 : Array Value} (C : Cx p g s m args c cc nL own A) (hF : ∀ w : va_W, (F w).Perm (w ++ wr)) (hws : ws = F wc)
    (hr : ∀ (H : Heap) (locs : List Loc) (ls : Array Slot), va_P (gD g) vwCl (wc ++ wr) H → va_D A (wc ++ wr) → va_S A s.heap H locs → ls.size = nL → va_Run p l e R s m args below meth c H locs cells slots mc ms (F0 m pc ls st0) rest (QE g (va_A wc H.size) Post a9) (va_A wc H.size))
    (kk : ∀ (r : Option Value) (w' : va_W), Post r w' → J p l e R s m args below meth c g A nL (pc + 3) L (r.toList ++ rest) (F w') (cells + mc) (slots + ms) Q) : J p l e R s m args below meth c g A nL pc L st0 ws cells slots Q := by
  intro H locs ls hP hD hS h T hT X
  subst hws
  have hP := wP_perm (hF wc) hP
  have hD := wD_perm (hF wc) hD
  have hsub := (jPre C hP hD hS []).2
  obtain ⟨v, st₀, t, T', L9, h0, X', hL, e1, e2, ⟨⟨r, w', hv, hpo, hP1, hD1⟩, hz, hk⟩, st⟩ := hr H locs ls hP hD hS h.1 T hT X
  cases hv
  rw [h0] at hz hk
  rw [← e1] at hz hk hP1
  obtain ⟨hP2, hD2⟩ := wJoin hP hD hsub hP1 hD1 hk
  obtain ⟨t2, a1, b1⟩ := kk v w' hpo T'.heap (locs ++ L9) ls (wP_perm (hF w').symm hP2) (wD_perm (hF w').symm hD2)
    ⟨Nat.le_trans hS.1 hz, fun q h1 h2 => by rw [hk q (Nat.lt_of_lt_of_le h1 hS.1) (fun z => h2 (hsub q z))]; exact hS.2.1 q h1 h2, fun q hq => by
      rcases List.mem_append.mp hq with h9 | h9
      · exact hS.2.2 q h9
      · exact hsub _ (hL q h9)⟩ h T' rfl X'
  exact ⟨t2, st t2 a1, b1⟩
theorem j_callV (C : Cx p g s m args c cc nL own A) {index maxL n : Nat} {y : MethodName} {C' : String} {bytes : ByteArray} {ret : Option FieldType} {rm : Room} {As rest st0 : List Value} {wc wr : va_W} {F : va_W → va_W} {Post : Option Value → va_W → Prop} {b ci N : Nat} {fs : List Value} {T : u_T} (Y : YV y C' bytes maxL ret n) (hw : Cond.methodLink own index y ∈ wAll) (hM : CT l g y bytes maxL ret rm (.ref b :: As) wc Post) (hR : rm.frames + 1 ≤ R.frames ∧ 8 + (maxL + 11) + rm.locals ≤ R.locals) (q0 : Nat) (he : ws[q0]? = some (b, .inr (ci, fs))) (hc : vwCl[ci]? = some (C', T, N)) (hst : st0 = As.reverse ++ .ref b :: rest) (hd : decode cc pc = .ok (.invokevirtual index, 3)) (hn : As.length = n) (hsum : (rest.map fun v => v.category).sum ≤ 8) (hf : cells + rm.cells ≤ R.cells ∧ slots + rm.slots ≤ R.slots) (hF : ∀ w : va_W, (F w).Perm (w ++ wr)) (hws : ws = F wc) (kk : ∀ (r : Option Value) (w' : va_W), Post r w' → J p l e R s m args below meth c g A nL (pc + 3) L (r.toList ++ rest) (F w') (cells + rm.cells) (slots + rm.slots) Q) : J p l e R s m args below meth c g A nL pc L st0 ws cells slots Q := by
  obtain ⟨y1, y2, y3, y4, rfl, y6, y7⟩ := Y
  refine j_run (a9 := (Value.ref b :: As).toArray) C hF hws (fun H locs ls hP hD hS hsz => ?_) kk
  have hcell : ∃ cellB : Cell, H[b]? = some cellB ∧ cellB.vm.isStatics = false ∧ s.vm.findClass y.cls = some cellB.cls := by
    have hq : (b, (Sum.inr (ci, fs) : va_E)) ∈ wc ++ wr := (hF wc).mem_iff.mp (hws ▸ List.mem_of_getElem? he)
    obtain ⟨i9, h9⟩ := List.getElem?_of_mem hq
    exact va_recv C.2.2.2.2.2.2.1 hP hc h9
  exact va_runV (As := As) (rest := rest) ⟨C.1, C.2.1, C.2.2.1, C.2.2.2.1, C.2.2.2.2.1⟩ (hM H.size) ⟨callB_of (Ts := wAll) n C.2.2.2.2.1 (gW y4) rfl rfl rfl (C.2.2.2.2.1 _ y3) (C.2.2.2.2.1 _ hw) ⟨y6.1, y6.2, y7⟩ hR, C.2.2.2.2.1 _ y1, C.2.2.2.2.1 _ y2⟩ ⟨PU.blind, hcell, fun U hU hW => (jPre C hP hD hS (.ref b :: As)).1 U hU hW⟩ rfl hn hsz hst (lv_room hsum) hd hf
theorem j_callS (C : Cx p g s m args c cc nL own A) {index maxL n : Nat} {y : MethodName} {C' : String} {bytes : ByteArray} {ret : Option FieldType} {rm : Room} {As rest st0 : List Value} {wc wr : va_W} {F : va_W → va_W} {Post : Option Value → va_W → Prop} (Y : YS y C' bytes maxL ret n) (hw : Cond.methodLink own index y ∈ wAll) (hM : CT l g y bytes maxL ret rm As wc Post) (hR : rm.frames + 1 ≤ R.frames ∧ 8 + (maxL + 11) + rm.locals ≤ R.locals) (hst : st0 = As.reverse ++ rest) (hd : decode cc pc = .ok (.invokestatic index, 3)) (hn : As.length = n) (hsum : (rest.map fun v => v.category).sum ≤ 8) (hf : cells + rm.cells ≤ R.cells ∧ slots + rm.slots ≤ R.slots) (hF : ∀ w : va_W, (F w).Perm (w ++ wr)) (hws : ws = F wc) (kk : ∀ (r : Option Value) (w' : va_W), Post r w' → J p l e R s m args below meth c g A nL (pc + 3) L (r.toList ++ rest) (F w') (cells + rm.cells) (slots + rm.slots) Q) : J p l e R s m args below meth c g A nL pc L st0 ws cells slots Q := by
  obtain ⟨y1, y3, y4, rfl, y6, y7⟩ := Y
  refine j_run (a9 := As.toArray) C hF hws (fun H locs ls hP hD hS hsz => ?_) kk
  exact va_runS (As := As) (rest := rest) ⟨C.1, C.2.1, C.2.2.1, C.2.2.2.1, C.2.2.2.2.1⟩ (hM H.size) ⟨callB_of (Ts := wAll) n C.2.2.2.2.1 (gW y4) rfl rfl rfl (C.2.2.2.2.1 _ y3) (C.2.2.2.2.1 _ hw) ⟨y6.1, y6.2, y7⟩ hR, C.2.2.2.2.1 _ y1⟩ ⟨PU.blind, fun U hU hW => (jPre C hP hD hS As).1 U hU hW⟩ rfl hn hsz hst (lv_room hsum) hd hf
theorem j_callSN (C : Cx p g s m args c cc nL own A) {index maxL n : Nat} {y : MethodName} {C' : String} {bytes : ByteArray} {ret : Option FieldType} {rm : Room} {As rest st0 : List Value} {wc wr : va_W} {F : va_W → va_W} {Post : Option Value → va_W → Prop} {host : String} (Y : YS y C' bytes maxL ret n) (hw : Cond.methodLinkNest own index y host ∈ tables_1) (hM : CT l g y bytes maxL ret rm As wc Post) (hR : rm.frames + 1 ≤ R.frames ∧ 8 + (maxL + 11) + rm.locals ≤ R.locals) (hst : st0 = As.reverse ++ rest) (hd : decode cc pc = .ok (.invokestatic index, 3)) (hn : As.length = n) (hsum : (rest.map fun v => v.category).sum ≤ 8) (hf : cells + rm.cells ≤ R.cells ∧ slots + rm.slots ≤ R.slots) (hF : ∀ w : va_W, (F w).Perm (w ++ wr)) (hws : ws = F wc) (kk : ∀ (r : Option Value) (w' : va_W), Post r w' → J p l e R s m args below meth c g A nL (pc + 3) L (r.toList ++ rest) (F w') (cells + rm.cells) (slots + rm.slots) Q) : J p l e R s m args below meth c g A nL pc L st0 ws cells slots Q := by
  obtain ⟨y1, y3, y4, rfl, y6, y7⟩ := Y
  refine j_run (a9 := As.toArray) C hF hws (fun H locs ls hP hD hS hsz => ?_) kk
  exact va_runSN (As := As) (rest := rest) ⟨C.1, C.2.1, C.2.2.1, C.2.2.2.1, C.2.2.2.2.1⟩ (hM H.size) ⟨va_cnB n C.2.2.2.2.1 (gW y4) rfl rfl rfl (C.2.2.2.2.2.1.1 _ hw rfl) (C.2.2.2.2.1 _ y3) ⟨y6.1, y6.2, y7⟩ hR, C.2.2.2.2.1 _ y1, trivial⟩ ⟨PU.blind, fun U hU hW => (jPre C hP hD hS As).1 U hU hW⟩ rfl hn hsz hst (lv_room hsum) hd hf
theorem j_callI (C : Cx p g s m args c cc nL own A) {index maxL n : Nat} {y : MethodName} {C' : String} {bytes : ByteArray} {rm : Room} {As rest st0 : List Value} {wc wr : va_W} {F : va_W → va_W} {Post : Option Value → va_W → Prop} {b : Nat} (Y : YI y C' bytes maxL n) (hw : Cond.methodLink own index y ∈ wAll) (hM : CT l g y bytes maxL none rm (.ref b :: As) wc Post) (hR : rm.frames + 1 ≤ R.frames ∧ 8 + (maxL + 11) + rm.locals ≤ R.locals) (hst : st0 = As.reverse ++ .ref b :: rest) (hd : decode cc pc = .ok (.invokespecial index, 3)) (hn : As.length = n) (hsum : (rest.map fun v => v.category).sum ≤ 8) (hf : cells + rm.cells ≤ R.cells ∧ slots + rm.slots ≤ R.slots) (hF : ∀ w : va_W, (F w).Perm (w ++ wr)) (hws : ws = F wc) (kk : ∀ (r : Option Value) (w' : va_W), Post r w' → J p l e R s m args below meth c g A nL (pc + 3) L (r.toList ++ rest) (F w') (cells + rm.cells) (slots + rm.slots) Q) : J p l e R s m args below meth c g A nL pc L st0 ws cells slots Q := by
  obtain ⟨y1, y3, y4, rfl, yn, y6, y7⟩ := Y
  refine j_run (a9 := (Value.ref b :: As).toArray) C hF hws (fun H locs ls hP hD hS hsz => ?_) kk
  exact va_runI (As := As) (rest := rest) ⟨C.1, C.2.1, C.2.2.1, C.2.2.2.1, C.2.2.2.2.1⟩ (hM H.size) ⟨callB_of (Ts := wAll) n C.2.2.2.2.1 (gW y4) rfl rfl rfl (C.2.2.2.2.1 _ y3) (C.2.2.2.2.1 _ hw) ⟨y6.1, y6.2, y7⟩ hR, yn, C.2.2.2.2.1 _ y1⟩ ⟨PU.blind, fun U hU hW => (jPre C hP hD hS (.ref b :: As)).1 U hU hW⟩ rfl hn hsz hst (lv_room hsum) hd hf
theorem j_callIN (C : Cx p g s m args c cc nL own A) {index maxL n : Nat} {y : MethodName} {C' : String} {bytes : ByteArray} {rm : Room} {As rest st0 : List Value} {wc wr : va_W} {F : va_W → va_W} {Post : Option Value → va_W → Prop} {b : Nat} {host : String} (Y : YI y C' bytes maxL n) (hw : Cond.methodLinkNest own index y host ∈ tables_1) (hM : CT l g y bytes maxL none rm (.ref b :: As) wc Post) (hR : rm.frames + 1 ≤ R.frames ∧ 8 + (maxL + 11) + rm.locals ≤ R.locals) (hst : st0 = As.reverse ++ .ref b :: rest) (hd : decode cc pc = .ok (.invokespecial index, 3)) (hn : As.length = n) (hsum : (rest.map fun v => v.category).sum ≤ 8) (hf : cells + rm.cells ≤ R.cells ∧ slots + rm.slots ≤ R.slots) (hF : ∀ w : va_W, (F w).Perm (w ++ wr)) (hws : ws = F wc) (kk : ∀ (r : Option Value) (w' : va_W), Post r w' → J p l e R s m args below meth c g A nL (pc + 3) L (r.toList ++ rest) (F w') (cells + rm.cells) (slots + rm.slots) Q) : J p l e R s m args below meth c g A nL pc L st0 ws cells slots Q := by
  obtain ⟨y1, y3, y4, rfl, yn, y6, y7⟩ := Y
  refine j_run (a9 := (Value.ref b :: As).toArray) C hF hws (fun H locs ls hP hD hS hsz => ?_) kk
  exact va_runIN (As := As) (rest := rest) ⟨C.1, C.2.1, C.2.2.1, C.2.2.2.1, C.2.2.2.2.1⟩ (hM H.size) ⟨va_cnB n C.2.2.2.2.1 (gW y4) rfl rfl rfl (C.2.2.2.2.2.1.1 _ hw rfl) (C.2.2.2.2.1 _ y3) ⟨y6.1, y6.2, y7⟩ hR, yn, C.2.2.2.2.1 _ y1⟩ ⟨PU.blind, fun U hU hW => (jPre C hP hD hS (.ref b :: As)).1 U hU hW⟩ rfl hn hsz hst (lv_room hsum) hd hf
theorem j_mmin (C : Cx p g s m args c cc nL own A) {index : Nat} {x y : Int} (hx : -2147483648 ≤ x ∧ x < 2147483648) (hy : -2147483648 ≤ y ∧ y < 2147483648) (hw : Cond.methodLink own index Lib.Math.min.name ∈ wAll) (w2 : Cond.static Lib.Math.min.name ∈ wAll) (w3 : Cond.initialized "java/lang/Math" ∈ wAll) (w4 : Cond.code Lib.Math.min.name Lib.Math.min.code 2 (some .int) ∈ wAll) (hfr : 1 ≤ R.frames) (hlo : (S.map fun v => v.category).sum + 13 ≤ R.locals) (hf : cells ≤ R.cells ∧ slots ≤ R.slots) (hd : decode cc pc = .ok (.invokestatic index, 3)) (kk : J p l e R s m args below meth c g A nL (pc + 3) L (.int (iI (if y < x then y else x)) :: S) ws cells slots Q) : J p l e R s m args below meth c g A nL pc L (.int (iI y) :: .int (iI x) :: S) ws cells slots Q := by
  intro H locs ls hP hD hS h
  refine va_mmin C.1 C.2.1 (C.2.2.1.trans h.1.symm) C.2.2.2.1 (C.2.2.2.2.1 _ hw) (C.2.2.2.2.1 _ w2) (C.2.2.2.2.1 _ w3) (C.2.2.2.2.1 _ w4) hfr hlo hf.1 hf.2 hd ?_
  have e : (if iI y < iI x then iI y else iI x) = iI (if y < x then y else x) := by
    simp only [iI_lt hy hx]
    split <;> rfl
  rw [e]
  exact kk H locs ls hP hD hS h
theorem j_mmax (C : Cx p g s m args c cc nL own A) {index : Nat} {x y : Int} (hx : -2147483648 ≤ x ∧ x < 2147483648) (hy : -2147483648 ≤ y ∧ y < 2147483648) (hw : Cond.methodLink own index Lib.Math.max.name ∈ wAll) (w2 : Cond.static Lib.Math.max.name ∈ wAll) (w3 : Cond.initialized "java/lang/Math" ∈ wAll) (w4 : Cond.code Lib.Math.max.name Lib.Math.max.code 2 (some .int) ∈ wAll) (hfr : 1 ≤ R.frames) (hlo : (S.map fun v => v.category).sum + 13 ≤ R.locals) (hf : cells ≤ R.cells ∧ slots ≤ R.slots) (hd : decode cc pc = .ok (.invokestatic index, 3)) (kk : J p l e R s m args below meth c g A nL (pc + 3) L (.int (iI (if x < y then y else x)) :: S) ws cells slots Q) : J p l e R s m args below meth c g A nL pc L (.int (iI y) :: .int (iI x) :: S) ws cells slots Q := by
  intro H locs ls hP hD hS h
  refine va_mmax C.1 C.2.1 (C.2.2.1.trans h.1.symm) C.2.2.2.1 (C.2.2.2.2.1 _ hw) (C.2.2.2.2.1 _ w2) (C.2.2.2.2.1 _ w3) (C.2.2.2.2.1 _ w4) hfr hlo hf.1 hf.2 hd ?_
  have e : (if iI x < iI y then iI y else iI x) = iI (if x < y then y else x) := by
    simp only [iI_lt hx hy]
    split <;> rfl
  rw [e]
  exact kk H locs ls hP hD hS h
end JW
end
section
/-! short words for cells -/
abbrev aI (g : Gh) (n : Nat) (f : Nat → Int) : va_E := .inl (gI g, n, .inl (fun j => iI (f j)))
abbrev aL (g : Gh) (n : Nat) (f : Nat → Int) : va_E := .inl (gL g, n, .inr (.inl (fun j => lI (f j))))
abbrev aS (g : Gh) (n : Nat) (f : Nat → Option Nat) : va_E := .inl (gS g, n, .inr (.inr (.inr (.inr f))))
section JM
variable {p : Program} {l : Launch} {e : Env} {R : Room} {s : State} {m : MethodId} {args : Array Value} {below : List Frame} {meth : Method} {c : Code} {g : Gh} {A : Nat → Prop} {cc : ByteArray} {nL : Nat} {own : String} {pc : Nat} {L : List (Nat × Value)} {S : List Value} {ws : va_W} {cells slots : Nat} {Q : State → Prop}
theorem j_lif_lt (C : Cx p g s m args c cc nL own A) {x y off : Int} {tgt : Nat} (hx : -9223372036854775808 ≤ x ∧ x < 9223372036854775808) (hy : -9223372036854775808 ≤ y ∧ y < 9223372036854775808) (hd : decode cc pc = .ok (.lcmp, 1)) (hd2 : decode cc (pc + 1) = .ok (.ifCond .lt off, 3)) (ht : ((pc + 1 : Nat) : Int) + off = (tgt : Int)) (kt : x < y → J p l e R s m args below meth c g A nL tgt L S ws cells slots Q) (kf : y ≤ x → J p l e R s m args below meth c g A nL (pc + 4) L S ws cells slots Q) : J p l e R s m args below meth c g A nL pc L (.long (lI y) :: .long (lI x) :: S) ws cells slots Q := by
  have hr : -2147483648 ≤ (if y < x then (1 : Int) else if x = y then 0 else -1) ∧ (if y < x then (1 : Int) else if x = y then 0 else -1) < 2147483648 := by
    split
    · omega
    · split <;> omega
  refine j_lcmp C hx hy hd ?_
  refine j_if_lt C hr hd2 ht (fun h9 => kt ?_) (fun h9 => kf ?_)
  · split at h9
    · omega
    · split at h9 <;> omega
  · split at h9
    · omega
    · split at h9 <;> omega
theorem j_lif_ge (C : Cx p g s m args c cc nL own A) {x y off : Int} {tgt : Nat} (hx : -9223372036854775808 ≤ x ∧ x < 9223372036854775808) (hy : -9223372036854775808 ≤ y ∧ y < 9223372036854775808) (hd : decode cc pc = .ok (.lcmp, 1)) (hd2 : decode cc (pc + 1) = .ok (.ifCond .ge off, 3)) (ht : ((pc + 1 : Nat) : Int) + off = (tgt : Int)) (kt : y ≤ x → J p l e R s m args below meth c g A nL tgt L S ws cells slots Q) (kf : x < y → J p l e R s m args below meth c g A nL (pc + 4) L S ws cells slots Q) : J p l e R s m args below meth c g A nL pc L (.long (lI y) :: .long (lI x) :: S) ws cells slots Q := by
  have hr : -2147483648 ≤ (if y < x then (1 : Int) else if x = y then 0 else -1) ∧ (if y < x then (1 : Int) else if x = y then 0 else -1) < 2147483648 := by
    split
    · omega
    · split <;> omega
  refine j_lcmp C hx hy hd ?_
  refine j_if_ge C hr hd2 ht (fun h9 => kt ?_) (fun h9 => kf ?_)
  · split at h9
    · omega
    · split at h9 <;> omega
  · split at h9
    · omega
    · split at h9 <;> omega
theorem j_lif_gt (C : Cx p g s m args c cc nL own A) {x y off : Int} {tgt : Nat} (hx : -9223372036854775808 ≤ x ∧ x < 9223372036854775808) (hy : -9223372036854775808 ≤ y ∧ y < 9223372036854775808) (hd : decode cc pc = .ok (.lcmp, 1)) (hd2 : decode cc (pc + 1) = .ok (.ifCond .gt off, 3)) (ht : ((pc + 1 : Nat) : Int) + off = (tgt : Int)) (kt : y < x → J p l e R s m args below meth c g A nL tgt L S ws cells slots Q) (kf : x ≤ y → J p l e R s m args below meth c g A nL (pc + 4) L S ws cells slots Q) : J p l e R s m args below meth c g A nL pc L (.long (lI y) :: .long (lI x) :: S) ws cells slots Q := by
  have hr : -2147483648 ≤ (if y < x then (1 : Int) else if x = y then 0 else -1) ∧ (if y < x then (1 : Int) else if x = y then 0 else -1) < 2147483648 := by
    split
    · omega
    · split <;> omega
  refine j_lcmp C hx hy hd ?_
  refine j_if_gt C hr hd2 ht (fun h9 => kt ?_) (fun h9 => kf ?_)
  · split at h9
    · omega
    · split at h9 <;> omega
  · split at h9
    · omega
    · split at h9 <;> omega
theorem j_lif_le (C : Cx p g s m args c cc nL own A) {x y off : Int} {tgt : Nat} (hx : -9223372036854775808 ≤ x ∧ x < 9223372036854775808) (hy : -9223372036854775808 ≤ y ∧ y < 9223372036854775808) (hd : decode cc pc = .ok (.lcmp, 1)) (hd2 : decode cc (pc + 1) = .ok (.ifCond .le off, 3)) (ht : ((pc + 1 : Nat) : Int) + off = (tgt : Int)) (kt : x ≤ y → J p l e R s m args below meth c g A nL tgt L S ws cells slots Q) (kf : y < x → J p l e R s m args below meth c g A nL (pc + 4) L S ws cells slots Q) : J p l e R s m args below meth c g A nL pc L (.long (lI y) :: .long (lI x) :: S) ws cells slots Q := by
  have hr : -2147483648 ≤ (if y < x then (1 : Int) else if x = y then 0 else -1) ∧ (if y < x then (1 : Int) else if x = y then 0 else -1) < 2147483648 := by
    split
    · omega
    · split <;> omega
  refine j_lcmp C hx hy hd ?_
  refine j_if_le C hr hd2 ht (fun h9 => kt ?_) (fun h9 => kf ?_)
  · split at h9
    · omega
    · split at h9 <;> omega
  · split at h9
    · omega
    · split at h9 <;> omega
theorem j_lif_eq (C : Cx p g s m args c cc nL own A) {x y off : Int} {tgt : Nat} (hx : -9223372036854775808 ≤ x ∧ x < 9223372036854775808) (hy : -9223372036854775808 ≤ y ∧ y < 9223372036854775808) (hd : decode cc pc = .ok (.lcmp, 1)) (hd2 : decode cc (pc + 1) = .ok (.ifCond .eq off, 3)) (ht : ((pc + 1 : Nat) : Int) + off = (tgt : Int)) (kt : x = y → J p l e R s m args below meth c g A nL tgt L S ws cells slots Q) (kf : x ≠ y → J p l e R s m args below meth c g A nL (pc + 4) L S ws cells slots Q) : J p l e R s m args below meth c g A nL pc L (.long (lI y) :: .long (lI x) :: S) ws cells slots Q := by
  have hr : -2147483648 ≤ (if y < x then (1 : Int) else if x = y then 0 else -1) ∧ (if y < x then (1 : Int) else if x = y then 0 else -1) < 2147483648 := by
    split
    · omega
    · split <;> omega
  refine j_lcmp C hx hy hd ?_
  refine j_if_eq C hr hd2 ht (fun h9 => kt ?_) (fun h9 => kf ?_)
  · split at h9
    · omega
    · split at h9 <;> omega
  · split at h9
    · omega
    · split at h9 <;> omega
theorem j_lif_ne (C : Cx p g s m args c cc nL own A) {x y off : Int} {tgt : Nat} (hx : -9223372036854775808 ≤ x ∧ x < 9223372036854775808) (hy : -9223372036854775808 ≤ y ∧ y < 9223372036854775808) (hd : decode cc pc = .ok (.lcmp, 1)) (hd2 : decode cc (pc + 1) = .ok (.ifCond .ne off, 3)) (ht : ((pc + 1 : Nat) : Int) + off = (tgt : Int)) (kt : x ≠ y → J p l e R s m args below meth c g A nL tgt L S ws cells slots Q) (kf : x = y → J p l e R s m args below meth c g A nL (pc + 4) L S ws cells slots Q) : J p l e R s m args below meth c g A nL pc L (.long (lI y) :: .long (lI x) :: S) ws cells slots Q := by
  have hr : -2147483648 ≤ (if y < x then (1 : Int) else if x = y then 0 else -1) ∧ (if y < x then (1 : Int) else if x = y then 0 else -1) < 2147483648 := by
    split
    · omega
    · split <;> omega
  refine j_lcmp C hx hy hd ?_
  refine j_if_ne C hr hd2 ht (fun h9 => kt ?_) (fun h9 => kf ?_)
  · split at h9
    · omega
    · split at h9 <;> omega
  · split at h9
    · omega
    · split at h9 <;> omega
theorem j_objInit (C : Cx p g s m args c cc nL own A) {index a : Nat} (hw : Cond.methodLink own index Lib.objectInit ∈ wAll) (hd : decode cc pc = .ok (.invokespecial index, 3)) (hf : 1 ≤ R.frames) (hlo : (S.map fun v => v.category).sum + 12 ≤ R.locals) (kk : J p l e R s m args below meth c g A nL (pc + 3) L S ws cells slots Q) : J p l e R s m args below meth c g A nL pc L (.ref a :: S) ws cells slots Q := by
  intro H locs ls hP hD hS h
  exact W.objInit C.1 C.2.1 C.2.2.2.1 (C.2.2.2.2.1 _ hw) (C.2.2.2.2.1 _ qw20) (C.2.2.2.2.1 _ qw21) rfl (h.1.trans C.2.2.1.symm) rfl hd hf (by show 2 * 0 + _ + 12 ≤ _; omega) (kk H locs ls hP hD hS h)
end JM
theorem qw_min1 : Cond.static Lib.Math.min.name ∈ wAll := qw306
theorem qw_min2 : Cond.initialized "java/lang/Math" ∈ wAll := qw12
theorem qw_min3 : Cond.code Lib.Math.min.name Lib.Math.min.code 2 (some .int) ∈ wAll := qw307
theorem qw_max1 : Cond.static Lib.Math.max.name ∈ wAll := qw212
theorem qw_max2 : Cond.initialized "java/lang/Math" ∈ wAll := qw12
theorem qw_max3 : Cond.code Lib.Math.max.name Lib.Math.max.code 2 (some .int) ∈ wAll := qw213
theorem yi_X4_init : YI yX4_init RX4 cX4_init 2 0 := ⟨qw17, qw1, qw18, rfl, rfl, ⟨by decide +kernel, by decide +kernel⟩, by decide +kernel⟩
theorem yi_X2_init : YI yX2_init RX2 cX2_init 2 0 := ⟨qw25, qw2, qw26, rfl, rfl, ⟨by decide +kernel, by decide +kernel⟩, by decide +kernel⟩
theorem yi_X1_init : YI yX1_init RX1 cX1_init 1 0 := ⟨qw31, qw3, qw32, rfl, rfl, ⟨by decide +kernel, by decide +kernel⟩, by decide +kernel⟩
theorem yi_X0_init : YI yX0_init RX0 cX0_init 1 0 := ⟨qw56, qw4, qw57, rfl, rfl, ⟨by decide +kernel, by decide +kernel⟩, by decide +kernel⟩
theorem yi_X3_init : YI yX3_init RX3 cX3_init 1 0 := ⟨qw116, qw5, qw117, rfl, rfl, ⟨by decide +kernel, by decide +kernel⟩, by decide +kernel⟩
theorem yv_X4_work : YV yX4_work RX4 cX4_work 2 (some FieldType.long) 1 := ⟨qw151, qw152, qw1, qw153, rfl, ⟨by decide +kernel, by decide +kernel⟩, by decide +kernel⟩
theorem yv_X4_first : YV yX4_first RX4 cX4_first 1 (some FieldType.int) 0 := ⟨qw155, qw156, qw1, qw157, rfl, ⟨by decide +kernel, by decide +kernel⟩, by decide +kernel⟩
theorem yv_X2_reckonForces : YV yX2_reckonForces RX2 cX2_reckonForces 3 none 1 := ⟨qw159, qw160, qw2, qw161, rfl, ⟨by decide +kernel, by decide +kernel⟩, by decide +kernel⟩
theorem yv_X2_leastForceFor : YV yX2_leastForceFor RX2 cX2_leastForceFor 3 (some FieldType.int) 2 := ⟨qw163, qw164, qw2, qw165, rfl, ⟨by decide +kernel, by decide +kernel⟩, by decide +kernel⟩
theorem yv_X2_weightOf : YV yX2_weightOf RX2 cX2_weightOf 2 (some FieldType.int) 1 := ⟨qw167, qw168, qw2, qw169, rfl, ⟨by decide +kernel, by decide +kernel⟩, by decide +kernel⟩
theorem ys_X4_at : YS yX4_at RX4 cX4_at 2 (some FieldType.int) 2 := ⟨qw171, qw1, qw172, rfl, ⟨by decide +kernel, by decide +kernel⟩, by decide +kernel⟩
theorem yv_X1_leastForce : YV yX1_leastForce RX1 cX1_leastForce 8 (some FieldType.int) 3 := ⟨qw174, qw175, qw3, qw176, rfl, ⟨by decide +kernel, by decide +kernel⟩, by decide +kernel⟩
theorem yv_X1_strandsOf : YV yX1_strandsOf RX1 cX1_strandsOf 2 (some FieldType.int) 1 := ⟨qw178, qw179, qw3, qw180, rfl, ⟨by decide +kernel, by decide +kernel⟩, by decide +kernel⟩
theorem yv_X1_pulleysOn : YV yX1_pulleysOn RX1 cX1_pulleysOn 4 (some FieldType.int) 1 := ⟨qw182, qw183, qw3, qw184, rfl, ⟨by decide +kernel, by decide +kernel⟩, by decide +kernel⟩
theorem yv_X1_pullOn : YV yX1_pullOn RX1 cX1_pullOn 11 (some FieldType.long) 3 := ⟨qw187, qw188, qw3, qw189, rfl, ⟨by decide +kernel, by decide +kernel⟩, by decide +kernel⟩
theorem yv_X1_behindOne : YV yX1_behindOne RX1 cX1_behindOne 6 (some FieldType.long) 2 := ⟨qw191, qw192, qw3, qw193, rfl, ⟨by decide +kernel, by decide +kernel⟩, by decide +kernel⟩
theorem yv_X2_nextToRise : YV yX2_nextToRise RX2 cX2_nextToRise 7 (some FieldType.int) 1 := ⟨qw197, qw198, qw2, qw199, rfl, ⟨by decide +kernel, by decide +kernel⟩, by decide +kernel⟩
theorem yv_X2_heightOf : YV yX2_heightOf RX2 cX2_heightOf 2 (some FieldType.int) 1 := ⟨qw201, qw202, qw2, qw203, rfl, ⟨by decide +kernel, by decide +kernel⟩, by decide +kernel⟩
theorem yv_X4_forceForAll : YV yX4_forceForAll RX4 cX4_forceForAll 4 (some FieldType.int) 0 := ⟨qw205, qw206, qw1, qw207, rfl, ⟨by decide +kernel, by decide +kernel⟩, by decide +kernel⟩
theorem ys_J9_max_7cf53 : YS yJ9_max_7cf53 RJ9 cJ9_max_7cf53 2 (some FieldType.int) 2 := ⟨qw212, qw12, qw213, rfl, ⟨by decide +kernel, by decide +kernel⟩, by decide +kernel⟩
theorem yv_X4_efficiency : YV yX4_efficiency RX4 cX4_efficiency 3 (some FieldType.double) 0 := ⟨qw215, qw216, qw1, qw217, rfl, ⟨by decide +kernel, by decide +kernel⟩, by decide +kernel⟩
theorem yv_X4_clearText : YV yX4_clearText RX4 cX4_clearText 2 (some FieldType.int) 0 := ⟨qw219, qw220, qw1, qw221, rfl, ⟨by decide +kernel, by decide +kernel⟩, by decide +kernel⟩
theorem yv_X4_parse : YV yX4_parse RX4 cX4_parse 2 (some FieldType.int) 0 := ⟨qw223, qw224, qw1, qw225, rfl, ⟨by decide +kernel, by decide +kernel⟩, by decide +kernel⟩
theorem yv_X2_copyFrom : YV yX2_copyFrom RX2 cX2_copyFrom 2 none 1 := ⟨qw227, qw228, qw2, qw229, rfl, ⟨by decide +kernel, by decide +kernel⟩, by decide +kernel⟩
theorem yv_X1_copyFrom : YV yX1_copyFrom RX1 cX1_copyFrom 2 none 1 := ⟨qw231, qw232, qw3, qw233, rfl, ⟨by decide +kernel, by decide +kernel⟩, by decide +kernel⟩
theorem ys_X4_copyRow : YS yX4_copyRow RX4 cX4_copyRow 3 none 2 := ⟨qw235, qw1, qw236, rfl, ⟨by decide +kernel, by decide +kernel⟩, by decide +kernel⟩
theorem yv_X0_copyFrom : YV yX0_copyFrom RX0 cX0_copyFrom 2 none 1 := ⟨qw238, qw239, qw4, qw240, rfl, ⟨by decide +kernel, by decide +kernel⟩, by decide +kernel⟩
theorem yv_X3_readInto : YV yX3_readInto RX3 cX3_readInto 4 (some FieldType.int) 1 := ⟨qw244, qw245, qw5, qw246, rfl, ⟨by decide +kernel, by decide +kernel⟩, by decide +kernel⟩
theorem yv_X2_layAllDown : YV yX2_layAllDown RX2 cX2_layAllDown 2 none 0 := ⟨qw248, qw249, qw2, qw250, rfl, ⟨by decide +kernel, by decide +kernel⟩, by decide +kernel⟩
theorem yv_X1_unreeve : YV yX1_unreeve RX1 cX1_unreeve 1 none 0 := ⟨qw252, qw253, qw3, qw254, rfl, ⟨by decide +kernel, by decide +kernel⟩, by decide +kernel⟩
theorem yv_X3_nextIsFrom : YV yX3_nextIsFrom RX3 cX3_nextIsFrom 4 (some FieldType.boolean) 2 := ⟨qw257, qp0, qw5, qw258, rfl, ⟨by decide +kernel, by decide +kernel⟩, by decide +kernel⟩
theorem yv_X3_takeDigit : YV yX3_takeDigit RX3 cX3_takeDigit 2 (some FieldType.int) 0 := ⟨qw262, qp1, qw5, qw263, rfl, ⟨by decide +kernel, by decide +kernel⟩, by decide +kernel⟩
theorem yv_X1_hang : YV yX1_hang RX1 cX1_hang 2 none 1 := ⟨qw265, qw266, qw3, qw267, rfl, ⟨by decide +kernel, by decide +kernel⟩, by decide +kernel⟩
theorem ys_X4_put : YS yX4_put RX4 cX4_put 3 none 3 := ⟨qw269, qw1, qw270, rfl, ⟨by decide +kernel, by decide +kernel⟩, by decide +kernel⟩
theorem yv_X3_readWeight : YV yX3_readWeight RX3 cX3_readWeight 6 (some FieldType.int) 2 := ⟨qw273, qp2, qw5, qw274, rfl, ⟨by decide +kernel, by decide +kernel⟩, by decide +kernel⟩
theorem yv_X2_giveWeight : YV yX2_giveWeight RX2 cX2_giveWeight 3 none 2 := ⟨qw277, qw278, qw2, qw279, rfl, ⟨by decide +kernel, by decide +kernel⟩, by decide +kernel⟩
theorem yv_X2_inHand : YV yX2_inHand RX2 cX2_inHand 1 (some FieldType.int) 0 := ⟨qw282, qw283, qw2, qw284, rfl, ⟨by decide +kernel, by decide +kernel⟩, by decide +kernel⟩
theorem yv_X2_inStrands : YV yX2_inStrands RX2 cX2_inStrands 3 (some FieldType.int) 0 := ⟨qw286, qw287, qw2, qw288, rfl, ⟨by decide +kernel, by decide +kernel⟩, by decide +kernel⟩
theorem yv_X4_acceptTrial : YV yX4_acceptTrial RX4 cX4_acceptTrial 1 none 0 := ⟨qw292, qp3, qw1, qw293, rfl, ⟨by decide +kernel, by decide +kernel⟩, by decide +kernel⟩
theorem yv_X4_save : YV yX4_save RX4 cX4_save 2 none 0 := ⟨qw296, qp4, qw1, qw297, rfl, ⟨by decide +kernel, by decide +kernel⟩, by decide +kernel⟩
theorem yv_X4_savedAt : YV yX4_savedAt RX4 cX4_savedAt 2 (some (FieldType.object "RopeTackle$State")) 1 := ⟨qw300, qp5, qw1, qw301, rfl, ⟨by decide +kernel, by decide +kernel⟩, by decide +kernel⟩
theorem ys_J9_floorMod_7cf53 : YS yJ9_floorMod_7cf53 RJ9 cJ9_floorMod_7cf53 3 (some FieldType.int) 2 := ⟨qw303, qw12, qw304, rfl, ⟨by decide +kernel, by decide +kernel⟩, by decide +kernel⟩
theorem ys_J9_min_7cf53 : YS yJ9_min_7cf53 RJ9 cJ9_min_7cf53 2 (some FieldType.int) 2 := ⟨qw306, qw12, qw307, rfl, ⟨by decide +kernel, by decide +kernel⟩, by decide +kernel⟩
theorem yv_X4_digest : YV yX4_digest RX4 cX4_digest 5 (some FieldType.long) 0 := ⟨qw309, qw310, qw1, qw311, rfl, ⟨by decide +kernel, by decide +kernel⟩, by decide +kernel⟩
theorem yv_X4_value : YV yX4_value RX4 cX4_value 2 (some FieldType.int) 1 := ⟨qw315, qw316, qw1, qw317, rfl, ⟨by decide +kernel, by decide +kernel⟩, by decide +kernel⟩
theorem yv_X1_passes : YV yX1_passes RX1 cX1_passes 1 (some FieldType.int) 0 := ⟨qw319, qw320, qw3, qw321, rfl, ⟨by decide +kernel, by decide +kernel⟩, by decide +kernel⟩
theorem yv_X4_block : YV yX4_block RX4 cX4_block 3 (some FieldType.int) 2 := ⟨qw393, qw394, qw1, qw395, rfl, ⟨by decide +kernel, by decide +kernel⟩, by decide +kernel⟩
theorem ys_X4_checkBlock : YS yX4_checkBlock RX4 cX4_checkBlock 1 none 1 := ⟨qw397, qw1, qw398, rfl, ⟨by decide +kernel, by decide +kernel⟩, by decide +kernel⟩
theorem ys_X4_isBlock : YS yX4_isBlock RX4 cX4_isBlock 1 (some FieldType.boolean) 1 := ⟨qw400, qw1, qw401, rfl, ⟨by decide +kernel, by decide +kernel⟩, by decide +kernel⟩
theorem yv_X0_part : YV yX0_part RX0 cX0_part 3 (some FieldType.int) 2 := ⟨qw423, qw424, qw4, qw425, rfl, ⟨by decide +kernel, by decide +kernel⟩, by decide +kernel⟩
theorem yv_X4_setWeight : YV yX4_setWeight RX4 cX4_setWeight 4 (some FieldType.int) 2 := ⟨qw434, qw435, qw1, qw436, rfl, ⟨by decide +kernel, by decide +kernel⟩, by decide +kernel⟩
theorem ys_X4_checkRange : YS yX4_checkRange RX4 cX4_checkRange 3 none 3 := ⟨qw439, qw1, qw440, rfl, ⟨by decide +kernel, by decide +kernel⟩, by decide +kernel⟩
theorem yv_X4_setFriction : YV yX4_setFriction RX4 cX4_setFriction 3 (some FieldType.int) 1 := ⟨qw447, qw448, qw1, qw449, rfl, ⟨by decide +kernel, by decide +kernel⟩, by decide +kernel⟩
theorem yv_X4_setLength : YV yX4_setLength RX4 cX4_setLength 2 (some FieldType.int) 1 := ⟨qw455, qw456, qw1, qw457, rfl, ⟨by decide +kernel, by decide +kernel⟩, by decide +kernel⟩
theorem yv_X4_checkTrialRope : YV yX4_checkTrialRope RX4 cX4_checkTrialRope 1 none 0 := ⟨qw461, qp7, qw1, qw462, rfl, ⟨by decide +kernel, by decide +kernel⟩, by decide +kernel⟩
theorem yv_X4_addPulley : YV yX4_addPulley RX4 cX4_addPulley 2 (some FieldType.int) 1 := ⟨qw483, qw484, qw1, qw485, rfl, ⟨by decide +kernel, by decide +kernel⟩, by decide +kernel⟩
theorem yv_X4_takePulley : YV yX4_takePulley RX4 cX4_takePulley 1 (some FieldType.int) 0 := ⟨qw492, qw493, qw1, qw494, rfl, ⟨by decide +kernel, by decide +kernel⟩, by decide +kernel⟩
theorem yv_X1_unhang : YV yX1_unhang RX1 cX1_unhang 1 (some FieldType.int) 0 := ⟨qw497, qw498, qw3, qw499, rfl, ⟨by decide +kernel, by decide +kernel⟩, by decide +kernel⟩
theorem yv_X4_setEnd : YV yX4_setEnd RX4 cX4_setEnd 3 (some FieldType.int) 1 := ⟨qw505, qw506, qw1, qw507, rfl, ⟨by decide +kernel, by decide +kernel⟩, by decide +kernel⟩
theorem yv_X4_haul : YV yX4_haul RX4 cX4_haul 3 (some FieldType.int) 2 := ⟨qw513, qw514, qw1, qw515, rfl, ⟨by decide +kernel, by decide +kernel⟩, by decide +kernel⟩
theorem yv_X2_moveUp : YV yX2_moveUp RX2 cX2_moveUp 4 (some FieldType.int) 2 := ⟨qw518, qw519, qw2, qw520, rfl, ⟨by decide +kernel, by decide +kernel⟩, by decide +kernel⟩
theorem yv_X2_moveInTurn : YV yX2_moveInTurn RX2 cX2_moveInTurn 7 (some FieldType.int) 3 := ⟨qw524, qp8, qw2, qw525, rfl, ⟨by decide +kernel, by decide +kernel⟩, by decide +kernel⟩
theorem yv_X2_nextToSink : YV yX2_nextToSink RX2 cX2_nextToSink 6 (some FieldType.int) 1 := ⟨qw528, qw529, qw2, qw530, rfl, ⟨by decide +kernel, by decide +kernel⟩, by decide +kernel⟩
theorem yv_X2_moveOne : YV yX2_moveOne RX2 cX2_moveOne 8 (some FieldType.int) 3 := ⟨qw533, qp9, qw2, qw534, rfl, ⟨by decide +kernel, by decide +kernel⟩, by decide +kernel⟩
theorem yv_X0_note : YV yX0_note RX0 cX0_note 4 none 3 := ⟨qw538, qw539, qw4, qw540, rfl, ⟨by decide +kernel, by decide +kernel⟩, by decide +kernel⟩
theorem yv_X4_letOut : YV yX4_letOut RX4 cX4_letOut 3 (some FieldType.int) 2 := ⟨qw547, qw548, qw1, qw549, rfl, ⟨by decide +kernel, by decide +kernel⟩, by decide +kernel⟩
theorem yv_X2_moveDown : YV yX2_moveDown RX2 cX2_moveDown 3 (some FieldType.int) 2 := ⟨qw551, qw552, qw2, qw553, rfl, ⟨by decide +kernel, by decide +kernel⟩, by decide +kernel⟩
theorem yv_X4_pulley : YV yX4_pulley RX4 cX4_pulley 2 (some FieldType.int) 1 := ⟨qw563, qw564, qw1, qw565, rfl, ⟨by decide +kernel, by decide +kernel⟩, by decide +kernel⟩
theorem yv_X4_checkPulley : YV yX4_checkPulley RX4 cX4_checkPulley 2 none 1 := ⟨qw568, qp10, qw1, qw569, rfl, ⟨by decide +kernel, by decide +kernel⟩, by decide +kernel⟩
theorem yv_X4_force : YV yX4_force RX4 cX4_force 4 (some FieldType.long) 3 := ⟨qw575, qw576, qw1, qw577, rfl, ⟨by decide +kernel, by decide +kernel⟩, by decide +kernel⟩
theorem yv_X1_forceBehind : YV yX1_forceBehind RX1 cX1_forceBehind 7 (some FieldType.long) 3 := ⟨qw579, qw580, qw3, qw581, rfl, ⟨by decide +kernel, by decide +kernel⟩, by decide +kernel⟩
theorem yv_X4_pull : YV yX4_pull RX4 cX4_pull 4 (some FieldType.long) 3 := ⟨qw586, qw587, qw1, qw588, rfl, ⟨by decide +kernel, by decide +kernel⟩, by decide +kernel⟩
theorem yv_X4_entry : YV yX4_entry RX4 cX4_entry 3 (some FieldType.int) 2 := ⟨qw598, qw599, qw1, qw600, rfl, ⟨by decide +kernel, by decide +kernel⟩, by decide +kernel⟩
theorem yv_X4_pulleysFor : YV yX4_pulleysFor RX4 cX4_pulleysFor 4 (some FieldType.int) 2 := ⟨qw606, qw607, qw1, qw608, rfl, ⟨by decide +kernel, by decide +kernel⟩, by decide +kernel⟩
theorem yv_X4_bestEnd : YV yX4_bestEnd RX4 cX4_bestEnd 6 (some FieldType.int) 1 := ⟨qw614, qw615, qw1, qw616, rfl, ⟨by decide +kernel, by decide +kernel⟩, by decide +kernel⟩
theorem yv_X4_swapped : YV yX4_swapped RX4 cX4_swapped 4 (some FieldType.int) 3 := ⟨qw621, qw622, qw1, qw623, rfl, ⟨by decide +kernel, by decide +kernel⟩, by decide +kernel⟩
theorem yv_X1_swap : YV yX1_swap RX1 cX1_swap 4 none 2 := ⟨qw625, qw626, qw3, qw627, rfl, ⟨by decide +kernel, by decide +kernel⟩, by decide +kernel⟩
theorem yv_X4_riseBy : YV yX4_riseBy RX4 cX4_riseBy 4 (some FieldType.int) 3 := ⟨qw632, qw633, qw1, qw634, rfl, ⟨by decide +kernel, by decide +kernel⟩, by decide +kernel⟩
theorem yv_X4_append : YV yX4_append RX4 cX4_append 2 (some FieldType.int) 1 := ⟨qw639, qw640, qw1, qw641, rfl, ⟨by decide +kernel, by decide +kernel⟩, by decide +kernel⟩
theorem yv_X4_undo : YV yX4_undo RX4 cX4_undo 2 (some FieldType.int) 0 := ⟨qw648, qw649, qw1, qw650, rfl, ⟨by decide +kernel, by decide +kernel⟩, by decide +kernel⟩
theorem yi_X5_init : YI yX5_init RX5 cX5_init 2 0 := ⟨qw655, qw6, qw656, rfl, rfl, ⟨by decide +kernel, by decide +kernel⟩, by decide +kernel⟩
theorem yv_X5_thrown : YV yX5_thrown RX5 cX5_thrown 1 (some FieldType.int) 0 := ⟨qw707, qw708, qw6, qw709, rfl, ⟨by decide +kernel, by decide +kernel⟩, by decide +kernel⟩
theorem yv_X5_setWeight : YV yX5_setWeight RX5 cX5_setWeight 3 (some FieldType.int) 2 := ⟨qw711, qw712, qw6, qw713, rfl, ⟨by decide +kernel, by decide +kernel⟩, by decide +kernel⟩
theorem ys_X5_isBlock : YS yX5_isBlock RX5 cX5_isBlock 1 (some FieldType.boolean) 1 := ⟨qw715, qw6, qw716, rfl, ⟨by decide +kernel, by decide +kernel⟩, by decide +kernel⟩
theorem ys_X5_in : YS yX5_in RX5 cX5_in 6 (some FieldType.boolean) 3 := ⟨qw719, qw6, qw720, rfl, ⟨by decide +kernel, by decide +kernel⟩, by decide +kernel⟩
theorem yv_X5_fails : YV yX5_fails RX5 cX5_fails 2 (some FieldType.int) 1 := ⟨qw723, qp11, qw6, qw724, rfl, ⟨by decide +kernel, by decide +kernel⟩, by decide +kernel⟩
theorem yv_X5_puts : YV yX5_puts RX5 cX5_puts 4 (some FieldType.int) 2 := ⟨qw728, qp12, qw6, qw729, rfl, ⟨by decide +kernel, by decide +kernel⟩, by decide +kernel⟩
theorem yv_X5_saves : YV yX5_saves RX5 cX5_saves 2 none 0 := ⟨qw732, qp13, qw6, qw733, rfl, ⟨by decide +kernel, by decide +kernel⟩, by decide +kernel⟩
theorem yv_X5_tells : YV yX5_tells RX5 cX5_tells 2 (some FieldType.int) 1 := ⟨qw736, qp14, qw6, qw737, rfl, ⟨by decide +kernel, by decide +kernel⟩, by decide +kernel⟩
theorem yv_X5_setFriction : YV yX5_setFriction RX5 cX5_setFriction 2 (some FieldType.int) 1 := ⟨qw739, qw740, qw6, qw741, rfl, ⟨by decide +kernel, by decide +kernel⟩, by decide +kernel⟩
theorem yv_X5_setLength : YV yX5_setLength RX5 cX5_setLength 2 (some FieldType.int) 1 := ⟨qw744, qw745, qw6, qw746, rfl, ⟨by decide +kernel, by decide +kernel⟩, by decide +kernel⟩
theorem yv_X5_hanging : YV yX5_hanging RX5 cX5_hanging 3 (some FieldType.int) 0 := ⟨qw750, qp15, qw6, qw751, rfl, ⟨by decide +kernel, by decide +kernel⟩, by decide +kernel⟩
theorem yv_X5_strands : YV yX5_strands RX5 cX5_strands 2 (some FieldType.int) 1 := ⟨qw754, qp16, qw6, qw755, rfl, ⟨by decide +kernel, by decide +kernel⟩, by decide +kernel⟩
theorem yv_X5_pulleysOn : YV yX5_pulleysOn RX5 cX5_pulleysOn 4 (some FieldType.int) 1 := ⟨qw758, qp17, qw6, qw759, rfl, ⟨by decide +kernel, by decide +kernel⟩, by decide +kernel⟩
theorem yv_X5_inHand : YV yX5_inHand RX5 cX5_inHand 1 (some FieldType.int) 0 := ⟨qw762, qp18, qw6, qw763, rfl, ⟨by decide +kernel, by decide +kernel⟩, by decide +kernel⟩
theorem yv_X5_addPulley : YV yX5_addPulley RX5 cX5_addPulley 2 (some FieldType.int) 1 := ⟨qw765, qw766, qw6, qw767, rfl, ⟨by decide +kernel, by decide +kernel⟩, by decide +kernel⟩
theorem yv_X5_takePulley : YV yX5_takePulley RX5 cX5_takePulley 1 (some FieldType.int) 0 := ⟨qw771, qw772, qw6, qw773, rfl, ⟨by decide +kernel, by decide +kernel⟩, by decide +kernel⟩
theorem yv_X5_setEnd : YV yX5_setEnd RX5 cX5_setEnd 2 (some FieldType.int) 1 := ⟨qw775, qw776, qw6, qw777, rfl, ⟨by decide +kernel, by decide +kernel⟩, by decide +kernel⟩
theorem yv_X5_endStrand : YV yX5_endStrand RX5 cX5_endStrand 2 (some FieldType.int) 1 := ⟨qw780, qp19, qw6, qw781, rfl, ⟨by decide +kernel, by decide +kernel⟩, by decide +kernel⟩
theorem yv_X5_haul : YV yX5_haul RX5 cX5_haul 3 (some FieldType.int) 2 := ⟨qw783, qw784, qw6, qw785, rfl, ⟨by decide +kernel, by decide +kernel⟩, by decide +kernel⟩
theorem ys_X5_isForce : YS yX5_isForce RX5 cX5_isForce 1 (some FieldType.boolean) 1 := ⟨qw787, qw6, qw788, rfl, ⟨by decide +kernel, by decide +kernel⟩, by decide +kernel⟩
theorem yv_X5_hauls : YV yX5_hauls RX5 cX5_hauls 6 (some FieldType.int) 2 := ⟨qw793, qp20, qw6, qw794, rfl, ⟨by decide +kernel, by decide +kernel⟩, by decide +kernel⟩
theorem yv_X5_riser : YV yX5_riser RX5 cX5_riser 7 (some FieldType.int) 1 := ⟨qw797, qp21, qw6, qw798, rfl, ⟨by decide +kernel, by decide +kernel⟩, by decide +kernel⟩
theorem yv_X5_least : YV yX5_least RX5 cX5_least 6 (some FieldType.int) 2 := ⟨qw802, qp22, qw6, qw803, rfl, ⟨by decide +kernel, by decide +kernel⟩, by decide +kernel⟩
theorem yv_X5_pullOn : YV yX5_pullOn RX5 cX5_pullOn 11 (some FieldType.long) 3 := ⟨qw807, qp23, qw6, qw808, rfl, ⟨by decide +kernel, by decide +kernel⟩, by decide +kernel⟩
theorem yv_X5_behind : YV yX5_behind RX5 cX5_behind 6 (some FieldType.long) 2 := ⟨qw811, qp24, qw6, qw812, rfl, ⟨by decide +kernel, by decide +kernel⟩, by decide +kernel⟩
theorem ys_X5_lesser : YS yX5_lesser RX5 cX5_lesser 4 (some FieldType.int) 2 := ⟨qw816, qw6, qw817, rfl, ⟨by decide +kernel, by decide +kernel⟩, by decide +kernel⟩
theorem yv_X5_enters : YV yX5_enters RX5 cX5_enters 5 none 3 := ⟨qw820, qp25, qw6, qw821, rfl, ⟨by decide +kernel, by decide +kernel⟩, by decide +kernel⟩
theorem yv_X5_letOut : YV yX5_letOut RX5 cX5_letOut 7 (some FieldType.int) 2 := ⟨qw824, qw825, qw6, qw826, rfl, ⟨by decide +kernel, by decide +kernel⟩, by decide +kernel⟩
theorem yv_X5_sinker : YV yX5_sinker RX5 cX5_sinker 6 (some FieldType.int) 1 := ⟨qw829, qp26, qw6, qw830, rfl, ⟨by decide +kernel, by decide +kernel⟩, by decide +kernel⟩
theorem yv_X5_block : YV yX5_block RX5 cX5_block 3 (some FieldType.int) 2 := ⟨qw832, qw833, qw6, qw834, rfl, ⟨by decide +kernel, by decide +kernel⟩, by decide +kernel⟩
theorem yv_X5_blockTold : YV yX5_blockTold RX5 cX5_blockTold 3 (some FieldType.int) 2 := ⟨qw838, qp27, qw6, qw839, rfl, ⟨by decide +kernel, by decide +kernel⟩, by decide +kernel⟩
theorem yv_X5_pulley : YV yX5_pulley RX5 cX5_pulley 2 (some FieldType.int) 1 := ⟨qw841, qw842, qw6, qw843, rfl, ⟨by decide +kernel, by decide +kernel⟩, by decide +kernel⟩
theorem yv_X5_force : YV yX5_force RX5 cX5_force 5 (some FieldType.long) 3 := ⟨qw845, qw846, qw6, qw847, rfl, ⟨by decide +kernel, by decide +kernel⟩, by decide +kernel⟩
theorem yv_X5_passes : YV yX5_passes RX5 cX5_passes 1 (some FieldType.int) 0 := ⟨qw850, qp28, qw6, qw851, rfl, ⟨by decide +kernel, by decide +kernel⟩, by decide +kernel⟩
theorem yv_X5_forceAt : YV yX5_forceAt RX5 cX5_forceAt 7 (some FieldType.long) 3 := ⟨qw854, qp29, qw6, qw855, rfl, ⟨by decide +kernel, by decide +kernel⟩, by decide +kernel⟩
theorem yv_X5_pull : YV yX5_pull RX5 cX5_pull 4 (some FieldType.long) 3 := ⟨qw857, qw858, qw6, qw859, rfl, ⟨by decide +kernel, by decide +kernel⟩, by decide +kernel⟩
theorem yv_X5_value : YV yX5_value RX5 cX5_value 2 (some FieldType.int) 1 := ⟨qw861, qw862, qw6, qw863, rfl, ⟨by decide +kernel, by decide +kernel⟩, by decide +kernel⟩
theorem yv_X5_valueTold : YV yX5_valueTold RX5 cX5_valueTold 2 (some FieldType.int) 1 := ⟨qw867, qp30, qw6, qw868, rfl, ⟨by decide +kernel, by decide +kernel⟩, by decide +kernel⟩
theorem yv_X5_work : YV yX5_work RX5 cX5_work 2 (some FieldType.long) 1 := ⟨qw870, qw871, qw6, qw872, rfl, ⟨by decide +kernel, by decide +kernel⟩, by decide +kernel⟩
theorem yv_X5_entry : YV yX5_entry RX5 cX5_entry 3 (some FieldType.int) 2 := ⟨qw874, qw875, qw6, qw876, rfl, ⟨by decide +kernel, by decide +kernel⟩, by decide +kernel⟩
theorem yv_X5_first : YV yX5_first RX5 cX5_first 1 (some FieldType.int) 0 := ⟨qw878, qw879, qw6, qw880, rfl, ⟨by decide +kernel, by decide +kernel⟩, by decide +kernel⟩
theorem yv_X5_forceForAll : YV yX5_forceForAll RX5 cX5_forceForAll 4 (some FieldType.int) 0 := ⟨qw882, qw883, qw6, qw884, rfl, ⟨by decide +kernel, by decide +kernel⟩, by decide +kernel⟩
theorem yv_X5_pulleysFor : YV yX5_pulleysFor RX5 cX5_pulleysFor 10 (some FieldType.int) 2 := ⟨qw886, qw887, qw6, qw888, rfl, ⟨by decide +kernel, by decide +kernel⟩, by decide +kernel⟩
theorem yv_X5_bestEnd : YV yX5_bestEnd RX5 cX5_bestEnd 9 (some FieldType.int) 1 := ⟨qw890, qw891, qw6, qw892, rfl, ⟨by decide +kernel, by decide +kernel⟩, by decide +kernel⟩
theorem yv_X5_swapped : YV yX5_swapped RX5 cX5_swapped 5 (some FieldType.int) 3 := ⟨qw894, qw895, qw6, qw896, rfl, ⟨by decide +kernel, by decide +kernel⟩, by decide +kernel⟩
theorem yv_X5_changes : YV yX5_changes RX5 cX5_changes 5 none 2 := ⟨qw899, qp31, qw6, qw900, rfl, ⟨by decide +kernel, by decide +kernel⟩, by decide +kernel⟩
theorem yv_X5_riseBy : YV yX5_riseBy RX5 cX5_riseBy 6 (some FieldType.int) 3 := ⟨qw902, qw903, qw6, qw904, rfl, ⟨by decide +kernel, by decide +kernel⟩, by decide +kernel⟩
theorem yv_X5_laysAside : YV yX5_laysAside RX5 cX5_laysAside 2 none 0 := ⟨qw907, qp32, qw6, qw908, rfl, ⟨by decide +kernel, by decide +kernel⟩, by decide +kernel⟩
theorem yv_X5_bringsBack : YV yX5_bringsBack RX5 cX5_bringsBack 2 none 0 := ⟨qw911, qp33, qw6, qw912, rfl, ⟨by decide +kernel, by decide +kernel⟩, by decide +kernel⟩
theorem yv_X5_efficiency : YV yX5_efficiency RX5 cX5_efficiency 1 (some FieldType.double) 0 := ⟨qw914, qw915, qw6, qw916, rfl, ⟨by decide +kernel, by decide +kernel⟩, by decide +kernel⟩
theorem yv_X5_append : YV yX5_append RX5 cX5_append 2 (some FieldType.int) 1 := ⟨qw918, qw919, qw6, qw920, rfl, ⟨by decide +kernel, by decide +kernel⟩, by decide +kernel⟩
theorem yv_X5_clearText : YV yX5_clearText RX5 cX5_clearText 2 (some FieldType.int) 0 := ⟨qw923, qw924, qw6, qw925, rfl, ⟨by decide +kernel, by decide +kernel⟩, by decide +kernel⟩
theorem yv_X5_parse : YV yX5_parse RX5 cX5_parse 3 (some FieldType.int) 0 := ⟨qw927, qw928, qw6, qw929, rfl, ⟨by decide +kernel, by decide +kernel⟩, by decide +kernel⟩
theorem yv_X5_reads : YV yX5_reads RX5 cX5_reads 2 (some FieldType.boolean) 0 := ⟨qw932, qp34, qw6, qw933, rfl, ⟨by decide +kernel, by decide +kernel⟩, by decide +kernel⟩
theorem yv_X5_isAt : YV yX5_isAt RX5 cX5_isAt 3 (some FieldType.boolean) 2 := ⟨qw936, qp35, qw6, qw937, rfl, ⟨by decide +kernel, by decide +kernel⟩, by decide +kernel⟩
theorem yv_X5_readsWeight : YV yX5_readsWeight RX5 cX5_readsWeight 3 (some FieldType.boolean) 0 := ⟨qw940, qp36, qw6, qw941, rfl, ⟨by decide +kernel, by decide +kernel⟩, by decide +kernel⟩
theorem yv_X5_undo : YV yX5_undo RX5 cX5_undo 2 (some FieldType.int) 0 := ⟨qw944, qw945, qw6, qw946, rfl, ⟨by decide +kernel, by decide +kernel⟩, by decide +kernel⟩
theorem yv_X5_digest : YV yX5_digest RX5 cX5_digest 2 (some FieldType.long) 0 := ⟨qw948, qw949, qw6, qw950, rfl, ⟨by decide +kernel, by decide +kernel⟩, by decide +kernel⟩
theorem yv_X5_mix : YV yX5_mix RX5 cX5_mix 3 none 1 := ⟨qw954, qp37, qw6, qw955, rfl, ⟨by decide +kernel, by decide +kernel⟩, by decide +kernel⟩
end
section
/-! the mathematics that the class and the reference share -/
theorem mulF {t F : Int} (ht : 0 ≤ t) (hF : 0 ≤ F ∧ F ≤ 30) : 0 ≤ t * F ∧ t * F ≤ t * 30 := ⟨Int.mul_nonneg ht hF.1, Int.mul_le_mul_of_nonneg_left hF.2 ht⟩
def b2i (h : Bool) : Int := if h then 1 else 0
theorem b2i_rng (h : Bool) : 0 ≤ b2i h ∧ b2i h ≤ 1 := by cases h <;> decide
/-- how many of the first n are b -/
def cnt (f : Nat → Int) (b : Int) : Nat → Int
  | 0 => 0
  | n + 1 => cnt f b n + (if f n = b then 1 else 0)
theorem cnt_rng (f : Nat → Int) (b : Int) (n : Nat) : 0 ≤ cnt f b n ∧ cnt f b n ≤ n := by
  induction n with
  | zero => exact ⟨Int.le_refl _, Int.le_refl _⟩
  | succ n ih =>
    simp only [cnt]
    split <;> omega
theorem cnt_congr {f f' : Nat → Int} {b : Int} {n : Nat} (h : ∀ i, i < n → f i = f' i) : cnt f b n = cnt f' b n := by
  induction n with
  | zero => rfl
  | succ n ih =>
    simp only [cnt]
    rw [ih (fun i hi => h i (by omega)), h n (by omega)]
/-- the strands of a block -/
def strn (f : Nat → Int) (n : Nat) (E b : Int) : Int := 2 * cnt f b n + (if E = b then 1 else 0)
theorem strn_rng (f : Nat → Int) (n : Nat) (E b : Int) : 0 ≤ strn f n E b ∧ strn f n E b ≤ 2 * n + 1 := by
  have := cnt_rng f b n
  unfold strn
  split <;> omega
theorem strn_congr {f f' : Nat → Int} {n : Nat} {E b : Int} (h : ∀ i, i < n → f i = f' i) : strn f n E b = strn f' n E b := by
  unfold strn
  rw [cnt_congr h]
/-- the force behind one pulley more -/
def beh (F : Int) (h : Bool) (t : Int) : Int := if h then t - t * F / 100 else t + t * F / 100
theorem beh_rng {F : Int} {h : Bool} {t : Int} (hF : 0 ≤ F ∧ F ≤ 30) (ht : 0 ≤ t) : 0 ≤ beh F h t ∧ beh F h t ≤ 2 * t := by
  have := mulF ht hF
  unfold beh
  split <;> omega
theorem beh_mono {F : Int} {h : Bool} {t u : Int} (hF : 0 ≤ F ∧ F ≤ 30) (ht : 0 ≤ t) (hu : t ≤ u) : beh F h t ≤ beh F h u := by
  have h1 : u * F = t * F + (u - t) * F := by rw [← Int.add_mul]; congr 1; omega
  have h2 := mulF (t := u - t) (by omega) hF
  have h3 := mulF ht hF
  unfold beh
  split <;> omega
/-- the force behind n pulleys -/
def fbn (F : Int) (h : Bool) (t : Int) : Nat → Int
  | 0 => t
  | n + 1 => beh F h (fbn F h t n)
theorem fbn_rng {F : Int} {h : Bool} {t : Int} (hF : 0 ≤ F ∧ F ≤ 30) (ht : 0 ≤ t) (n : Nat) : 0 ≤ fbn F h t n ∧ fbn F h t n ≤ (2 : Int) ^ n * t := by
  induction n with
  | zero => simp [fbn]; exact ht
  | succ n ih =>
    have := beh_rng (h := h) hF ih.1
    refine ⟨this.1, Int.le_trans this.2 ?_⟩
    rw [Int.pow_succ, Int.mul_comm _ 2, Int.mul_assoc]
    omega
theorem fbn_le {F : Int} {h : Bool} {t : Int} {n : Nat} (hF : 0 ≤ F ∧ F ≤ 30) (ht : 0 ≤ t ∧ t ≤ 1000000) (hn : n ≤ 22) : 0 ≤ fbn F h t n ∧ fbn F h t n ≤ 4194304000000 := by
  have h1 := fbn_rng (h := h) hF ht.1 n
  have h2 : (2 : Int) ^ n ≤ 2 ^ 22 := by
    rcases Nat.eq_or_lt_of_le hn with rfl | h
    · exact Int.le_refl _
    · exact Int.le_of_lt (Int.pow_lt_pow_of_lt (by decide) h)
  have h3 : (2 : Int) ^ n * t ≤ 2 ^ 22 * t := Int.mul_le_mul_of_nonneg_right h2 ht.1
  have h4 : (2 : Int) ^ 22 = 4194304 := by decide
  rw [h4] at h3
  omega
theorem fbn_mono {F : Int} {h : Bool} {t u : Int} (hF : 0 ≤ F ∧ F ≤ 30) (ht : 0 ≤ t) (hu : t ≤ u) (n : Nat) : fbn F h t n ≤ fbn F h u n := by
  induction n with
  | zero => exact hu
  | succ n ih => exact beh_mono hF (fbn_rng hF ht n).1 ih
/-- what the first n pulleys give to the pull on a block -/
def psum (f : Nat → Int) (F : Int) (h : Bool) (b t : Int) : Nat → Int
  | 0 => 0
  | n + 1 => psum f F h b t n + (if f n = b then fbn F h t (2 * n + 1) + fbn F h t (2 * n + 2) else 0)
theorem psum_le {f : Nat → Int} {F : Int} {h : Bool} {b t : Int} (hF : 0 ≤ F ∧ F ≤ 30) (ht : 0 ≤ t ∧ t ≤ 1000000) : ∀ {n : Nat}, n ≤ 10 → 0 ≤ psum f F h b t n ∧ psum f F h b t n ≤ n * 8388608000000
  | 0, _ => ⟨Int.le_refl _, Int.le_refl _⟩
  | n + 1, hn => by
    have ih := psum_le (f := f) (h := h) (b := b) hF ht (n := n) (by omega)
    have h1 := fbn_le (h := h) (n := 2 * n + 1) hF ht (by omega)
    have h2 := fbn_le (h := h) (n := 2 * n + 2) hF ht (by omega)
    simp only [psum]
    split <;> omega
theorem psum_mono {f : Nat → Int} {F : Int} {h : Bool} {b t u : Int} (hF : 0 ≤ F ∧ F ≤ 30) (ht : 0 ≤ t) (hu : t ≤ u) (n : Nat) : psum f F h b t n ≤ psum f F h b u n := by
  induction n with
  | zero => exact Int.le_refl _
  | succ n ih =>
    have h1 := fbn_mono (h := h) hF ht hu (2 * n + 1)
    have h2 := fbn_mono (h := h) hF ht hu (2 * n + 2)
    simp only [psum]
    split <;> omega
theorem psum_congr {f f' : Nat → Int} {F : Int} {h : Bool} {b t : Int} {n : Nat} (hh : ∀ i, i < n → f i = f' i) : psum f F h b t n = psum f' F h b t n := by
  induction n with
  | zero => rfl
  | succ n ih =>
    simp only [psum]
    rw [ih (fun i hi => hh i (by omega)), hh n (by omega)]
/-- the pull on a block -/
def pul (f : Nat → Int) (F : Int) (h : Bool) (n : Nat) (E b t : Int) : Int := psum f F h b t n + (if E = b then fbn F h t (2 * n + 1) else 0)
theorem pul_le {f : Nat → Int} {F : Int} {h : Bool} {n : Nat} {E b t : Int} (hF : 0 ≤ F ∧ F ≤ 30) (ht : 0 ≤ t ∧ t ≤ 1000000) (hn : n ≤ 10) : 0 ≤ pul f F h n E b t ∧ pul f F h n E b t ≤ 90000000000000 := by
  have h1 := psum_le (f := f) (h := h) (b := b) hF ht hn
  have h2 := fbn_le (h := h) (n := 2 * n + 1) hF ht (by omega)
  unfold pul
  split <;> omega
theorem pul_mono {f : Nat → Int} {F : Int} {h : Bool} {n : Nat} {E b t u : Int} (hF : 0 ≤ F ∧ F ≤ 30) (ht : 0 ≤ t) (hu : t ≤ u) : pul f F h n E b t ≤ pul f F h n E b u := by
  have h1 := psum_mono (f := f) (h := h) (b := b) hF ht hu n
  have h2 := fbn_mono (h := h) hF ht hu (2 * n + 1)
  unfold pul
  split <;> omega
theorem pul_congr {f f' : Nat → Int} {F : Int} {h : Bool} {n : Nat} {E b t : Int} (hh : ∀ i, i < n → f i = f' i) : pul f F h n E b t = pul f' F h n E b t := by
  unfold pul
  rw [psum_congr hh]
/-- r is the least force with which p is at least w -/
def IsL (p : Int → Int) (w r : Int) : Prop := (0 ≤ r ∧ r ≤ 1000000) ∧ w ≤ p r ∧ ∀ f, 0 ≤ f → f < r → p f < w
theorem IsL.one {p : Int → Int} {w r r' : Int} (h : IsL p w r) (h' : IsL p w r') : r = r' := by
  obtain ⟨a1, a2, a3⟩ := h
  obtain ⟨b1, b2, b3⟩ := h'
  rcases Int.lt_trichotomy r r' with h | h | h
  · have := b3 r a1.1 h; omega
  · exact h
  · have := a3 r' b1.1 h; omega
theorem IsL.ex {p : Int → Int} {w : Int} (h : w ≤ p 1000000) : ∃ r, IsL p w r := by
  have key : ∀ n : Nat, n ≤ 1000000 → w ≤ p (n : Int) → ∃ r, IsL p w r := by
    intro n
    induction n using Nat.strongRecOn with
    | ind n ih =>
      intro hn hw
      by_cases hx : ∃ k : Nat, k < n ∧ w ≤ p (k : Int)
      · obtain ⟨k, hk, hwk⟩ := hx
        exact ih k hk (by omega) hwk
      · refine ⟨n, ⟨by omega, by omega⟩, hw, fun f h0 hf => ?_⟩
        have := fun hh => hx ⟨f.toNat, by omega, hh⟩
        rw [Int.toNat_of_nonneg h0] at this
        exact Int.not_le.mp this
  exact key 1000000 (by omega) h

/-- the least force, -1 if there is none -/
noncomputable def lst (p : Int → Int) (w : Int) : Int := @dite Int (∃ r, IsL p w r) (Classical.propDecidable _) (fun h => Classical.choose h) (fun _ => -1)
theorem lst_eq {p : Int → Int} {w r : Int} (h : IsL p w r) : lst p w = r := by
  have hx : ∃ r, IsL p w r := ⟨r, h⟩
  unfold lst
  rw [dif_pos hx]
  exact (Classical.choose_spec hx).one h
theorem lst_none {p : Int → Int} {w : Int} (hm : ∀ a b, 0 ≤ a → a ≤ b → p a ≤ p b) (h : p 1000000 < w) : lst p w = -1 := by
  unfold lst
  rw [dif_neg]
  rintro ⟨r, h1, h2, -⟩
  have := hm r 1000000 h1.1 h1.2
  omega
theorem lst_rng (p : Int → Int) (w : Int) : -1 ≤ lst p w ∧ lst p w ≤ 1000000 := by
  unfold lst
  split
  · next h => have := (Classical.choose_spec h).1; omega
  · decide
/-- the lifting (holding) force of a block: -1 without strands -/
noncomputable def lea (f : Nat → Int) (F : Int) (h : Bool) (n : Nat) (E b w : Int) : Int := if strn f n E b = 0 then -1 else lst (pul f F h n E b) w
theorem lea_rng (f : Nat → Int) (F : Int) (h : Bool) (n : Nat) (E b w : Int) : -1 ≤ lea f F h n E b w ∧ lea f F h n E b w ≤ 1000000 := by
  have := lst_rng (pul f F h n E b) w
  unfold lea
  split <;> omega
theorem lea_congr {f f' : Nat → Int} {F : Int} {h : Bool} {n : Nat} {E b w : Int} (hh : ∀ i, i < n → f i = f' i) : lea f F h n E b w = lea f' F h n E b w := by
  unfold lea
  rw [strn_congr hh, show pul f F h n E b = pul f' F h n E b from funext fun t => pul_congr hh]
/-- copying the first n -/
def cpy (n : Nat) (f h : Nat → Int) : Nat → Int := fun j => if j < n then f j else h j
/-- a method that answers r0 and leaves the world w0 -/
abbrev PE (r0 : Option Value) (w0 : va_W) : Option Value → va_W → Prop := fun r w' => r = r0 ∧ w' = w0
end
section
/-! the leaves: at, put, copyRow, isBlock, floorMod, and the rope s way -/
theorem c_X4_at (l : Launch) (g : Gh) (a n : Nat) (f : Nat → Int) (i : Int) (k : Nat) (hk : i = k) (hkn : k < n) (hn : n ≤ 1000) : CT l g yX4_at cX4_at 2 (some FieldType.int) ({ frames := 0, cells := 0, slots := 0, locals := 0 }) [.ref a, .int (iI i)] [(a, aI g n f)] (PE (some (.int (iI (f k)))) [(a, aI g n f)]) := by
  refine CT.intro (L0 := [(0, .ref a), (1, .int (iI i))]) (own := RX4) (by decide) rfl (Nat.le_of_ble_eq_true rfl) rfl ?_
  intro p e s m args below meth c A C hr hlk
  refine j_iload_n C 1 dX4_at_0 rfl rfl ?_
  refine j_if_lt (tgt := 16) C (by omega) dX4_at_1 (by decide) (fun c1 => absurd c1 (by omega)) (fun c1 => ?_)
  refine j_iload_n C 1 dX4_at_4 rfl rfl ?_
  refine j_aload_n C 0 dX4_at_5 rfl rfl ?_
  refine j_ilen (n := n) (f := f) (v := n) C 0 rfl rfl dX4_at_6 ?_
  refine j_icmp_ge (tgt := 16) C (by omega) (by omega) dX4_at_7 (by decide) (fun c7 => absurd c7 (by omega)) (fun c7 => ?_)
  refine j_aload_n C 0 dX4_at_10 rfl rfl ?_
  refine j_iload_n C 1 dX4_at_11 rfl rfl ?_
  refine j_iald (n := n) (f := f) C 0 k rfl (by omega) (by omega) (by omega) dX4_at_12 ?_
  refine j_goto (tgt := 17) C dX4_at_13 (by decide) ?_
  exact j_iret C hr hlk dX4_at_17 ⟨rfl, rfl⟩ (by decide) (by decide)

theorem c_X4_put (l : Launch) (g : Gh) (a n : Nat) (f : Nat → Int) (i : Int) (k : Nat) (v : Int) (hk : i = k) (hkn : k < n) (hn : n ≤ 1000) : CT l g yX4_put cX4_put 3 none ({ frames := 0, cells := 0, slots := 0, locals := 0 }) [.ref a, .int (iI i), .int (iI v)] [(a, aI g n f)] (PE none [(a, aI g n (va_up f k v))]) := by
  refine CT.intro (L0 := [(0, .ref a), (1, .int (iI i)), (2, .int (iI v))]) (own := RX4) (by decide) rfl (Nat.le_of_ble_eq_true rfl) rfl ?_
  intro p e s m args below meth c A C hr hlk
  refine j_iload_n C 1 dX4_put_0 rfl rfl ?_
  refine j_if_lt (tgt := 14) C (by omega) dX4_put_1 (by decide) (fun c1 => absurd c1 (by omega)) (fun c1 => ?_)
  refine j_iload_n C 1 dX4_put_4 rfl rfl ?_
  refine j_aload_n C 0 dX4_put_5 rfl rfl ?_
  refine j_ilen (n := n) (f := f) (v := n) C 0 rfl rfl dX4_put_6 ?_
  refine j_icmp_ge (tgt := 14) C (by omega) (by omega) dX4_put_7 (by decide) (fun c7 => absurd c7 (by omega)) (fun c7 => ?_)
  refine j_aload_n C 0 dX4_put_10 rfl rfl ?_
  refine j_iload_n C 1 dX4_put_11 rfl rfl ?_
  refine j_iload_n C 2 dX4_put_12 rfl rfl ?_
  refine j_iast (n := n) (f := f) (ws1 := [(a, aI g n (va_up f k v))]) C 0 k rfl (by omega) (by omega) (by omega) dX4_put_13 rfl ?_
  exact j_vret C hr hlk dX4_put_14 ⟨rfl, rfl⟩ (by decide) (by decide)

theorem cpy_0 (f h : Nat → Int) : cpy 0 f h = h := by
  funext j
  simp [cpy]
theorem cpy_succ (i : Nat) (f h : Nat → Int) : va_up (cpy i f h) i (f i) = cpy (i + 1) f h := by
  funext j
  simp only [va_up, cpy]
  by_cases h1 : j = i
  · subst h1; simp
  · rw [if_neg h1]
    by_cases h2 : j < i
    · rw [if_pos h2, if_pos (by omega)]
    · rw [if_neg h2, if_neg (by omega)]
theorem lp_copyRow {p : Program} {l : Launch} {e : Env} {s : State} {m : MethodId} {args : Array Value} {below : List Frame} {meth : Method} {c : Code} {g : Gh} {A : Nat → Prop} {Q : State → Prop} (C : Cx p g s m args c cX4_copyRow 3 RX4 A) {a b n0 : Nat} {f h : Nat → Int} (hn0 : n0 ≤ 1000) (kk : J p l e ({ frames := 0, cells := 0, slots := 0, locals := 0 } : Room) s m args below meth c g A 3 26 [(0, .ref a), (1, .ref b), (2, .int (iI ((n0 : Int))))] [] [(a, aI g n0 f), (b, aI g n0 (cpy n0 f h))] 0 0 Q) : ∀ (n i : Nat), i + n = n0 → J p l e ({ frames := 0, cells := 0, slots := 0, locals := 0 } : Room) s m args below meth c g A 3 2 [(0, .ref a), (1, .ref b), (2, .int (iI ((i : Int))))] [] [(a, aI g n0 f), (b, aI g n0 (cpy i f h))] 0 0 Q := by
  intro n
  induction n with
  | zero =>
    intro i hi
    have hi9 : i = n0 := by omega
    refine j_iload_n C 2 dX4_copyRow_2 rfl rfl ?_
    refine j_aload_n C 1 dX4_copyRow_3 rfl rfl ?_
    refine j_ilen (n := n0) (f := cpy i f h) (v := n0) C 1 rfl rfl dX4_copyRow_4 ?_
    refine j_icmp_ge (tgt := 26) C (by omega) (by omega) dX4_copyRow_5 (by decide) (fun c5 => ?_) (fun c5 => absurd c5 (by omega))
    refine J.sub (L1 := [(0, .ref a), (1, .ref b), (2, .int (iI ((i : Int))))]) [0, 1, 2] rfl ?_
    rw [hi9]
    exact kk
  | succ n ih =>
    intro i hi
    refine j_iload_n C 2 dX4_copyRow_2 rfl rfl ?_
    refine j_aload_n C 1 dX4_copyRow_3 rfl rfl ?_
    refine j_ilen (n := n0) (f := cpy i f h) (v := n0) C 1 rfl rfl dX4_copyRow_4 ?_
    refine j_icmp_ge (tgt := 26) C (by omega) (by omega) dX4_copyRow_5 (by decide) (fun c5 => absurd c5 (by omega)) (fun c5 => ?_)
    refine j_iload_n C 2 dX4_copyRow_8 rfl rfl ?_
    refine j_aload_n C 0 dX4_copyRow_9 rfl rfl ?_
    refine j_ilen (n := n0) (f := f) (v := n0) C 0 rfl rfl dX4_copyRow_10 ?_
    refine j_icmp_ge (tgt := 26) C (by omega) (by omega) dX4_copyRow_11 (by decide) (fun c11 => absurd c11 (by omega)) (fun c11 => ?_)
    refine j_aload_n C 1 dX4_copyRow_14 rfl rfl ?_
    refine j_iload_n C 2 dX4_copyRow_15 rfl rfl ?_
    refine j_aload_n C 0 dX4_copyRow_16 rfl rfl ?_
    refine j_iload_n C 2 dX4_copyRow_17 rfl rfl ?_
    refine j_iald (n := n0) (f := f) C 0 i rfl (by omega) (by omega) (by omega) dX4_copyRow_18 ?_
    refine j_iast (n := n0) (f := cpy i f h) (ws1 := [(a, aI g n0 f), (b, aI g n0 (va_up (cpy i f h) i (f i)))]) C 1 i rfl (by omega) (by omega) (by omega) dX4_copyRow_19 rfl ?_
    refine j_iinc (L1 := [(2, .int (iI (((i : Int)) + 1))), (0, .ref a), (1, .ref b)]) C 2 dX4_copyRow_20 rfl (by decide) rfl ?_
    refine j_goto (tgt := 2) C dX4_copyRow_23 (by decide) ?_
    refine J.sub (L1 := [(0, .ref a), (1, .ref b), (2, .int (iI (((i : Int)) + 1)))]) [1, 2, 0] rfl ?_
    rw [cpy_succ]
    exact ih (i + 1) (by omega)

theorem c_X4_copyRow (l : Launch) (g : Gh) (a b n0 : Nat) (f h : Nat → Int) (hn0 : n0 ≤ 1000) : CT l g yX4_copyRow cX4_copyRow 3 none ({ frames := 0, cells := 0, slots := 0, locals := 0 }) [.ref a, .ref b] [(a, aI g n0 f), (b, aI g n0 h)] (PE none [(a, aI g n0 f), (b, aI g n0 (cpy n0 f h))]) := by
  refine CT.intro (L0 := [(0, .ref a), (1, .ref b)]) (own := RX4) (by decide) rfl (Nat.le_of_ble_eq_true rfl) rfl ?_
  intro p e s m args below meth c A C hr hlk
  refine j_iconst C dX4_copyRow_0 ?_
  refine j_istore_n (L1 := [(2, .int (iI 0)), (0, .ref a), (1, .ref b)]) C dX4_copyRow_1 rfl (by decide) rfl ?_
  refine J.sub (L1 := [(0, .ref a), (1, .ref b), (2, .int (iI 0))]) [1, 2, 0] rfl ?_
  rw [← cpy_0 f h]
  refine lp_copyRow C hn0 ?_ n0 0 (by omega)
  exact j_vret C hr hlk dX4_copyRow_26 ⟨rfl, rfl⟩ (by decide) (by decide)

theorem pf2r (pre : va_W) (n : Nat) (mid post : va_W) : ∀ w : va_W, (pre ++ (w.drop n ++ (mid ++ (w.take n ++ post)))).Perm (w ++ (pre ++ (mid ++ post))) := fun w => by
  have h1 : (pre ++ (w.drop n ++ (mid ++ (w.take n ++ post)))).Perm (w.take n ++ (pre ++ (w.drop n ++ (mid ++ post)))) := by
    have h := pf1 (pre ++ (w.drop n ++ mid)) post (w.take n)
    simp only [List.append_assoc] at h
    exact h
  have h2 := List.Perm.append_left (w.take n) (pf1 pre (mid ++ post) (w.drop n))
  have h3 := h1.trans h2
  rw [show w.take n ++ (w.drop n ++ (pre ++ (mid ++ post))) = w ++ (pre ++ (mid ++ post)) by rw [← List.append_assoc, List.take_append_drop]] at h3
  exact h3
theorem c_X4_isBlock (l : Launch) (g : Gh) (b : Int) (hb : -2147483648 ≤ b ∧ b < 2147483648) : CT l g yX4_isBlock cX4_isBlock 1 (some FieldType.boolean) ({ frames := 0, cells := 0, slots := 0, locals := 0 }) [.int (iI b)] [] (PE (some (.int (iI (if 0 ≤ b ∧ b < 4 then 1 else 0)))) []) := by
  refine CT.intro (L0 := [(0, .int (iI b))]) (own := RX4) (by decide) rfl (Nat.le_of_ble_eq_true rfl) rfl ?_
  intro p e s m args below meth c A C hr hlk
  refine j_iload_n C 0 dX4_isBlock_0 rfl rfl ?_
  refine j_if_lt (tgt := 13) C (by omega) dX4_isBlock_1 (by decide) (fun c1 => ?_) (fun c1 => ?_)
  · refine j_iconst C dX4_isBlock_13 ?_
    exact j_zret C hr hlk rfl dX4_isBlock_14 ⟨by rw [if_neg (by omega)], rfl⟩ (by decide) (by decide)
  · refine j_iload_n C 0 dX4_isBlock_4 rfl rfl ?_
    refine j_iconst C dX4_isBlock_5 ?_
    refine j_icmp_ge (tgt := 13) C (by omega) (by decide) dX4_isBlock_6 (by decide) (fun c6 => ?_) (fun c6 => ?_)
    · refine j_iconst C dX4_isBlock_13 ?_
      exact j_zret C hr hlk rfl dX4_isBlock_14 ⟨by rw [if_neg (by omega)], rfl⟩ (by decide) (by decide)
    · refine j_iconst C dX4_isBlock_9 ?_
      refine j_goto (tgt := 14) C dX4_isBlock_10 (by decide) ?_
      exact j_zret C hr hlk rfl dX4_isBlock_14 ⟨by rw [if_pos (by omega)], rfl⟩ (by decide) (by decide)

theorem lp_pulleysOn {p : Program} {l : Launch} {e : Env} {s : State} {m : MethodId} {args : Array Value} {below : List Frame} {meth : Method} {c : Code} {g : Gh} {A : Nat → Prop} {Q : State → Prop} (C : Cx p g s m args c cX1_pulleysOn 4 RX1 A) {a b : Nat} {row : Nat → Int} {P E F : Int} {bl : Int} (hP : 0 ≤ P ∧ P ≤ 10) (hb : -10 ≤ bl ∧ bl ≤ 10) (hrow : ∀ i : Nat, (i : Int) < P → 0 ≤ row i ∧ row i ≤ 4) (kk : J p l e ({ frames := 0, cells := 0, slots := 0, locals := 0 } : Room) s m args below meth c g A 4 40 [(0, .ref a), (1, .int (iI bl)), (2, .int (iI (cnt row bl P.toNat))), (3, .int (iI ((P.toNat : Int))))] [] [(a, .inr (1, [.ref b, .int (iI P), .int (iI E), .int (iI F)])), (b, aI g 10 row)] 0 0 Q) : ∀ (n i : Nat), (i : Int) + n = P → J p l e ({ frames := 0, cells := 0, slots := 0, locals := 0 } : Room) s m args below meth c g A 4 4 [(0, .ref a), (1, .int (iI bl)), (2, .int (iI (cnt row bl i))), (3, .int (iI ((i : Int))))] [] [(a, .inr (1, [.ref b, .int (iI P), .int (iI E), .int (iI F)])), (b, aI g 10 row)] 0 0 Q := by
  intro n
  induction n with
  | zero =>
    intro i hi
    have hi9 : i = P.toNat := by omega
    refine j_iload_n C 3 dX1_pulleysOn_4 rfl rfl ?_
    refine j_aload_n C 0 dX1_pulleysOn_5 rfl rfl ?_
    refine j_get C ck1 0 1 (by decide) qw36 rfl rfl dX1_pulleysOn_6 ?_
    refine j_icmp_ge (tgt := 40) C (by omega) (by omega) dX1_pulleysOn_9 (by decide) (fun c9 => ?_) (fun c9 => absurd c9 (by omega))
    refine J.sub (L1 := [(0, .ref a), (1, .int (iI bl)), (2, .int (iI (cnt row bl i))), (3, .int (iI ((i : Int))))]) [0, 1, 2, 3] rfl ?_
    rw [hi9]
    exact kk
  | succ n ih =>
    intro i hi
    have hr9 := hrow i (by omega)
    have hc9 := cnt_rng row bl i
    refine j_iload_n C 3 dX1_pulleysOn_4 rfl rfl ?_
    refine j_aload_n C 0 dX1_pulleysOn_5 rfl rfl ?_
    refine j_get C ck1 0 1 (by decide) qw36 rfl rfl dX1_pulleysOn_6 ?_
    refine j_icmp_ge (tgt := 40) C (by omega) (by omega) dX1_pulleysOn_9 (by decide) (fun c9 => absurd c9 (by omega)) (fun c9 => ?_)
    refine j_iload_n C 3 dX1_pulleysOn_12 rfl rfl ?_
    refine j_aload_n C 0 dX1_pulleysOn_13 rfl rfl ?_
    refine j_get C ck1 0 0 (by decide) qw34 rfl rfl dX1_pulleysOn_14 ?_
    refine j_ilen (n := 10) (f := row) (v := 10) C 1 rfl rfl dX1_pulleysOn_17 ?_
    refine j_icmp_ge (tgt := 40) C (by omega) (by decide) dX1_pulleysOn_18 (by decide) (fun c18 => absurd c18 (by omega)) (fun c18 => ?_)
    refine j_aload_n C 0 dX1_pulleysOn_21 rfl rfl ?_
    refine j_get C ck1 0 0 (by decide) qw34 rfl rfl dX1_pulleysOn_22 ?_
    refine j_iload_n C 3 dX1_pulleysOn_25 rfl rfl ?_
    refine j_iald (n := 10) (f := row) C 1 i rfl rfl (by omega) (by decide) dX1_pulleysOn_26 ?_
    refine j_iload_n C 1 dX1_pulleysOn_27 rfl rfl ?_
    refine j_icmp_ne (tgt := 34) C (by omega) (by omega) dX1_pulleysOn_28 (by decide) (fun c28 => ?_) (fun c28 => ?_)
    · refine j_iinc (L1 := [(3, .int (iI (((i : Int)) + 1))), (0, .ref a), (1, .int (iI bl)), (2, .int (iI (cnt row bl i)))]) C 3 dX1_pulleysOn_34 rfl (by decide) rfl ?_
      refine j_goto (tgt := 4) C dX1_pulleysOn_37 (by decide) ?_
      refine J.sub (L1 := [(0, .ref a), (1, .int (iI bl)), (2, .int (iI (cnt row bl i))), (3, .int (iI (((i : Int)) + 1)))]) [1, 2, 3, 0] rfl ?_
      have h9 := ih (i + 1) (by omega)
      rw [show cnt row bl (i + 1) = cnt row bl i by simp only [cnt]; rw [if_neg c28]; omega] at h9
      exact h9
    · refine j_iinc (L1 := [(2, .int (iI ((cnt row bl i) + 1))), (0, .ref a), (1, .int (iI bl)), (3, .int (iI ((i : Int))))]) C 2 dX1_pulleysOn_31 rfl (by decide) rfl ?_
      refine j_iinc (L1 := [(3, .int (iI (((i : Int)) + 1))), (2, .int (iI ((cnt row bl i) + 1))), (0, .ref a), (1, .int (iI bl))]) C 3 dX1_pulleysOn_34 rfl (by decide) rfl ?_
      refine j_goto (tgt := 4) C dX1_pulleysOn_37 (by decide) ?_
      refine J.sub (L1 := [(0, .ref a), (1, .int (iI bl)), (2, .int (iI ((cnt row bl i) + 1))), (3, .int (iI (((i : Int)) + 1)))]) [2, 3, 1, 0] rfl ?_
      have h9 := ih (i + 1) (by omega)
      rw [show cnt row bl (i + 1) = cnt row bl i + 1 by simp only [cnt]; rw [if_pos c28]] at h9
      exact h9

theorem c_X1_pulleysOn (l : Launch) (g : Gh) (a b : Nat) (row : Nat → Int) (P E F : Int) (bl : Int) (hP : 0 ≤ P ∧ P ≤ 10) (hb : -10 ≤ bl ∧ bl ≤ 10) (hrow : ∀ i : Nat, (i : Int) < P → 0 ≤ row i ∧ row i ≤ 4) : CT l g yX1_pulleysOn cX1_pulleysOn 4 (some FieldType.int) ({ frames := 0, cells := 0, slots := 0, locals := 0 }) [.ref a, .int (iI bl)] [(a, .inr (1, [.ref b, .int (iI P), .int (iI E), .int (iI F)])), (b, aI g 10 row)] (PE (some (.int (iI (cnt row bl P.toNat)))) [(a, .inr (1, [.ref b, .int (iI P), .int (iI E), .int (iI F)])), (b, aI g 10 row)]) := by
  refine CT.intro (L0 := [(0, .ref a), (1, .int (iI bl))]) (own := RX1) (by decide) rfl (Nat.le_of_ble_eq_true rfl) rfl ?_
  intro p e s m args below meth c A C hr hlk
  refine j_iconst C dX1_pulleysOn_0 ?_
  refine j_istore_n (L1 := [(2, .int (iI 0)), (0, .ref a), (1, .int (iI bl))]) C dX1_pulleysOn_1 rfl (by decide) rfl ?_
  refine j_iconst C dX1_pulleysOn_2 ?_
  refine j_istore_n (L1 := [(3, .int (iI 0)), (2, .int (iI 0)), (0, .ref a), (1, .int (iI bl))]) C dX1_pulleysOn_3 rfl (by decide) rfl ?_
  refine J.sub (L1 := [(0, .ref a), (1, .int (iI bl)), (2, .int (iI 0)), (3, .int (iI 0))]) [2, 3, 1, 0] rfl ?_
  refine lp_pulleysOn C hP hb hrow ?_ P.toNat 0 (by omega)
  refine j_iload_n C 2 dX1_pulleysOn_40 rfl rfl ?_
  exact j_iret C hr hlk dX1_pulleysOn_41 ⟨rfl, rfl⟩ (by decide) (by decide)
end
section
/-! the rope s way: RopeTackle.Reeving -/
theorem b2i_0 {h : Bool} (q : b2i h = 0) : h = false := by
  cases h
  · rfl
  · exact absurd q (by decide)
theorem b2i_1 {h : Bool} (q : b2i h ≠ 0) : h = true := by
  cases h
  · exact absurd rfl q
  · rfl
theorem beh_t (F t : Int) : beh F true t = t - t * F / 100 := rfl
theorem beh_f (F t : Int) : beh F false t = t + t * F / 100 := rfl
theorem c_X1_strandsOf (l : Launch) (g : Gh) (a b : Nat) (row : Nat → Int) (P E F : Int) (bl : Int) (hP : 0 ≤ P ∧ P ≤ 10) (hE : -10 ≤ E ∧ E ≤ 10) (hb : -10 ≤ bl ∧ bl ≤ 10) (hrow : ∀ i : Nat, (i : Int) < P → 0 ≤ row i ∧ row i ≤ 4) : CT l g yX1_strandsOf cX1_strandsOf 2 (some FieldType.int) ({ frames := 1, cells := 0, slots := 0, locals := 23 }) [.ref a, .int (iI bl)] [(a, .inr (1, [.ref b, .int (iI P), .int (iI E), .int (iI F)])), (b, aI g 10 row)] (PE (some (.int (iI (strn row P.toNat E bl)))) [(a, .inr (1, [.ref b, .int (iI P), .int (iI E), .int (iI F)])), (b, aI g 10 row)]) := by
  refine CT.intro (L0 := [(0, .ref a), (1, .int (iI bl))]) (own := RX1) (by decide) rfl (Nat.le_of_ble_eq_true rfl) rfl ?_
  intro p e s m args below meth c A C hr hlk
  refine j_iconst C dX1_strandsOf_0 ?_
  refine j_aload_n C 0 dX1_strandsOf_1 rfl rfl ?_
  refine j_iload_n C 1 dX1_strandsOf_2 rfl rfl ?_
  refine j_callV (As := [.int (iI bl)]) (rest := [.int (iI 2)]) C yv_X1_pulleysOn qw181 (c_X1_pulleysOn l g a b row P E F bl hP hb hrow) (by decide) 0 rfl rfl rfl dX1_strandsOf_3 rfl (Nat.le_of_ble_eq_true rfl) (by decide) pf0 rfl (fun r9 w9 hq9 => ?_)
  obtain ⟨rfl, rfl⟩ := hq9
  refine J.to (L1 := [(0, .ref a), (1, .int (iI bl))]) (S1 := [.int (iI (cnt row bl P.toNat)), .int (iI 2)]) (ws1 := [(a, .inr (1, [.ref b, .int (iI P), .int (iI E), .int (iI F)])), (b, aI g 10 row)]) rfl rfl rfl ?_
  refine j_imul C dX1_strandsOf_6 ?_
  refine j_aload_n C 0 dX1_strandsOf_7 rfl rfl ?_
  refine j_get C ck1 0 2 (by decide) qw38 rfl rfl dX1_strandsOf_8 ?_
  refine j_iload_n C 1 dX1_strandsOf_11 rfl rfl ?_
  refine j_icmp_ne (tgt := 19) C (by omega) (by omega) dX1_strandsOf_12 (by decide) (fun c12 => ?_) (fun c12 => ?_)
  · refine j_iconst C dX1_strandsOf_19 ?_
    refine j_iadd C dX1_strandsOf_20 ?_
    exact j_iret C hr hlk dX1_strandsOf_21 ⟨by rw [strn, if_neg c12], rfl⟩ (by decide) (by decide)
  · refine j_iconst C dX1_strandsOf_15 ?_
    refine j_goto (tgt := 20) C dX1_strandsOf_16 (by decide) ?_
    refine j_iadd C dX1_strandsOf_20 ?_
    exact j_iret C hr hlk dX1_strandsOf_21 ⟨by rw [strn, if_pos c12], rfl⟩ (by decide) (by decide)

theorem c_X1_passes (l : Launch) (g : Gh) (a b : Nat) (P E F : Int) (hE : -10 ≤ E ∧ E ≤ 10) : CT l g yX1_passes cX1_passes 1 (some FieldType.int) ({ frames := 0, cells := 0, slots := 0, locals := 0 }) [.ref a] [(a, .inr (1, [.ref b, .int (iI P), .int (iI E), .int (iI F)]))] (PE (some (.int (iI (2 * P + if E = 4 then 0 else 1)))) [(a, .inr (1, [.ref b, .int (iI P), .int (iI E), .int (iI F)]))]) := by
  refine CT.intro (L0 := [(0, .ref a)]) (own := RX1) (by decide) rfl (Nat.le_of_ble_eq_true rfl) rfl ?_
  intro p e s m args below meth c A C hr hlk
  refine j_iconst C dX1_passes_0 ?_
  refine j_aload_n C 0 dX1_passes_1 rfl rfl ?_
  refine j_get C ck1 0 1 (by decide) qw36 rfl rfl dX1_passes_2 ?_
  refine j_imul C dX1_passes_5 ?_
  refine j_aload_n C 0 dX1_passes_6 rfl rfl ?_
  refine j_get C ck1 0 2 (by decide) qw38 rfl rfl dX1_passes_7 ?_
  refine j_iconst C dX1_passes_10 ?_
  refine j_icmp_ne (tgt := 18) C (by omega) (by decide) dX1_passes_11 (by decide) (fun c11 => ?_) (fun c11 => ?_)
  · refine j_iconst C dX1_passes_18 ?_
    refine j_iadd C dX1_passes_19 ?_
    exact j_iret C hr hlk dX1_passes_20 ⟨by rw [if_neg c11], rfl⟩ (by decide) (by decide)
  · refine j_iconst C dX1_passes_14 ?_
    refine j_goto (tgt := 19) C dX1_passes_15 (by decide) ?_
    refine j_iadd C dX1_passes_19 ?_
    exact j_iret C hr hlk dX1_passes_20 ⟨by rw [if_pos c11], rfl⟩ (by decide) (by decide)

theorem c_X1_behindOne (l : Launch) (g : Gh) (a b : Nat) (P E F : Int) (t : Int) (h : Bool) (hF : 0 ≤ F ∧ F ≤ 30) (ht : 0 ≤ t ∧ t ≤ 4194304000000) : CT l g yX1_behindOne cX1_behindOne 6 (some FieldType.long) ({ frames := 0, cells := 0, slots := 0, locals := 0 }) [.ref a, .long (lI t), .int (iI (b2i h))] [(a, .inr (1, [.ref b, .int (iI P), .int (iI E), .int (iI F)]))] (PE (some (.long (lI (beh F h t)))) [(a, .inr (1, [.ref b, .int (iI P), .int (iI E), .int (iI F)]))]) := by
  refine CT.intro (L0 := [(0, .ref a), (1, .long (lI t)), (3, .int (iI (b2i h)))]) (own := RX1) (by decide) rfl (Nat.le_of_ble_eq_true rfl) rfl ?_
  intro p e s m args below meth c A C hr hlk
  have hm9 := mulF ht.1 hF
  have hh9 := b2i_rng h
  refine j_lload_n C 1 dX1_behindOne_0 rfl rfl ?_
  refine j_aload_n C 0 dX1_behindOne_1 rfl rfl ?_
  refine j_get C ck1 0 3 (by decide) qw41 rfl rfl dX1_behindOne_2 ?_
  refine j_i2l C (by omega) dX1_behindOne_5 ?_
  refine j_lmul C dX1_behindOne_6 ?_
  refine j_ldc2 (x := 100) C qw194 (by decide) dX1_behindOne_7 ?_
  refine j_ldiv C (by omega) (by decide) dX1_behindOne_10 ?_
  refine j_lstore (L1 := [(4, .long (lI ((t * F) / 100))), (0, .ref a), (1, .long (lI t)), (3, .int (iI (b2i h)))]) C dX1_behindOne_11 (by decide) rfl ?_
  refine j_iload_n C 3 dX1_behindOne_13 rfl rfl ?_
  refine j_if_eq (tgt := 24) C (by omega) dX1_behindOne_14 (by decide) (fun c14 => ?_) (fun c14 => ?_)
  · refine j_lload_n C 2 dX1_behindOne_24 rfl rfl ?_
    refine j_lload C 0 dX1_behindOne_25 rfl ?_
    refine j_ladd C dX1_behindOne_27 ?_
    exact j_lret C hr hlk dX1_behindOne_28 ⟨by rw [b2i_0 c14, beh_f], rfl⟩ (by decide) (by decide)
  · refine j_lload_n C 2 dX1_behindOne_17 rfl rfl ?_
    refine j_lload C 0 dX1_behindOne_18 rfl ?_
    refine j_lsub C dX1_behindOne_20 ?_
    refine j_goto (tgt := 28) C dX1_behindOne_21 (by decide) ?_
    exact j_lret C hr hlk dX1_behindOne_28 ⟨by rw [b2i_1 c14, beh_t], rfl⟩ (by decide) (by decide)

theorem lp_forceBehind {p : Program} {l : Launch} {e : Env} {s : State} {m : MethodId} {args : Array Value} {below : List Frame} {meth : Method} {c : Code} {g : Gh} {A : Nat → Prop} {Q : State → Prop} (C : Cx p g s m args c cX1_forceBehind 7 RX1 A) {a b : Nat} {P E F : Int} {q t : Int} {h : Bool} (hF : 0 ≤ F ∧ F ≤ 30) (ht : 0 ≤ t ∧ t ≤ 1000000) (hq : 0 ≤ q ∧ q ≤ 22)  (kk : J p l e ({ frames := 1, cells := 0, slots := 0, locals := 25 } : Room) s m args below meth c g A 7 28 [(0, .ref a), (2, .int (iI q)), (3, .int (iI (b2i h))), (4, .long (lI (fbn F h t q.toNat))), (6, .int (iI ((q.toNat : Int))))] [] [(a, .inr (1, [.ref b, .int (iI P), .int (iI E), .int (iI F)]))] 0 0 Q) : ∀ (n i : Nat), (i : Int) + n = q → J p l e ({ frames := 1, cells := 0, slots := 0, locals := 25 } : Room) s m args below meth c g A 7 7 [(0, .ref a), (2, .int (iI q)), (3, .int (iI (b2i h))), (4, .long (lI (fbn F h t i))), (6, .int (iI ((i : Int))))] [] [(a, .inr (1, [.ref b, .int (iI P), .int (iI E), .int (iI F)]))] 0 0 Q := by
  intro n
  induction n with
  | zero =>
    intro i hi
    have hi9 : i = q.toNat := by omega
    refine j_iload C 4 dX1_forceBehind_7 rfl ?_
    refine j_iload_n C 1 dX1_forceBehind_9 rfl rfl ?_
    refine j_icmp_ge (tgt := 28) C (by omega) (by omega) dX1_forceBehind_10 (by decide) (fun c10 => ?_) (fun c10 => absurd c10 (by omega))
    refine J.sub (L1 := [(0, .ref a), (2, .int (iI q)), (3, .int (iI (b2i h))), (4, .long (lI (fbn F h t i))), (6, .int (iI ((i : Int))))]) [0, 1, 2, 3, 4] rfl ?_
    rw [hi9]
    exact kk
  | succ n ih =>
    intro i hi
    have hb9 := fbn_le (h := h) (n := i) hF ht (by omega)
    refine j_iload C 4 dX1_forceBehind_7 rfl ?_
    refine j_iload_n C 1 dX1_forceBehind_9 rfl rfl ?_
    refine j_icmp_ge (tgt := 28) C (by omega) (by omega) dX1_forceBehind_10 (by decide) (fun c10 => absurd c10 (by omega)) (fun c10 => ?_)
    refine j_aload_n C 0 dX1_forceBehind_13 rfl rfl ?_
    refine j_lload C 3 dX1_forceBehind_14 rfl ?_
    refine j_iload_n C 2 dX1_forceBehind_16 rfl rfl ?_
    refine j_callV (As := [.long (lI (fbn F h t i)), .int (iI (b2i h))]) (rest := []) C yv_X1_behindOne qw190 (c_X1_behindOne l g a b P E F (fbn F h t i) h hF (by omega)) (by decide) 0 rfl rfl rfl dX1_forceBehind_17 rfl (Nat.le_of_ble_eq_true rfl) (by decide) pf0 rfl (fun r9 w9 hq9 => ?_)
    obtain ⟨rfl, rfl⟩ := hq9
    refine J.to (L1 := [(0, .ref a), (2, .int (iI q)), (3, .int (iI (b2i h))), (4, .long (lI (fbn F h t i))), (6, .int (iI ((i : Int))))]) (S1 := [.long (lI (fbn F h t (i + 1)))]) (ws1 := [(a, .inr (1, [.ref b, .int (iI P), .int (iI E), .int (iI F)]))]) rfl rfl rfl ?_
    refine j_lstore (L1 := [(4, .long (lI (fbn F h t (i + 1)))), (0, .ref a), (2, .int (iI q)), (3, .int (iI (b2i h))), (6, .int (iI ((i : Int))))]) C dX1_forceBehind_20 (by decide) rfl ?_
    refine j_iinc (L1 := [(6, .int (iI (((i : Int)) + 1))), (4, .long (lI (fbn F h t (i + 1)))), (0, .ref a), (2, .int (iI q)), (3, .int (iI (b2i h)))]) C 4 dX1_forceBehind_22 rfl (by decide) rfl ?_
    refine j_goto (tgt := 7) C dX1_forceBehind_25 (by decide) ?_
    refine J.sub (L1 := [(0, .ref a), (2, .int (iI q)), (3, .int (iI (b2i h))), (4, .long (lI (fbn F h t (i + 1)))), (6, .int (iI (((i : Int)) + 1)))]) [2, 3, 4, 1, 0] rfl ?_
    exact ih (i + 1) (by omega)

theorem c_X1_forceBehind (l : Launch) (g : Gh) (a b : Nat) (P E F : Int) (q t : Int) (h : Bool) (hF : 0 ≤ F ∧ F ≤ 30) (ht : 0 ≤ t ∧ t ≤ 1000000) (hq : 0 ≤ q ∧ q ≤ 22) : CT l g yX1_forceBehind cX1_forceBehind 7 (some FieldType.long) ({ frames := 1, cells := 0, slots := 0, locals := 25 }) [.ref a, .int (iI t), .int (iI q), .int (iI (b2i h))] [(a, .inr (1, [.ref b, .int (iI P), .int (iI E), .int (iI F)]))] (PE (some (.long (lI (fbn F h t q.toNat)))) [(a, .inr (1, [.ref b, .int (iI P), .int (iI E), .int (iI F)]))]) := by
  refine CT.intro (L0 := [(0, .ref a), (1, .int (iI t)), (2, .int (iI q)), (3, .int (iI (b2i h)))]) (own := RX1) (by decide) rfl (Nat.le_of_ble_eq_true rfl) rfl ?_
  intro p e s m args below meth c A C hr hlk
  refine j_iload_n C 1 dX1_forceBehind_0 rfl rfl ?_
  refine j_i2l C (by omega) dX1_forceBehind_1 ?_
  refine j_lstore (L1 := [(4, .long (lI t)), (0, .ref a), (1, .int (iI t)), (2, .int (iI q)), (3, .int (iI (b2i h)))]) C dX1_forceBehind_2 (by decide) rfl ?_
  refine j_iconst C dX1_forceBehind_4 ?_
  refine j_istore (L1 := [(6, .int (iI 0)), (4, .long (lI t)), (0, .ref a), (1, .int (iI t)), (2, .int (iI q)), (3, .int (iI (b2i h)))]) C dX1_forceBehind_5 (by decide) rfl ?_
  refine J.sub (L1 := [(0, .ref a), (2, .int (iI q)), (3, .int (iI (b2i h))), (4, .long (lI t)), (6, .int (iI 0))]) [2, 4, 5, 1, 0] rfl ?_
  refine lp_forceBehind C hF ht hq ?_ q.toNat 0 (by omega)
  refine j_lload C 3 dX1_forceBehind_28 rfl ?_
  exact j_lret C hr hlk dX1_forceBehind_30 ⟨rfl, rfl⟩ (by decide) (by decide)

theorem lp_pullOn {p : Program} {l : Launch} {e : Env} {s : State} {m : MethodId} {args : Array Value} {below : List Frame} {meth : Method} {c : Code} {g : Gh} {A : Nat → Prop} {Q : State → Prop} (C : Cx p g s m args c cX1_pullOn 11 RX1 A) {a b : Nat} {row : Nat → Int} {P E F : Int} {bl t : Int} {h : Bool} (hP : 0 ≤ P ∧ P ≤ 10) (hF : 0 ≤ F ∧ F ≤ 30) (hb : -10 ≤ bl ∧ bl ≤ 10) (ht : 0 ≤ t ∧ t ≤ 1000000) (hrow : ∀ i : Nat, (i : Int) < P → 0 ≤ row i ∧ row i ≤ 4) (kk : J p l e ({ frames := 1, cells := 0, slots := 0, locals := 25 } : Room) s m args below meth c g A 11 74 [(0, .ref a), (1, .int (iI bl)), (3, .int (iI (b2i h))), (4, .long (lI (psum row F h bl t P.toNat))), (6, .long (lI (fbn F h t (2 * P.toNat)))), (8, .int (iI ((P.toNat : Int))))] [] [(a, .inr (1, [.ref b, .int (iI P), .int (iI E), .int (iI F)])), (b, aI g 10 row)] 0 0 Q) : ∀ (n i : Nat), (i : Int) + n = P → J p l e ({ frames := 1, cells := 0, slots := 0, locals := 25 } : Room) s m args below meth c g A 11 10 [(0, .ref a), (1, .int (iI bl)), (3, .int (iI (b2i h))), (4, .long (lI (psum row F h bl t i))), (6, .long (lI (fbn F h t (2 * i)))), (8, .int (iI ((i : Int))))] [] [(a, .inr (1, [.ref b, .int (iI P), .int (iI E), .int (iI F)])), (b, aI g 10 row)] 0 0 Q := by
  intro n
  induction n with
  | zero =>
    intro i hi
    have hi9 : i = P.toNat := by omega
    refine j_iload C 5 dX1_pullOn_10 rfl ?_
    refine j_aload_n C 0 dX1_pullOn_12 rfl rfl ?_
    refine j_get C ck1 0 1 (by decide) qw36 rfl rfl dX1_pullOn_13 ?_
    refine j_icmp_ge (tgt := 74) C (by omega) (by omega) dX1_pullOn_16 (by decide) (fun c16 => ?_) (fun c16 => absurd c16 (by omega))
    refine J.sub (L1 := [(0, .ref a), (1, .int (iI bl)), (3, .int (iI (b2i h))), (4, .long (lI (psum row F h bl t i))), (6, .long (lI (fbn F h t (2 * i)))), (8, .int (iI ((i : Int))))]) [0, 1, 2, 3, 4, 5] rfl ?_
    rw [hi9]
    exact kk
  | succ n ih =>
    intro i hi
    have hr9 := hrow i (by omega)
    have hb9 := fbn_le (h := h) (n := 2 * i) hF ht (by omega)
    have hb8 := fbn_le (h := h) (n := 2 * i + 1) hF ht (by omega)
    refine j_iload C 5 dX1_pullOn_10 rfl ?_
    refine j_aload_n C 0 dX1_pullOn_12 rfl rfl ?_
    refine j_get C ck1 0 1 (by decide) qw36 rfl rfl dX1_pullOn_13 ?_
    refine j_icmp_ge (tgt := 74) C (by omega) (by omega) dX1_pullOn_16 (by decide) (fun c16 => absurd c16 (by omega)) (fun c16 => ?_)
    refine j_iload C 5 dX1_pullOn_19 rfl ?_
    refine j_aload_n C 0 dX1_pullOn_21 rfl rfl ?_
    refine j_get C ck1 0 0 (by decide) qw34 rfl rfl dX1_pullOn_22 ?_
    refine j_ilen (n := 10) (f := row) (v := 10) C 1 rfl rfl dX1_pullOn_25 ?_
    refine j_icmp_ge (tgt := 74) C (by omega) (by decide) dX1_pullOn_26 (by decide) (fun c26 => absurd c26 (by omega)) (fun c26 => ?_)
    refine j_aload_n C 0 dX1_pullOn_29 rfl rfl ?_
    refine j_lload C 4 dX1_pullOn_30 rfl ?_
    refine j_iload_n C 2 dX1_pullOn_32 rfl rfl ?_
    refine j_callV (As := [.long (lI (fbn F h t (2 * i))), .int (iI (b2i h))]) (rest := []) C yv_X1_behindOne qw190 (c_X1_behindOne l g a b P E F (fbn F h t (2 * i)) h hF (by omega)) (by decide) 0 rfl rfl rfl dX1_pullOn_33 rfl (Nat.le_of_ble_eq_true rfl) (by decide) (pf1 [] [(b, aI g 10 row)]) rfl (fun r9 w9 hq9 => ?_)
    obtain ⟨rfl, rfl⟩ := hq9
    refine J.to (L1 := [(0, .ref a), (1, .int (iI bl)), (3, .int (iI (b2i h))), (4, .long (lI (psum row F h bl t i))), (6, .long (lI (fbn F h t (2 * i)))), (8, .int (iI ((i : Int))))]) (S1 := [.long (lI (fbn F h t (2 * i + 1)))]) (ws1 := [(a, .inr (1, [.ref b, .int (iI P), .int (iI E), .int (iI F)])), (b, aI g 10 row)]) rfl rfl rfl ?_
    refine j_lstore (L1 := [(9, .long (lI (fbn F h t (2 * i + 1)))), (0, .ref a), (1, .int (iI bl)), (3, .int (iI (b2i h))), (4, .long (lI (psum row F h bl t i))), (6, .long (lI (fbn F h t (2 * i)))), (8, .int (iI ((i : Int))))]) C dX1_pullOn_36 (by decide) rfl ?_
    refine j_aload_n C 1 dX1_pullOn_38 rfl rfl ?_
    refine j_lload C 0 dX1_pullOn_39 rfl ?_
    refine j_iload_n C 3 dX1_pullOn_41 rfl rfl ?_
    refine j_callV (As := [.long (lI (fbn F h t (2 * i + 1))), .int (iI (b2i h))]) (rest := []) C yv_X1_behindOne qw190 (c_X1_behindOne l g a b P E F (fbn F h t (2 * i + 1)) h hF (by omega)) (by decide) 0 rfl rfl rfl dX1_pullOn_42 rfl (Nat.le_of_ble_eq_true rfl) (by decide) (pf1 [] [(b, aI g 10 row)]) rfl (fun r9 w9 hq9 => ?_)
    obtain ⟨rfl, rfl⟩ := hq9
    refine J.to (L1 := [(9, .long (lI (fbn F h t (2 * i + 1)))), (0, .ref a), (1, .int (iI bl)), (3, .int (iI (b2i h))), (4, .long (lI (psum row F h bl t i))), (6, .long (lI (fbn F h t (2 * i)))), (8, .int (iI ((i : Int))))]) (S1 := [.long (lI (fbn F h t (2 * i + 2)))]) (ws1 := [(a, .inr (1, [.ref b, .int (iI P), .int (iI E), .int (iI F)])), (b, aI g 10 row)]) rfl rfl rfl ?_
    refine j_lstore (L1 := [(6, .long (lI (fbn F h t (2 * i + 2)))), (9, .long (lI (fbn F h t (2 * i + 1)))), (0, .ref a), (1, .int (iI bl)), (3, .int (iI (b2i h))), (4, .long (lI (psum row F h bl t i))), (8, .int (iI ((i : Int))))]) C dX1_pullOn_45 (by decide) rfl ?_
    refine j_aload_n C 2 dX1_pullOn_47 rfl rfl ?_
    refine j_get C ck1 0 0 (by decide) qw34 rfl rfl dX1_pullOn_48 ?_
    refine j_iload C 6 dX1_pullOn_51 rfl ?_
    refine j_iald (n := 10) (f := row) C 1 i rfl rfl (by omega) (by decide) dX1_pullOn_53 ?_
    refine j_iload_n C 3 dX1_pullOn_54 rfl rfl ?_
    refine j_icmp_ne (tgt := 68) C (by omega) (by omega) dX1_pullOn_55 (by decide) (fun c55 => ?_) (fun c55 => ?_)
    · refine j_iinc (L1 := [(8, .int (iI (((i : Int)) + 1))), (6, .long (lI (fbn F h t (2 * i + 2)))), (9, .long (lI (fbn F h t (2 * i + 1)))), (0, .ref a), (1, .int (iI bl)), (3, .int (iI (b2i h))), (4, .long (lI (psum row F h bl t i)))]) C 6 dX1_pullOn_68 rfl (by decide) rfl ?_
      refine j_goto (tgt := 10) C dX1_pullOn_71 (by decide) ?_
      refine J.sub (L1 := [(0, .ref a), (1, .int (iI bl)), (3, .int (iI (b2i h))), (4, .long (lI (psum row F h bl t i))), (6, .long (lI (fbn F h t (2 * i + 2)))), (8, .int (iI (((i : Int)) + 1)))]) [3, 4, 5, 6, 1, 0] rfl ?_
      have h9 := ih (i + 1) (by omega)
      rw [show psum row F h bl t (i + 1) = psum row F h bl t i by simp only [psum]; rw [if_neg c55]; omega] at h9
      exact h9
    · refine j_lload C 5 dX1_pullOn_58 rfl ?_
      refine j_lload C 1 dX1_pullOn_60 rfl ?_
      refine j_lload C 0 dX1_pullOn_62 rfl ?_
      refine j_ladd C dX1_pullOn_64 ?_
      refine j_ladd C dX1_pullOn_65 ?_
      refine j_lstore (L1 := [(4, .long (lI ((psum row F h bl t i) + ((fbn F h t (2 * i + 1)) + (fbn F h t (2 * i + 2)))))), (6, .long (lI (fbn F h t (2 * i + 2)))), (9, .long (lI (fbn F h t (2 * i + 1)))), (0, .ref a), (1, .int (iI bl)), (3, .int (iI (b2i h))), (8, .int (iI ((i : Int))))]) C dX1_pullOn_66 (by decide) rfl ?_
      refine j_iinc (L1 := [(8, .int (iI (((i : Int)) + 1))), (4, .long (lI ((psum row F h bl t i) + ((fbn F h t (2 * i + 1)) + (fbn F h t (2 * i + 2)))))), (6, .long (lI (fbn F h t (2 * i + 2)))), (9, .long (lI (fbn F h t (2 * i + 1)))), (0, .ref a), (1, .int (iI bl)), (3, .int (iI (b2i h)))]) C 6 dX1_pullOn_68 rfl (by decide) rfl ?_
      refine j_goto (tgt := 10) C dX1_pullOn_71 (by decide) ?_
      refine J.sub (L1 := [(0, .ref a), (1, .int (iI bl)), (3, .int (iI (b2i h))), (4, .long (lI ((psum row F h bl t i) + ((fbn F h t (2 * i + 1)) + (fbn F h t (2 * i + 2)))))), (6, .long (lI (fbn F h t (2 * i + 2)))), (8, .int (iI (((i : Int)) + 1)))]) [4, 5, 6, 1, 2, 0] rfl ?_
      have h9 := ih (i + 1) (by omega)
      rw [show psum row F h bl t (i + 1) = psum row F h bl t i + (fbn F h t (2 * i + 1) + fbn F h t (2 * i + 2)) by simp only [psum]; rw [if_pos c55]] at h9
      exact h9

theorem c_X1_pullOn (l : Launch) (g : Gh) (a b : Nat) (row : Nat → Int) (P E F : Int) (bl t : Int) (h : Bool) (hP : 0 ≤ P ∧ P ≤ 10) (hE : -10 ≤ E ∧ E ≤ 10) (hF : 0 ≤ F ∧ F ≤ 30) (hb : -10 ≤ bl ∧ bl ≤ 10) (ht : 0 ≤ t ∧ t ≤ 1000000) (hrow : ∀ i : Nat, (i : Int) < P → 0 ≤ row i ∧ row i ≤ 4) : CT l g yX1_pullOn cX1_pullOn 11 (some FieldType.long) ({ frames := 1, cells := 0, slots := 0, locals := 25 }) [.ref a, .int (iI bl), .int (iI t), .int (iI (b2i h))] [(a, .inr (1, [.ref b, .int (iI P), .int (iI E), .int (iI F)])), (b, aI g 10 row)] (PE (some (.long (lI (pul row F h P.toNat E bl t)))) [(a, .inr (1, [.ref b, .int (iI P), .int (iI E), .int (iI F)])), (b, aI g 10 row)]) := by
  refine CT.intro (L0 := [(0, .ref a), (1, .int (iI bl)), (2, .int (iI t)), (3, .int (iI (b2i h)))]) (own := RX1) (by decide) rfl (Nat.le_of_ble_eq_true rfl) rfl ?_
  intro p e s m args below meth c A C hr hlk
  have hb9 := fbn_le (h := h) (n := 2 * P.toNat) hF ht (by omega)
  refine j_lconst (v := 0) C dX1_pullOn_0 rfl ?_
  refine j_lstore (L1 := [(4, .long (lI 0)), (0, .ref a), (1, .int (iI bl)), (2, .int (iI t)), (3, .int (iI (b2i h)))]) C dX1_pullOn_1 (by decide) rfl ?_
  refine j_iload_n C 3 dX1_pullOn_3 rfl rfl ?_
  refine j_i2l C (by omega) dX1_pullOn_4 ?_
  refine j_lstore (L1 := [(6, .long (lI t)), (4, .long (lI 0)), (0, .ref a), (1, .int (iI bl)), (2, .int (iI t)), (3, .int (iI (b2i h)))]) C dX1_pullOn_5 (by decide) rfl ?_
  refine j_iconst C dX1_pullOn_7 ?_
  refine j_istore (L1 := [(8, .int (iI 0)), (6, .long (lI t)), (4, .long (lI 0)), (0, .ref a), (1, .int (iI bl)), (2, .int (iI t)), (3, .int (iI (b2i h)))]) C dX1_pullOn_8 (by decide) rfl ?_
  refine J.sub (L1 := [(0, .ref a), (1, .int (iI bl)), (3, .int (iI (b2i h))), (4, .long (lI 0)), (6, .long (lI t)), (8, .int (iI 0))]) [3, 4, 6, 2, 1, 0] rfl ?_
  refine lp_pullOn C hP hF hb ht hrow ?_ P.toNat 0 (by omega)
  refine j_aload_n C 0 dX1_pullOn_74 rfl rfl ?_
  refine j_get C ck1 0 2 (by decide) qw38 rfl rfl dX1_pullOn_75 ?_
  refine j_iload_n C 1 dX1_pullOn_78 rfl rfl ?_
  refine j_icmp_ne (tgt := 95) C (by omega) (by omega) dX1_pullOn_79 (by decide) (fun c79 => ?_) (fun c79 => ?_)
  · refine j_lload C 3 dX1_pullOn_95 rfl ?_
    exact j_lret C hr hlk dX1_pullOn_97 ⟨by rw [pul, if_neg c79]; rw [Int.add_zero], rfl⟩ (by decide) (by decide)
  · refine j_lload C 3 dX1_pullOn_82 rfl ?_
    refine j_aload_n C 0 dX1_pullOn_84 rfl rfl ?_
    refine j_lload C 4 dX1_pullOn_85 rfl ?_
    refine j_iload_n C 2 dX1_pullOn_87 rfl rfl ?_
    refine j_callV (As := [.long (lI (fbn F h t (2 * P.toNat))), .int (iI (b2i h))]) (rest := [.long (lI (psum row F h bl t P.toNat))]) C yv_X1_behindOne qw190 (c_X1_behindOne l g a b P E F (fbn F h t (2 * P.toNat)) h hF (by omega)) (by decide) 0 rfl rfl rfl dX1_pullOn_88 rfl (Nat.le_of_ble_eq_true rfl) (by decide) (pf1 [] [(b, aI g 10 row)]) rfl (fun r9 w9 hq9 => ?_)
    obtain ⟨rfl, rfl⟩ := hq9
    refine J.to (L1 := [(0, .ref a), (1, .int (iI bl)), (3, .int (iI (b2i h))), (4, .long (lI (psum row F h bl t P.toNat))), (6, .long (lI (fbn F h t (2 * P.toNat)))), (8, .int (iI ((P.toNat : Int))))]) (S1 := [.long (lI (fbn F h t (2 * P.toNat + 1))), .long (lI (psum row F h bl t P.toNat))]) (ws1 := [(a, .inr (1, [.ref b, .int (iI P), .int (iI E), .int (iI F)])), (b, aI g 10 row)]) rfl rfl rfl ?_
    refine j_ladd C dX1_pullOn_91 ?_
    refine j_goto (tgt := 97) C dX1_pullOn_92 (by decide) ?_
    exact j_lret C hr hlk dX1_pullOn_97 ⟨by rw [pul, if_pos c79], rfl⟩ (by decide) (by decide)

theorem lp_leastForce {p : Program} {l : Launch} {e : Env} {s : State} {m : MethodId} {args : Array Value} {below : List Frame} {meth : Method} {c : Code} {g : Gh} {A : Nat → Prop} {Q : State → Prop} (C : Cx p g s m args c cX1_leastForce 8 RX1 A) {a b : Nat} {row : Nat → Int} {P E F : Int} {bl w : Int} {h : Bool} (hP : 0 ≤ P ∧ P ≤ 10) (hE : -10 ≤ E ∧ E ≤ 10) (hF : 0 ≤ F ∧ F ≤ 30) (hb : -10 ≤ bl ∧ bl ≤ 10) (hw : 0 ≤ w ∧ w ≤ 1000000) (hrow : ∀ i : Nat, (i : Int) < P → 0 ≤ row i ∧ row i ≤ 4) (kk : ∀ r : Int, IsL (pul row F h P.toNat E bl) w r → J p l e ({ frames := 2, cells := 0, slots := 0, locals := 55 } : Room) s m args below meth c g A 8 90 [(5, .int (iI r))] [] [(a, .inr (1, [.ref b, .int (iI P), .int (iI E), .int (iI F)])), (b, aI g 10 row)] 0 0 Q) : ∀ (n i : Nat) (lo hi : Int), (0 ≤ lo ∧ lo ≤ hi) → hi ≤ 1000000 → w ≤ pul row F h P.toNat E bl hi → (∀ f, 0 ≤ f → f < lo → pul row F h P.toNat E bl f < w) → hi - lo < (2 : Int) ^ n → i + n ≤ 32 → J p l e ({ frames := 2, cells := 0, slots := 0, locals := 55 } : Room) s m args below meth c g A 8 34 [(0, .ref a), (1, .int (iI bl)), (2, .int (iI w)), (3, .int (iI (b2i h))), (4, .int (iI lo)), (5, .int (iI hi)), (6, .int (iI ((i : Int))))] [] [(a, .inr (1, [.ref b, .int (iI P), .int (iI E), .int (iI F)])), (b, aI g 10 row)] 0 0 Q := by
  intro n
  induction n with
  | zero =>
    intro i lo hi h1 h2 h3 h4 h5 h6
    have h7 : hi = lo := by rw [Int.pow_zero] at h5; omega
    refine j_iload C 6 dX1_leastForce_34 rfl ?_
    refine j_bipush C dX1_leastForce_36 (by decide) ?_
    refine j_icmp_ge (tgt := 90) C (by omega) (by decide) dX1_leastForce_38 (by decide) (fun c38 => ?_) (fun c38 => ?_)
    · refine J.sub (L1 := [(5, .int (iI hi))]) [5] rfl ?_
      exact kk hi ⟨by omega, h3, fun f hf0 hf1 => h4 f hf0 (by omega)⟩
    · refine j_iload C 4 dX1_leastForce_41 rfl ?_
      refine j_iload C 5 dX1_leastForce_43 rfl ?_
      refine j_icmp_ge (tgt := 90) C (by omega) (by omega) dX1_leastForce_45 (by decide) (fun c45 => ?_) (fun c45 => absurd c45 (by omega))
      refine J.sub (L1 := [(5, .int (iI hi))]) [5] rfl ?_
      exact kk hi ⟨by omega, h3, fun f hf0 hf1 => h4 f hf0 (by omega)⟩
  | succ n ih =>
    intro i lo hi h1 h2 h3 h4 h5 h6
    rw [Int.pow_succ] at h5
    refine j_iload C 6 dX1_leastForce_34 rfl ?_
    refine j_bipush C dX1_leastForce_36 (by decide) ?_
    refine j_icmp_ge (tgt := 90) C (by omega) (by decide) dX1_leastForce_38 (by decide) (fun c38 => absurd c38 (by omega)) (fun c38 => ?_)
    refine j_iload C 4 dX1_leastForce_41 rfl ?_
    refine j_iload C 5 dX1_leastForce_43 rfl ?_
    refine j_icmp_ge (tgt := 90) C (by omega) (by omega) dX1_leastForce_45 (by decide) (fun c45 => ?_) (fun c45 => ?_)
    · refine J.sub (L1 := [(5, .int (iI hi))]) [5] rfl ?_
      exact kk hi ⟨by omega, h3, fun f hf0 hf1 => h4 f hf0 (by omega)⟩
    · refine j_iload C 4 dX1_leastForce_48 rfl ?_
      refine j_iload C 5 dX1_leastForce_50 rfl ?_
      refine j_iadd C dX1_leastForce_52 ?_
      refine j_iconst C dX1_leastForce_53 ?_
      refine j_idiv C (by omega) (by decide) dX1_leastForce_54 ?_
      refine j_istore (L1 := [(7, .int (iI ((lo + hi) / 2))), (0, .ref a), (1, .int (iI bl)), (2, .int (iI w)), (3, .int (iI (b2i h))), (4, .int (iI lo)), (5, .int (iI hi)), (6, .int (iI ((i : Int))))]) C dX1_leastForce_55 (by decide) rfl ?_
      refine j_aload_n C 1 dX1_leastForce_57 rfl rfl ?_
      refine j_iload_n C 2 dX1_leastForce_58 rfl rfl ?_
      refine j_iload C 0 dX1_leastForce_59 rfl ?_
      refine j_iload_n C 4 dX1_leastForce_61 rfl rfl ?_
      refine j_callV (As := [.int (iI bl), .int (iI ((lo + hi) / 2)), .int (iI (b2i h))]) (rest := []) C yv_X1_pullOn qw186 (c_X1_pullOn l g a b row P E F bl ((lo + hi) / 2) h hP hE hF hb (by omega) hrow) (by decide) 0 rfl rfl rfl dX1_leastForce_62 rfl (Nat.le_of_ble_eq_true rfl) (by decide) pf0 rfl (fun r9 w9 hq9 => ?_)
      obtain ⟨rfl, rfl⟩ := hq9
      refine J.to (L1 := [(7, .int (iI ((lo + hi) / 2))), (0, .ref a), (1, .int (iI bl)), (2, .int (iI w)), (3, .int (iI (b2i h))), (4, .int (iI lo)), (5, .int (iI hi)), (6, .int (iI ((i : Int))))]) (S1 := [.long (lI (pul row F h P.toNat E bl ((lo + hi) / 2)))]) (ws1 := [(a, .inr (1, [.ref b, .int (iI P), .int (iI E), .int (iI F)])), (b, aI g 10 row)]) rfl rfl rfl ?_
      have hp62 := pul_le (f := row) (F := F) (h := h) (n := P.toNat) (E := E) (b := bl) (t := (lo + hi) / 2) hF (by omega) (by omega)
      refine j_iload_n C 3 dX1_leastForce_65 rfl rfl ?_
      refine j_i2l C (by omega) dX1_leastForce_66 ?_
      refine j_lif_lt (tgt := 78) C (by omega) (by omega) dX1_leastForce_67 dX1_leastForce_68 (by decide) (fun c67 => ?_) (fun c67 => ?_)
      · refine j_iload C 0 dX1_leastForce_78 rfl ?_
        refine j_iconst C dX1_leastForce_80 ?_
        refine j_iadd C dX1_leastForce_81 ?_
        refine j_istore (L1 := [(4, .int (iI (((lo + hi) / 2) + 1))), (7, .int (iI ((lo + hi) / 2))), (0, .ref a), (1, .int (iI bl)), (2, .int (iI w)), (3, .int (iI (b2i h))), (5, .int (iI hi)), (6, .int (iI ((i : Int))))]) C dX1_leastForce_82 (by decide) rfl ?_
        refine j_iinc (L1 := [(6, .int (iI (((i : Int)) + 1))), (4, .int (iI (((lo + hi) / 2) + 1))), (7, .int (iI ((lo + hi) / 2))), (0, .ref a), (1, .int (iI bl)), (2, .int (iI w)), (3, .int (iI (b2i h))), (5, .int (iI hi))]) C 7 dX1_leastForce_84 rfl (by decide) rfl ?_
        refine j_goto (tgt := 34) C dX1_leastForce_87 (by decide) ?_
        refine J.sub (L1 := [(0, .ref a), (1, .int (iI bl)), (2, .int (iI w)), (3, .int (iI (b2i h))), (4, .int (iI (((lo + hi) / 2) + 1))), (5, .int (iI hi)), (6, .int (iI (((i : Int)) + 1)))]) [3, 4, 5, 6, 1, 7, 0] rfl ?_
        exact ih (i + 1) _ _ ⟨by omega, by omega⟩ h2 h3 (fun f hf0 hf1 => Int.lt_of_le_of_lt (pul_mono hF hf0 (by omega)) c67) (by omega) (by omega)
      · refine j_iload C 0 dX1_leastForce_71 rfl ?_
        refine j_istore (L1 := [(5, .int (iI ((lo + hi) / 2))), (7, .int (iI ((lo + hi) / 2))), (0, .ref a), (1, .int (iI bl)), (2, .int (iI w)), (3, .int (iI (b2i h))), (4, .int (iI lo)), (6, .int (iI ((i : Int))))]) C dX1_leastForce_73 (by decide) rfl ?_
        refine j_goto (tgt := 84) C dX1_leastForce_75 (by decide) ?_
        refine j_iinc (L1 := [(6, .int (iI (((i : Int)) + 1))), (5, .int (iI ((lo + hi) / 2))), (7, .int (iI ((lo + hi) / 2))), (0, .ref a), (1, .int (iI bl)), (2, .int (iI w)), (3, .int (iI (b2i h))), (4, .int (iI lo))]) C 7 dX1_leastForce_84 rfl (by decide) rfl ?_
        refine j_goto (tgt := 34) C dX1_leastForce_87 (by decide) ?_
        refine J.sub (L1 := [(0, .ref a), (1, .int (iI bl)), (2, .int (iI w)), (3, .int (iI (b2i h))), (4, .int (iI lo)), (5, .int (iI ((lo + hi) / 2))), (6, .int (iI (((i : Int)) + 1)))]) [3, 4, 5, 6, 7, 1, 0] rfl ?_
        exact ih (i + 1) _ _ ⟨by omega, by omega⟩ (by omega) c67 h4 (by omega) (by omega)

theorem c_X1_leastForce (l : Launch) (g : Gh) (a b : Nat) (row : Nat → Int) (P E F : Int) (bl w : Int) (h : Bool) (hP : 0 ≤ P ∧ P ≤ 10) (hE : -10 ≤ E ∧ E ≤ 10) (hF : 0 ≤ F ∧ F ≤ 30) (hb : -10 ≤ bl ∧ bl ≤ 10) (hw : 0 ≤ w ∧ w ≤ 1000000) (hrow : ∀ i : Nat, (i : Int) < P → 0 ≤ row i ∧ row i ≤ 4) : CT l g yX1_leastForce cX1_leastForce 8 (some FieldType.int) ({ frames := 2, cells := 0, slots := 0, locals := 55 }) [.ref a, .int (iI bl), .int (iI w), .int (iI (b2i h))] [(a, .inr (1, [.ref b, .int (iI P), .int (iI E), .int (iI F)])), (b, aI g 10 row)] (PE (some (.int (iI (lea row F h P.toNat E bl w)))) [(a, .inr (1, [.ref b, .int (iI P), .int (iI E), .int (iI F)])), (b, aI g 10 row)]) := by
  refine CT.intro (L0 := [(0, .ref a), (1, .int (iI bl)), (2, .int (iI w)), (3, .int (iI (b2i h)))]) (own := RX1) (by decide) rfl (Nat.le_of_ble_eq_true rfl) rfl ?_
  intro p e s m args below meth c A C hr hlk
  have hs9 := strn_rng row P.toNat E bl
  refine j_aload_n C 0 dX1_leastForce_0 rfl rfl ?_
  refine j_iload_n C 1 dX1_leastForce_1 rfl rfl ?_
  refine j_callV (As := [.int (iI bl)]) (rest := []) C yv_X1_strandsOf qw177 (c_X1_strandsOf l g a b row P E F bl hP hE hb hrow) (by decide) 0 rfl rfl rfl dX1_leastForce_2 rfl (Nat.le_of_ble_eq_true rfl) (by decide) pf0 rfl (fun r9 w9 hq9 => ?_)
  obtain ⟨rfl, rfl⟩ := hq9
  refine J.to (L1 := [(0, .ref a), (1, .int (iI bl)), (2, .int (iI w)), (3, .int (iI (b2i h)))]) (S1 := [.int (iI (strn row P.toNat E bl))]) (ws1 := [(a, .inr (1, [.ref b, .int (iI P), .int (iI E), .int (iI F)])), (b, aI g 10 row)]) rfl rfl rfl ?_
  refine j_if_eq (tgt := 22) C (by omega) dX1_leastForce_5 (by decide) (fun c5 => ?_) (fun c5 => ?_)
  · refine j_iconst C dX1_leastForce_22 ?_
    exact j_iret C hr hlk dX1_leastForce_23 ⟨by rw [lea, if_pos c5], rfl⟩ (by decide) (by decide)
  · refine j_aload_n C 0 dX1_leastForce_8 rfl rfl ?_
    refine j_iload_n C 1 dX1_leastForce_9 rfl rfl ?_
    refine j_ldc (x := 1000000) C qw185 (by decide) dX1_leastForce_10 ?_
    refine j_iload_n C 3 dX1_leastForce_12 rfl rfl ?_
    refine j_callV (As := [.int (iI bl), .int (iI 1000000), .int (iI (b2i h))]) (rest := []) C yv_X1_pullOn qw186 (c_X1_pullOn l g a b row P E F bl 1000000 h hP hE hF hb (by omega) hrow) (by decide) 0 rfl rfl rfl dX1_leastForce_13 rfl (Nat.le_of_ble_eq_true rfl) (by decide) pf0 rfl (fun r9 w9 hq9 => ?_)
    obtain ⟨rfl, rfl⟩ := hq9
    refine J.to (L1 := [(0, .ref a), (1, .int (iI bl)), (2, .int (iI w)), (3, .int (iI (b2i h)))]) (S1 := [.long (lI (pul row F h P.toNat E bl 1000000))]) (ws1 := [(a, .inr (1, [.ref b, .int (iI P), .int (iI E), .int (iI F)])), (b, aI g 10 row)]) rfl rfl rfl ?_
    have hp13 := pul_le (f := row) (F := F) (h := h) (n := P.toNat) (E := E) (b := bl) (t := 1000000) hF (by omega) (by omega)
    refine j_iload_n C 2 dX1_leastForce_16 rfl rfl ?_
    refine j_i2l C (by omega) dX1_leastForce_17 ?_
    refine j_lif_ge (tgt := 24) C (by omega) (by omega) dX1_leastForce_18 dX1_leastForce_19 (by decide) (fun c18 => ?_) (fun c18 => ?_)
    · refine j_iconst C dX1_leastForce_24 ?_
      refine j_istore (L1 := [(4, .int (iI 0)), (0, .ref a), (1, .int (iI bl)), (2, .int (iI w)), (3, .int (iI (b2i h)))]) C dX1_leastForce_25 (by decide) rfl ?_
      refine j_ldc (x := 1000000) C qw185 (by decide) dX1_leastForce_27 ?_
      refine j_istore (L1 := [(5, .int (iI 1000000)), (4, .int (iI 0)), (0, .ref a), (1, .int (iI bl)), (2, .int (iI w)), (3, .int (iI (b2i h)))]) C dX1_leastForce_29 (by decide) rfl ?_
      refine j_iconst C dX1_leastForce_31 ?_
      refine j_istore (L1 := [(6, .int (iI 0)), (5, .int (iI 1000000)), (4, .int (iI 0)), (0, .ref a), (1, .int (iI bl)), (2, .int (iI w)), (3, .int (iI (b2i h)))]) C dX1_leastForce_32 (by decide) rfl ?_
      refine J.sub (L1 := [(0, .ref a), (1, .int (iI bl)), (2, .int (iI w)), (3, .int (iI (b2i h))), (4, .int (iI 0)), (5, .int (iI 1000000)), (6, .int (iI 0))]) [3, 4, 5, 6, 2, 1, 0] rfl ?_
      refine lp_leastForce C hP hE hF hb hw hrow (fun r hr9 => ?_) 20 0 0 1000000 (by decide) (by decide) c18 (fun f _ _ => by omega) (by decide) (by decide)
      refine j_iload C 0 dX1_leastForce_90 rfl ?_
      exact j_iret C hr hlk dX1_leastForce_92 ⟨by rw [lea, if_neg c5, lst_eq hr9], rfl⟩ (by decide) (by decide)
    · refine j_iconst C dX1_leastForce_22 ?_
      exact j_iret C hr hlk dX1_leastForce_23 ⟨by rw [lea, if_neg c5, lst_none (fun a b ha hb => pul_mono hF ha hb) c18], rfl⟩ (by decide) (by decide)

theorem c_X1_copyFrom (l : Launch) (g : Gh) (a b : Nat) (row : Nat → Int) (P E F : Int) (a2 b2 : Nat) (row2 : Nat → Int) (P2 E2 F2 : Int)  : CT l g yX1_copyFrom cX1_copyFrom 2 none ({ frames := 1, cells := 0, slots := 0, locals := 22 }) [.ref a, .ref a2] [(a, .inr (1, [.ref b, .int (iI P), .int (iI E), .int (iI F)])), (b, aI g 10 row), (a2, .inr (1, [.ref b2, .int (iI P2), .int (iI E2), .int (iI F2)])), (b2, aI g 10 row2)] (PE none [(a, .inr (1, [.ref b, .int (iI P2), .int (iI E2), .int (iI F2)])), (b, aI g 10 (cpy 10 row2 row)), (a2, .inr (1, [.ref b2, .int (iI P2), .int (iI E2), .int (iI F2)])), (b2, aI g 10 row2)]) := by
  refine CT.intro (L0 := [(0, .ref a), (1, .ref a2)]) (own := RX1) (by decide) rfl (Nat.le_of_ble_eq_true rfl) rfl ?_
  intro p e s m args below meth c A C hr hlk
  refine j_aload_n C 1 dX1_copyFrom_0 rfl rfl ?_
  refine j_get C ck1 2 0 (by decide) qw34 rfl rfl dX1_copyFrom_1 ?_
  refine j_aload_n C 0 dX1_copyFrom_4 rfl rfl ?_
  refine j_get C ck1 0 0 (by decide) qw34 rfl rfl dX1_copyFrom_5 ?_
  refine j_callSN (As := [.ref b2, .ref b]) (rest := []) C ys_X4_copyRow qn234 (c_X4_copyRow l g b2 b 10 row2 row (by decide)) (by decide) rfl dX1_copyFrom_8 rfl (Nat.le_of_ble_eq_true rfl) (by decide) (pf2r [(a, .inr (1, [.ref b, .int (iI P), .int (iI E), .int (iI F)]))] 1 [(a2, .inr (1, [.ref b2, .int (iI P2), .int (iI E2), .int (iI F2)]))] []) rfl (fun r9 w9 hq9 => ?_)
  obtain ⟨rfl, rfl⟩ := hq9
  refine J.to (L1 := [(0, .ref a), (1, .ref a2)]) (S1 := []) (ws1 := [(a, .inr (1, [.ref b, .int (iI P), .int (iI E), .int (iI F)])), (b, aI g 10 (cpy 10 row2 row)), (a2, .inr (1, [.ref b2, .int (iI P2), .int (iI E2), .int (iI F2)])), (b2, aI g 10 row2)]) rfl rfl rfl ?_
  refine j_aload_n C 0 dX1_copyFrom_11 rfl rfl ?_
  refine j_aload_n C 1 dX1_copyFrom_12 rfl rfl ?_
  refine j_get C ck1 2 1 (by decide) qw36 rfl rfl dX1_copyFrom_13 ?_
  refine j_put (ws1 := [(a, .inr (1, [.ref b, .int (iI P2), .int (iI E), .int (iI F)])), (b, aI g 10 (cpy 10 row2 row)), (a2, .inr (1, [.ref b2, .int (iI P2), .int (iI E2), .int (iI F2)])), (b2, aI g 10 row2)]) C ck1 0 1 (by decide) qw36 rfl dX1_copyFrom_16 rfl rfl rfl rfl (Nat.le_of_ble_eq_true rfl) ?_
  refine j_aload_n C 0 dX1_copyFrom_19 rfl rfl ?_
  refine j_aload_n C 1 dX1_copyFrom_20 rfl rfl ?_
  refine j_get C ck1 2 2 (by decide) qw38 rfl rfl dX1_copyFrom_21 ?_
  refine j_put (ws1 := [(a, .inr (1, [.ref b, .int (iI P2), .int (iI E2), .int (iI F)])), (b, aI g 10 (cpy 10 row2 row)), (a2, .inr (1, [.ref b2, .int (iI P2), .int (iI E2), .int (iI F2)])), (b2, aI g 10 row2)]) C ck1 0 2 (by decide) qw38 rfl dX1_copyFrom_24 rfl rfl rfl rfl (Nat.le_of_ble_eq_true rfl) ?_
  refine j_aload_n C 0 dX1_copyFrom_27 rfl rfl ?_
  refine j_aload_n C 1 dX1_copyFrom_28 rfl rfl ?_
  refine j_get C ck1 2 3 (by decide) qw41 rfl rfl dX1_copyFrom_29 ?_
  refine j_put (ws1 := [(a, .inr (1, [.ref b, .int (iI P2), .int (iI E2), .int (iI F2)])), (b, aI g 10 (cpy 10 row2 row)), (a2, .inr (1, [.ref b2, .int (iI P2), .int (iI E2), .int (iI F2)])), (b2, aI g 10 row2)]) C ck1 0 3 (by decide) qw41 rfl dX1_copyFrom_32 rfl rfl rfl rfl (Nat.le_of_ble_eq_true rfl) ?_
  exact j_vret C hr hlk dX1_copyFrom_35 ⟨rfl, rfl⟩ (by decide) (by decide)

theorem c_X1_unreeve (l : Launch) (g : Gh) (a b : Nat) (P E F : Int)  : CT l g yX1_unreeve cX1_unreeve 1 none ({ frames := 0, cells := 0, slots := 0, locals := 0 }) [.ref a] [(a, .inr (1, [.ref b, .int (iI P), .int (iI E), .int (iI F)]))] (PE none [(a, .inr (1, [.ref b, .int (iI 0), .int (iI 4), .int (iI F)]))]) := by
  refine CT.intro (L0 := [(0, .ref a)]) (own := RX1) (by decide) rfl (Nat.le_of_ble_eq_true rfl) rfl ?_
  intro p e s m args below meth c A C hr hlk
  refine j_aload_n C 0 dX1_unreeve_0 rfl rfl ?_
  refine j_iconst C dX1_unreeve_1 ?_
  refine j_put (ws1 := [(a, .inr (1, [.ref b, .int (iI 0), .int (iI E), .int (iI F)]))]) C ck1 0 1 (by decide) qw36 rfl dX1_unreeve_2 rfl rfl rfl rfl (Nat.le_of_ble_eq_true rfl) ?_
  refine j_aload_n C 0 dX1_unreeve_5 rfl rfl ?_
  refine j_iconst C dX1_unreeve_6 ?_
  refine j_put (ws1 := [(a, .inr (1, [.ref b, .int (iI 0), .int (iI 4), .int (iI F)]))]) C ck1 0 2 (by decide) qw38 rfl dX1_unreeve_7 rfl rfl rfl rfl (Nat.le_of_ble_eq_true rfl) ?_
  exact j_vret C hr hlk dX1_unreeve_10 ⟨rfl, rfl⟩ (by decide) (by decide)

theorem c_X1_hang (l : Launch) (g : Gh) (a b : Nat) (row : Nat → Int) (P E F : Int) (bl : Int) (hP : 0 ≤ P ∧ P ≤ 9) : CT l g yX1_hang cX1_hang 2 none ({ frames := 1, cells := 0, slots := 0, locals := 22 }) [.ref a, .int (iI bl)] [(a, .inr (1, [.ref b, .int (iI P), .int (iI E), .int (iI F)])), (b, aI g 10 row)] (PE none [(a, .inr (1, [.ref b, .int (iI (P + 1)), .int (iI E), .int (iI F)])), (b, aI g 10 (va_up row P.toNat bl))]) := by
  refine CT.intro (L0 := [(0, .ref a), (1, .int (iI bl))]) (own := RX1) (by decide) rfl (Nat.le_of_ble_eq_true rfl) rfl ?_
  intro p e s m args below meth c A C hr hlk
  refine j_aload_n C 0 dX1_hang_0 rfl rfl ?_
  refine j_get C ck1 0 1 (by decide) qw36 rfl rfl dX1_hang_1 ?_
  refine j_bipush C dX1_hang_4 (by decide) ?_
  refine j_icmp_ge (tgt := 31) C (by omega) (by decide) dX1_hang_6 (by decide) (fun c6 => absurd c6 (by omega)) (fun c6 => ?_)
  refine j_aload_n C 0 dX1_hang_9 rfl rfl ?_
  refine j_get C ck1 0 0 (by decide) qw34 rfl rfl dX1_hang_10 ?_
  refine j_aload_n C 0 dX1_hang_13 rfl rfl ?_
  refine j_get C ck1 0 1 (by decide) qw36 rfl rfl dX1_hang_14 ?_
  refine j_iload_n C 1 dX1_hang_17 rfl rfl ?_
  refine j_callSN (As := [.ref b, .int (iI P), .int (iI bl)]) (rest := []) C ys_X4_put qn268 (c_X4_put l g b 10 row P P.toNat bl (by omega) (by omega) (by decide)) (by decide) rfl dX1_hang_18 rfl (Nat.le_of_ble_eq_true rfl) (by decide) (pf1 [(a, .inr (1, [.ref b, .int (iI P), .int (iI E), .int (iI F)]))] []) rfl (fun r9 w9 hq9 => ?_)
  obtain ⟨rfl, rfl⟩ := hq9
  refine J.to (L1 := [(0, .ref a), (1, .int (iI bl))]) (S1 := []) (ws1 := [(a, .inr (1, [.ref b, .int (iI P), .int (iI E), .int (iI F)])), (b, aI g 10 (va_up row P.toNat bl))]) rfl rfl rfl ?_
  refine j_aload_n C 0 dX1_hang_21 rfl rfl ?_
  refine j_dup C dX1_hang_22 rfl ?_
  refine j_get C ck1 0 1 (by decide) qw36 rfl rfl dX1_hang_23 ?_
  refine j_iconst C dX1_hang_26 ?_
  refine j_iadd C dX1_hang_27 ?_
  refine j_put (ws1 := [(a, .inr (1, [.ref b, .int (iI (P + 1)), .int (iI E), .int (iI F)])), (b, aI g 10 (va_up row P.toNat bl))]) C ck1 0 1 (by decide) qw36 rfl dX1_hang_28 rfl rfl rfl rfl (Nat.le_of_ble_eq_true rfl) ?_
  exact j_vret C hr hlk dX1_hang_31 ⟨rfl, rfl⟩ (by decide) (by decide)

theorem c_X1_unhang (l : Launch) (g : Gh) (a b : Nat) (row : Nat → Int) (P E F : Int) (hP : 1 ≤ P ∧ P ≤ 10) : CT l g yX1_unhang cX1_unhang 1 (some FieldType.int) ({ frames := 1, cells := 0, slots := 0, locals := 21 }) [.ref a] [(a, .inr (1, [.ref b, .int (iI P), .int (iI E), .int (iI F)])), (b, aI g 10 row)] (PE (some (.int (iI (row (P - 1).toNat)))) [(a, .inr (1, [.ref b, .int (iI (P - 1)), .int (iI E), .int (iI F)])), (b, aI g 10 row)]) := by
  refine CT.intro (L0 := [(0, .ref a)]) (own := RX1) (by decide) rfl (Nat.le_of_ble_eq_true rfl) rfl ?_
  intro p e s m args below meth c A C hr hlk
  refine j_aload_n C 0 dX1_unhang_0 rfl rfl ?_
  refine j_get C ck1 0 1 (by decide) qw36 rfl rfl dX1_unhang_1 ?_
  refine j_if_le (tgt := 17) C (by omega) dX1_unhang_4 (by decide) (fun c4 => absurd c4 (by omega)) (fun c4 => ?_)
  refine j_aload_n C 0 dX1_unhang_7 rfl rfl ?_
  refine j_dup C dX1_unhang_8 rfl ?_
  refine j_get C ck1 0 1 (by decide) qw36 rfl rfl dX1_unhang_9 ?_
  refine j_iconst C dX1_unhang_12 ?_
  refine j_isub C dX1_unhang_13 ?_
  refine j_put (ws1 := [(a, .inr (1, [.ref b, .int (iI (P - 1)), .int (iI E), .int (iI F)])), (b, aI g 10 row)]) C ck1 0 1 (by decide) qw36 rfl dX1_unhang_14 rfl rfl rfl rfl (Nat.le_of_ble_eq_true rfl) ?_
  refine j_aload_n C 0 dX1_unhang_17 rfl rfl ?_
  refine j_get C ck1 0 0 (by decide) qw34 rfl rfl dX1_unhang_18 ?_
  refine j_aload_n C 0 dX1_unhang_21 rfl rfl ?_
  refine j_get C ck1 0 1 (by decide) qw36 rfl rfl dX1_unhang_22 ?_
  refine j_callSN (As := [.ref b, .int (iI (P - 1))]) (rest := []) C ys_X4_at qn500 (c_X4_at l g b 10 row (P - 1) ((P - 1).toNat) (by omega) (by omega) (by decide)) (by decide) rfl dX1_unhang_25 rfl (Nat.le_of_ble_eq_true rfl) (by decide) (pf1 [(a, .inr (1, [.ref b, .int (iI (P - 1)), .int (iI E), .int (iI F)]))] []) rfl (fun r9 w9 hq9 => ?_)
  obtain ⟨rfl, rfl⟩ := hq9
  refine J.to (L1 := [(0, .ref a)]) (S1 := [.int (iI (row ((P - 1).toNat)))]) (ws1 := [(a, .inr (1, [.ref b, .int (iI (P - 1)), .int (iI E), .int (iI F)])), (b, aI g 10 row)]) rfl rfl rfl ?_
  exact j_iret C hr hlk dX1_unhang_28 ⟨rfl, rfl⟩ (by decide) (by decide)

theorem c_X1_swap (l : Launch) (g : Gh) (a b : Nat) (row : Nat → Int) (P E F : Int) (i j : Int) (hi : 0 ≤ i ∧ i ≤ 9) (hj : 0 ≤ j ∧ j ≤ 9) : CT l g yX1_swap cX1_swap 4 none ({ frames := 1, cells := 0, slots := 0, locals := 22 }) [.ref a, .int (iI i), .int (iI j)] [(a, .inr (1, [.ref b, .int (iI P), .int (iI E), .int (iI F)])), (b, aI g 10 row)] (PE none [(a, .inr (1, [.ref b, .int (iI P), .int (iI E), .int (iI F)])), (b, aI g 10 (va_up (va_up row i.toNat (row j.toNat)) j.toNat (row i.toNat)))]) := by
  refine CT.intro (L0 := [(0, .ref a), (1, .int (iI i)), (2, .int (iI j))]) (own := RX1) (by decide) rfl (Nat.le_of_ble_eq_true rfl) rfl ?_
  intro p e s m args below meth c A C hr hlk
  refine j_aload_n C 0 dX1_swap_0 rfl rfl ?_
  refine j_get C ck1 0 0 (by decide) qw34 rfl rfl dX1_swap_1 ?_
  refine j_iload_n C 1 dX1_swap_4 rfl rfl ?_
  refine j_callSN (As := [.ref b, .int (iI i)]) (rest := []) C ys_X4_at qn500 (c_X4_at l g b 10 row i i.toNat (by omega) (by omega) (by decide)) (by decide) rfl dX1_swap_5 rfl (Nat.le_of_ble_eq_true rfl) (by decide) (pf1 [(a, .inr (1, [.ref b, .int (iI P), .int (iI E), .int (iI F)]))] []) rfl (fun r9 w9 hq9 => ?_)
  obtain ⟨rfl, rfl⟩ := hq9
  refine J.to (L1 := [(0, .ref a), (1, .int (iI i)), (2, .int (iI j))]) (S1 := [.int (iI (row i.toNat))]) (ws1 := [(a, .inr (1, [.ref b, .int (iI P), .int (iI E), .int (iI F)])), (b, aI g 10 row)]) rfl rfl rfl ?_
  refine j_istore_n (L1 := [(3, .int (iI (row i.toNat))), (0, .ref a), (1, .int (iI i)), (2, .int (iI j))]) C dX1_swap_8 rfl (by decide) rfl ?_
  refine j_aload_n C 1 dX1_swap_9 rfl rfl ?_
  refine j_get C ck1 0 0 (by decide) qw34 rfl rfl dX1_swap_10 ?_
  refine j_iload_n C 2 dX1_swap_13 rfl rfl ?_
  refine j_aload_n C 1 dX1_swap_14 rfl rfl ?_
  refine j_get C ck1 0 0 (by decide) qw34 rfl rfl dX1_swap_15 ?_
  refine j_iload_n C 3 dX1_swap_18 rfl rfl ?_
  refine j_callSN (As := [.ref b, .int (iI j)]) (rest := [.int (iI i), .ref b]) C ys_X4_at qn500 (c_X4_at l g b 10 row j j.toNat (by omega) (by omega) (by decide)) (by decide) rfl dX1_swap_19 rfl (Nat.le_of_ble_eq_true rfl) (by decide) (pf1 [(a, .inr (1, [.ref b, .int (iI P), .int (iI E), .int (iI F)]))] []) rfl (fun r9 w9 hq9 => ?_)
  obtain ⟨rfl, rfl⟩ := hq9
  refine J.to (L1 := [(3, .int (iI (row i.toNat))), (0, .ref a), (1, .int (iI i)), (2, .int (iI j))]) (S1 := [.int (iI (row j.toNat)), .int (iI i), .ref b]) (ws1 := [(a, .inr (1, [.ref b, .int (iI P), .int (iI E), .int (iI F)])), (b, aI g 10 row)]) rfl rfl rfl ?_
  refine j_callSN (As := [.ref b, .int (iI i), .int (iI (row j.toNat))]) (rest := []) C ys_X4_put qn268 (c_X4_put l g b 10 row i i.toNat (row j.toNat) (by omega) (by omega) (by decide)) (by decide) rfl dX1_swap_22 rfl (Nat.le_of_ble_eq_true rfl) (by decide) (pf1 [(a, .inr (1, [.ref b, .int (iI P), .int (iI E), .int (iI F)]))] []) rfl (fun r9 w9 hq9 => ?_)
  obtain ⟨rfl, rfl⟩ := hq9
  refine J.to (L1 := [(3, .int (iI (row i.toNat))), (0, .ref a), (1, .int (iI i)), (2, .int (iI j))]) (S1 := []) (ws1 := [(a, .inr (1, [.ref b, .int (iI P), .int (iI E), .int (iI F)])), (b, aI g 10 (va_up row i.toNat (row j.toNat)))]) rfl rfl rfl ?_
  refine j_aload_n C 1 dX1_swap_25 rfl rfl ?_
  refine j_get C ck1 0 0 (by decide) qw34 rfl rfl dX1_swap_26 ?_
  refine j_iload_n C 3 dX1_swap_29 rfl rfl ?_
  refine j_iload_n C 0 dX1_swap_30 rfl rfl ?_
  refine j_callSN (As := [.ref b, .int (iI j), .int (iI (row i.toNat))]) (rest := []) C ys_X4_put qn268 (c_X4_put l g b 10 (va_up row i.toNat (row j.toNat)) j j.toNat (row i.toNat) (by omega) (by omega) (by decide)) (by decide) rfl dX1_swap_31 rfl (Nat.le_of_ble_eq_true rfl) (by decide) (pf1 [(a, .inr (1, [.ref b, .int (iI P), .int (iI E), .int (iI F)]))] []) rfl (fun r9 w9 hq9 => ?_)
  obtain ⟨rfl, rfl⟩ := hq9
  refine J.to (L1 := [(3, .int (iI (row i.toNat))), (0, .ref a), (1, .int (iI i)), (2, .int (iI j))]) (S1 := []) (ws1 := [(a, .inr (1, [.ref b, .int (iI P), .int (iI E), .int (iI F)])), (b, aI g 10 (va_up (va_up row i.toNat (row j.toNat)) j.toNat (row i.toNat)))]) rfl rfl rfl ?_
  exact j_vret C hr hlk dX1_swap_34 ⟨rfl, rfl⟩ (by decide) (by decide)
end
section
/-! floorMod; RopeTackle.Ledger -/
section JFM
variable {p : Program} {l : Launch} {e : Env} {R : Room} {s : State} {m : MethodId} {args : Array Value} {below : List Frame} {meth : Method} {c : Code} {g : Gh} {A : Nat → Prop} {cc : ByteArray} {nL : Nat} {own : String} {pc : Nat} {L : List (Nat × Value)} {S : List Value} {ws : va_W} {cells slots : Nat} {Q : State → Prop}
theorem j_irem (C : Cx p g s m args c cc nL own A) {x y : Int} (hx : -2147483648 ≤ x ∧ x < 2147483648) (hy : 0 < y ∧ y < 2147483648) (hd : decode cc pc = .ok (.irem, 1)) (kk : J p l e R s m args below meth c g A nL (pc + 1) L (.int (iI (x.tmod y)) :: S) ws cells slots Q) : J p l e R s m args below meth c g A nL pc L (.int (iI y) :: .int (iI x) :: S) ws cells slots Q := by
  intro H locs ls hP hD hS h
  refine lv_irem C.1 C.2.1 hd (fun h0 => ?_) ?_
  · rw [← iI_0, iI_eq (by omega) (by omega)] at h0; omega
  have hb9 := tmod_bounds (a := x) (M := y) hy.1
  have e9 : iI (x.tmod y) = iI x - iI x / iI y * iI y := by
    apply Int32.toInt_inj.mp
    rw [rem_toInt, iI_toInt (by omega), iI_toInt (by omega), iI_toInt (by omega)]
  rw [← e9]
  exact kk H locs ls hP hD hS h
theorem xor_ge {a b : Int32} (hb : 0 ≤ b.toInt) : 0 ≤ a ^^^ b ↔ 0 ≤ a := by
  rw [Int32.le_iff_toInt_le, Int32.le_iff_toInt_le]
  show (0 : Int) ≤ (a ^^^ b).toBitVec.toInt ↔ (0 : Int) ≤ a.toBitVec.toInt
  rw [Int32.toBitVec_xor]
  have hb1 : b.toBitVec.msb = false := by rw [BitVec.msb_eq_toInt]; exact decide_eq_false (by show ¬ b.toInt < 0; omega)
  have h1 : (a.toBitVec ^^^ b.toBitVec).msb = a.toBitVec.msb := by rw [BitVec.msb_xor, hb1]; simp
  rw [BitVec.msb_eq_toInt, BitVec.msb_eq_toInt] at h1
  have h2 := decide_eq_decide.mp h1
  omega
theorem j_ixor_ge (C : Cx p g s m args c cc nL own A) {x y off : Int} {tgt : Nat} (hx : -2147483648 ≤ x ∧ x < 2147483648) (hy : 0 ≤ y ∧ y < 2147483648) (hd : decode cc pc = .ok (.ixor, 1)) (hd2 : decode cc (pc + 1) = .ok (.ifCond .ge off, 3)) (ht : ((pc + 1 : Nat) : Int) + off = (tgt : Int)) (kt : 0 ≤ x → J p l e R s m args below meth c g A nL tgt L S ws cells slots Q) (kf : x < 0 → J p l e R s m args below meth c g A nL (pc + 4) L S ws cells slots Q) : J p l e R s m args below meth c g A nL pc L (.int (iI y) :: .int (iI x) :: S) ws cells slots Q := by
  intro H locs ls hP hD hS h
  refine lv_ixor C.1 C.2.1 hd ?_
  have e9 : 0 ≤ iI x ^^^ iI y ↔ 0 ≤ x := by
    rw [xor_ge (by rw [iI_toInt (by omega)]; exact hy.1), ← iI_0, iI_le (by omega) hx]
  exact lv_if_ge C.1 C.2.1 hd2 ht (fun hc => kt (e9.mp hc) H locs ls hP hD hS h) (fun hc => kf (Int.not_le.mp (fun e => hc (e9.mpr e))) H locs ls hP hD hS h)
end JFM
theorem tmod_pos {x y : Int} (hx : 0 ≤ x) : x.tmod y = x % y := Int.tmod_eq_emod_of_nonneg hx
theorem tmod_neg {x y : Int} (hx : x < 0) : x.tmod y = -((-x) % y) := by
  have e : x.tmod y = -((-x).tmod y) := by rw [Int.neg_tmod, Int.neg_neg]
  rw [e, Int.tmod_eq_emod_of_nonneg (by omega)]
theorem Met.ofWF {l : Launch} {y : MethodName} {ws ws' : List Cond} {rm : Room} {Pc : Array Value → State → Prop} {Qc : Array Value → State → Outcome → State → Prop} {mc ms : Nat} {free : Addr → Prop} {cc : ByteArray} {maxL : Nat} {ret : Option FieldType}
    (hy : plainFor y = true) (hw : ws = Cond.code y cc maxL ret :: ws')
    (body : ∀ p e s m args below meth c s₁, BodyLoose p l y (headSpec ws rm) cc maxL ret e s m args below meth c s₁ → c.maxLocals = maxL → Pc args s →
      W p l e (headSpec ws rm).room s m args below meth c s.heap [] 0 0 (MQ below Qc args s mc ms free) (entryFrame m args maxL)) : Met l y ws rm Pc Qc mc ms free := by
  refine MetFree.of_bodySF (code := cc) (maxLocals := maxL) (ret := ret) hy ?_ ?_
  · intro args s m h hn
    obtain ⟨meth, c, h1, h2, h3, h4, h5, h6, -, -⟩ := Cond.code_spec hn (atoms_spec (ws := ws) h _ (by rw [hw]; exact List.mem_cons_self))
    exact ⟨meth, c, h1, h2, h3, h4, h5, h6⟩
  · intro p e s m args below meth c s₁ B hml hP _
    have hh0 : s₁.heap = s.heap := by rw [B.state]; rfl
    obtain ⟨t, a1, o, b1, b2, b3⟩ := body p e s m args below meth c s₁ B hml hP s₁ hh0 (Stand.of_body B)
    exact ⟨t, o, a1, b1, b2, ⟨b3.1, b3.2⟩⟩
theorem CT.introF {l : Launch} {g : Gh} {y : MethodName} {cc : ByteArray} {nL : Nat} {ret : Option FieldType} {rm : Room} {av : List Value} {w : va_W} {Post : Option Value → va_W → Prop} {own : String} {L0 : List (Nat × Value)} (hy : plainFor y = true) (hown : y.cls = own) (hfit : (lg_sl av).length ≤ nL) (hL : lv_args 0 av = L0)
    (body : ∀ (p : Program) (e : Env) (s : State) (m : MethodId) (args : Array Value) (below : List Frame) (meth : Method) (c : Code) (A : Nat → Prop), Cx p g s m args c cc nL own A → meth.sig.returnType = ret → meth.locks = false → J p l e rm s m args below meth c g A nL 0 L0 [] w 0 0 (MQ below (QE g A Post) args s rm.cells rm.slots A)) : CT l g y cc nL ret rm av w Post := by
  intro sz
  subst hown; subst hL
  refine Met.ofWF (cc := cc) (maxL := nL) (ret := ret) hy rfl ?_
  intro p e s m args below meth c s₁ B hml hv
  obtain ⟨rfl, hsz, hP, hK, hD0, hN, hX⟩ := hv
  subst hsz
  have hts := atoms_spec (ws := Cond.code y cc nL ret :: wAll) B.pre
  have C0 : Cx p g s m av.toArray c cc nL y.cls (va_A w s.heap.size) := ⟨B.exec, B.bytes, hml, findClass_of_methodNamed B.named, fun w h => hts w (List.mem_cons_of_mem _ h), hN, hK, fun q h => Or.inr h, hX⟩
  have hl := lv_entry av (n := nL) hfit
  rw [lg_entry_eq]
  exact body p e s m _ below meth c _ C0 B.returns B.notSynchronized s.heap [] _ hP (hD0.self (sz := s.heap.size)) va_S.rf hl
theorem c_J9_floorMod_7cf53 (l : Launch) (g : Gh) (x y : Int) (hx : -100 ≤ x ∧ x ≤ 100) (hy : y = 4 ∨ y = 16) : CT l g yJ9_floorMod_7cf53 cJ9_floorMod_7cf53 3 (some FieldType.int) ({ frames := 0, cells := 0, slots := 0, locals := 0 }) [.int (iI x), .int (iI y)] [] (PE (some (.int (iI (x % y)))) []) := by
  refine CT.introF (L0 := [(0, .int (iI x)), (1, .int (iI y))]) (own := RJ9) (by decide +kernel) rfl (Nat.le_of_ble_eq_true rfl) rfl ?_
  intro p e s m args below meth c A C hr hlk
  have hb9 := tmod_bounds (a := x) (M := y) (by omega)
  refine j_iload_n C 0 dJ9_floorMod_7cf53_0 rfl rfl ?_
  refine j_iload_n C 1 dJ9_floorMod_7cf53_1 rfl rfl ?_
  refine j_irem C (by omega) (by omega) dJ9_floorMod_7cf53_2 ?_
  refine j_istore_n (L1 := [(2, .int (iI (x.tmod y))), (0, .int (iI x)), (1, .int (iI y))]) C dJ9_floorMod_7cf53_3 rfl (by decide) rfl ?_
  refine j_iload_n C 1 dJ9_floorMod_7cf53_4 rfl rfl ?_
  refine j_iload_n C 2 dJ9_floorMod_7cf53_5 rfl rfl ?_
  refine j_ixor_ge (tgt := 18) C (by omega) (by omega) dJ9_floorMod_7cf53_6 dJ9_floorMod_7cf53_7 (by decide) (fun c6 => ?_) (fun c6 => ?_)
  · refine j_iload_n C 0 dJ9_floorMod_7cf53_18 rfl rfl ?_
    exact j_iret C hr hlk dJ9_floorMod_7cf53_19 ⟨by rw [tmod_pos c6], rfl⟩ (by decide) (by decide)
  · refine j_iload_n C 0 dJ9_floorMod_7cf53_10 rfl rfl ?_
    refine j_if_eq (tgt := 18) C (by omega) dJ9_floorMod_7cf53_11 (by decide) (fun c11 => ?_) (fun c11 => ?_)
    · refine j_iload_n C 0 dJ9_floorMod_7cf53_18 rfl rfl ?_
      exact j_iret C hr hlk dJ9_floorMod_7cf53_19 ⟨by congr 3; rw [tmod_neg c6] at c11 ⊢; rcases hy with rfl | rfl <;> omega, rfl⟩ (by decide) (by decide)
    · refine j_iload_n C 0 dJ9_floorMod_7cf53_14 rfl rfl ?_
      refine j_iload_n C 2 dJ9_floorMod_7cf53_15 rfl rfl ?_
      refine j_iadd C dJ9_floorMod_7cf53_16 ?_
      exact j_iret C hr hlk dJ9_floorMod_7cf53_17 ⟨by congr 3; rw [tmod_neg c6] at c11 ⊢; rcases hy with rfl | rfl <;> omega, rfl⟩ (by decide) (by decide)

theorem c_X0_note_up (l : Launch) (g : Gh) (a b : Nat) (pt : Nat → Int) (lat kept ris snk put got : Int) (bl way rope : Int) (hlat : 0 ≤ lat ∧ lat ≤ 15) (hkept : 0 ≤ kept ∧ kept ≤ 16) (hway : 0 < way ∧ way ≤ 100000) : CT l g yX0_note cX0_note 4 none ({ frames := 1, cells := 0, slots := 0, locals := 22 }) [.ref a, .int (iI bl), .int (iI way), .int (iI rope)] [(a, .inr (0, [.ref b, .int (iI lat), .int (iI kept), .int (iI ris), .int (iI snk), .long (lI put), .long (lI got)])), (b, aI g 48 pt)] (PE none [(a, .inr (0, [.ref b, .int (iI ((lat + 1) % 16)), .int (iI (if 16 < kept + 1 then 16 else kept + 1)), .int (iI (ris + 1)), .int (iI snk), .long (lI put), .long (lI got)])), (b, aI g 48 (va_up (va_up (va_up pt ((lat + 1) % 16 * 3).toNat bl) ((lat + 1) % 16 * 3 + 1).toNat way) ((lat + 1) % 16 * 3 + 2).toNat rope))]) := by
  refine CT.intro (L0 := [(0, .ref a), (1, .int (iI bl)), (2, .int (iI way)), (3, .int (iI rope))]) (own := RX0) (by decide) rfl (Nat.le_of_ble_eq_true rfl) rfl ?_
  intro p e s m args below meth c A C hr hlk
  refine j_iload_n C 2 dX0_note_0 rfl rfl ?_
  refine j_if_le (tgt := 17) C (by omega) dX0_note_1 (by decide) (fun c1 => absurd c1 (by omega)) (fun c1 => ?_)
  refine j_aload_n C 0 dX0_note_4 rfl rfl ?_
  refine j_dup C dX0_note_5 rfl ?_
  refine j_get C ck0 0 3 (by decide) qw63 rfl rfl dX0_note_6 ?_
  refine j_iconst C dX0_note_9 ?_
  refine j_iadd C dX0_note_10 ?_
  refine j_put (ws1 := [(a, .inr (0, [.ref b, .int (iI lat), .int (iI kept), .int (iI (ris + 1)), .int (iI snk), .long (lI put), .long (lI got)])), (b, aI g 48 pt)]) C ck0 0 3 (by decide) qw63 rfl dX0_note_11 rfl rfl rfl rfl (Nat.le_of_ble_eq_true rfl) ?_
  refine j_goto (tgt := 27) C dX0_note_14 (by decide) ?_
  refine j_aload_n C 0 dX0_note_27 rfl rfl ?_
  refine j_aload_n C 0 dX0_note_28 rfl rfl ?_
  refine j_get C ck0 0 1 (by decide) qw60 rfl rfl dX0_note_29 ?_
  refine j_iconst C dX0_note_32 ?_
  refine j_iadd C dX0_note_33 ?_
  refine j_bipush C dX0_note_34 (by decide) ?_
  refine j_callS (As := [.int (iI (lat + 1)), .int (iI 16)]) (rest := [.ref a]) C ys_J9_floorMod_7cf53 qw426 (c_J9_floorMod_7cf53 l g (lat + 1) 16 (by omega) (by decide)) (by decide) rfl dX0_note_36 rfl (Nat.le_of_ble_eq_true rfl) (by decide) (pf1 [] [(a, .inr (0, [.ref b, .int (iI lat), .int (iI kept), .int (iI (ris + 1)), .int (iI snk), .long (lI put), .long (lI got)])), (b, aI g 48 pt)]) rfl (fun r9 w9 hq9 => ?_)
  obtain ⟨rfl, rfl⟩ := hq9
  refine J.to (L1 := [(0, .ref a), (1, .int (iI bl)), (2, .int (iI way)), (3, .int (iI rope))]) (S1 := [.int (iI ((lat + 1) % 16)), .ref a]) (ws1 := [(a, .inr (0, [.ref b, .int (iI lat), .int (iI kept), .int (iI (ris + 1)), .int (iI snk), .long (lI put), .long (lI got)])), (b, aI g 48 pt)]) rfl rfl rfl ?_
  refine j_put (ws1 := [(a, .inr (0, [.ref b, .int (iI ((lat + 1) % 16)), .int (iI kept), .int (iI (ris + 1)), .int (iI snk), .long (lI put), .long (lI got)])), (b, aI g 48 pt)]) C ck0 0 1 (by decide) qw60 rfl dX0_note_39 rfl rfl rfl rfl (Nat.le_of_ble_eq_true rfl) ?_
  refine j_aload_n C 0 dX0_note_42 rfl rfl ?_
  refine j_get C ck0 0 0 (by decide) qw59 rfl rfl dX0_note_43 ?_
  refine j_aload_n C 0 dX0_note_46 rfl rfl ?_
  refine j_get C ck0 0 1 (by decide) qw60 rfl rfl dX0_note_47 ?_
  refine j_iconst C dX0_note_50 ?_
  refine j_imul C dX0_note_51 ?_
  refine j_iload_n C 1 dX0_note_52 rfl rfl ?_
  refine j_callSN (As := [.ref b, .int (iI (((lat + 1) % 16) * 3)), .int (iI bl)]) (rest := []) C ys_X4_put qn541 (c_X4_put l g b 48 pt (((lat + 1) % 16) * 3) ((((lat + 1) % 16) * 3).toNat) bl (by omega) (by omega) (by decide)) (by decide) rfl dX0_note_53 rfl (Nat.le_of_ble_eq_true rfl) (by decide) (pf1 [(a, .inr (0, [.ref b, .int (iI ((lat + 1) % 16)), .int (iI kept), .int (iI (ris + 1)), .int (iI snk), .long (lI put), .long (lI got)]))] []) rfl (fun r9 w9 hq9 => ?_)
  obtain ⟨rfl, rfl⟩ := hq9
  refine J.to (L1 := [(0, .ref a), (1, .int (iI bl)), (2, .int (iI way)), (3, .int (iI rope))]) (S1 := []) (ws1 := [(a, .inr (0, [.ref b, .int (iI ((lat + 1) % 16)), .int (iI kept), .int (iI (ris + 1)), .int (iI snk), .long (lI put), .long (lI got)])), (b, aI g 48 (va_up pt ((((lat + 1) % 16) * 3).toNat) bl))]) rfl rfl rfl ?_
  refine j_aload_n C 0 dX0_note_56 rfl rfl ?_
  refine j_get C ck0 0 0 (by decide) qw59 rfl rfl dX0_note_57 ?_
  refine j_aload_n C 0 dX0_note_60 rfl rfl ?_
  refine j_get C ck0 0 1 (by decide) qw60 rfl rfl dX0_note_61 ?_
  refine j_iconst C dX0_note_64 ?_
  refine j_imul C dX0_note_65 ?_
  refine j_iconst C dX0_note_66 ?_
  refine j_iadd C dX0_note_67 ?_
  refine j_iload_n C 2 dX0_note_68 rfl rfl ?_
  refine j_callSN (As := [.ref b, .int (iI ((((lat + 1) % 16) * 3) + 1)), .int (iI way)]) (rest := []) C ys_X4_put qn541 (c_X4_put l g b 48 (va_up pt ((((lat + 1) % 16) * 3).toNat) bl) ((((lat + 1) % 16) * 3) + 1) (((((lat + 1) % 16) * 3) + 1).toNat) way (by omega) (by omega) (by decide)) (by decide) rfl dX0_note_69 rfl (Nat.le_of_ble_eq_true rfl) (by decide) (pf1 [(a, .inr (0, [.ref b, .int (iI ((lat + 1) % 16)), .int (iI kept), .int (iI (ris + 1)), .int (iI snk), .long (lI put), .long (lI got)]))] []) rfl (fun r9 w9 hq9 => ?_)
  obtain ⟨rfl, rfl⟩ := hq9
  refine J.to (L1 := [(0, .ref a), (1, .int (iI bl)), (2, .int (iI way)), (3, .int (iI rope))]) (S1 := []) (ws1 := [(a, .inr (0, [.ref b, .int (iI ((lat + 1) % 16)), .int (iI kept), .int (iI (ris + 1)), .int (iI snk), .long (lI put), .long (lI got)])), (b, aI g 48 (va_up (va_up pt ((((lat + 1) % 16) * 3).toNat) bl) (((((lat + 1) % 16) * 3) + 1).toNat) way))]) rfl rfl rfl ?_
  refine j_aload_n C 0 dX0_note_72 rfl rfl ?_
  refine j_get C ck0 0 0 (by decide) qw59 rfl rfl dX0_note_73 ?_
  refine j_aload_n C 0 dX0_note_76 rfl rfl ?_
  refine j_get C ck0 0 1 (by decide) qw60 rfl rfl dX0_note_77 ?_
  refine j_iconst C dX0_note_80 ?_
  refine j_imul C dX0_note_81 ?_
  refine j_iconst C dX0_note_82 ?_
  refine j_iadd C dX0_note_83 ?_
  refine j_iload_n C 3 dX0_note_84 rfl rfl ?_
  refine j_callSN (As := [.ref b, .int (iI ((((lat + 1) % 16) * 3) + 2)), .int (iI rope)]) (rest := []) C ys_X4_put qn541 (c_X4_put l g b 48 (va_up (va_up pt ((((lat + 1) % 16) * 3).toNat) bl) (((((lat + 1) % 16) * 3) + 1).toNat) way) ((((lat + 1) % 16) * 3) + 2) (((((lat + 1) % 16) * 3) + 2).toNat) rope (by omega) (by omega) (by decide)) (by decide) rfl dX0_note_85 rfl (Nat.le_of_ble_eq_true rfl) (by decide) (pf1 [(a, .inr (0, [.ref b, .int (iI ((lat + 1) % 16)), .int (iI kept), .int (iI (ris + 1)), .int (iI snk), .long (lI put), .long (lI got)]))] []) rfl (fun r9 w9 hq9 => ?_)
  obtain ⟨rfl, rfl⟩ := hq9
  refine J.to (L1 := [(0, .ref a), (1, .int (iI bl)), (2, .int (iI way)), (3, .int (iI rope))]) (S1 := []) (ws1 := [(a, .inr (0, [.ref b, .int (iI ((lat + 1) % 16)), .int (iI kept), .int (iI (ris + 1)), .int (iI snk), .long (lI put), .long (lI got)])), (b, aI g 48 (va_up (va_up (va_up pt ((((lat + 1) % 16) * 3).toNat) bl) (((((lat + 1) % 16) * 3) + 1).toNat) way) (((((lat + 1) % 16) * 3) + 2).toNat) rope))]) rfl rfl rfl ?_
  refine j_aload_n C 0 dX0_note_88 rfl rfl ?_
  refine j_aload_n C 0 dX0_note_89 rfl rfl ?_
  refine j_get C ck0 0 2 (by decide) qw61 rfl rfl dX0_note_90 ?_
  refine j_iconst C dX0_note_93 ?_
  refine j_iadd C dX0_note_94 ?_
  refine j_bipush C dX0_note_95 (by decide) ?_
  refine j_mmin C (by omega) (by decide) qw542 qw_min1 qw_min2 qw_min3 (by decide) (Nat.le_of_ble_eq_true rfl) (by decide) dX0_note_97 ?_
  refine j_put (ws1 := [(a, .inr (0, [.ref b, .int (iI ((lat + 1) % 16)), .int (iI (if 16 < kept + 1 then 16 else kept + 1)), .int (iI (ris + 1)), .int (iI snk), .long (lI put), .long (lI got)])), (b, aI g 48 (va_up (va_up (va_up pt ((((lat + 1) % 16) * 3).toNat) bl) (((((lat + 1) % 16) * 3) + 1).toNat) way) (((((lat + 1) % 16) * 3) + 2).toNat) rope))]) C ck0 0 2 (by decide) qw61 rfl dX0_note_100 rfl rfl rfl rfl (Nat.le_of_ble_eq_true rfl) ?_
  exact j_vret C hr hlk dX0_note_103 ⟨rfl, rfl⟩ (by decide) (by decide)

theorem c_X0_note_dn (l : Launch) (g : Gh) (a b : Nat) (pt : Nat → Int) (lat kept ris snk put got : Int) (bl way rope : Int) (hlat : 0 ≤ lat ∧ lat ≤ 15) (hkept : 0 ≤ kept ∧ kept ≤ 16) (hway : -100000 ≤ way ∧ way ≤ 0) : CT l g yX0_note cX0_note 4 none ({ frames := 1, cells := 0, slots := 0, locals := 22 }) [.ref a, .int (iI bl), .int (iI way), .int (iI rope)] [(a, .inr (0, [.ref b, .int (iI lat), .int (iI kept), .int (iI ris), .int (iI snk), .long (lI put), .long (lI got)])), (b, aI g 48 pt)] (PE none [(a, .inr (0, [.ref b, .int (iI ((lat + 1) % 16)), .int (iI (if 16 < kept + 1 then 16 else kept + 1)), .int (iI ris), .int (iI (snk + 1)), .long (lI put), .long (lI got)])), (b, aI g 48 (va_up (va_up (va_up pt ((lat + 1) % 16 * 3).toNat bl) ((lat + 1) % 16 * 3 + 1).toNat way) ((lat + 1) % 16 * 3 + 2).toNat rope))]) := by
  refine CT.intro (L0 := [(0, .ref a), (1, .int (iI bl)), (2, .int (iI way)), (3, .int (iI rope))]) (own := RX0) (by decide) rfl (Nat.le_of_ble_eq_true rfl) rfl ?_
  intro p e s m args below meth c A C hr hlk
  refine j_iload_n C 2 dX0_note_0 rfl rfl ?_
  refine j_if_le (tgt := 17) C (by omega) dX0_note_1 (by decide) (fun c1 => ?_) (fun c1 => absurd c1 (by omega))
  refine j_aload_n C 0 dX0_note_17 rfl rfl ?_
  refine j_dup C dX0_note_18 rfl ?_
  refine j_get C ck0 0 4 (by decide) qw65 rfl rfl dX0_note_19 ?_
  refine j_iconst C dX0_note_22 ?_
  refine j_iadd C dX0_note_23 ?_
  refine j_put (ws1 := [(a, .inr (0, [.ref b, .int (iI lat), .int (iI kept), .int (iI ris), .int (iI (snk + 1)), .long (lI put), .long (lI got)])), (b, aI g 48 pt)]) C ck0 0 4 (by decide) qw65 rfl dX0_note_24 rfl rfl rfl rfl (Nat.le_of_ble_eq_true rfl) ?_
  refine j_aload_n C 0 dX0_note_27 rfl rfl ?_
  refine j_aload_n C 0 dX0_note_28 rfl rfl ?_
  refine j_get C ck0 0 1 (by decide) qw60 rfl rfl dX0_note_29 ?_
  refine j_iconst C dX0_note_32 ?_
  refine j_iadd C dX0_note_33 ?_
  refine j_bipush C dX0_note_34 (by decide) ?_
  refine j_callS (As := [.int (iI (lat + 1)), .int (iI 16)]) (rest := [.ref a]) C ys_J9_floorMod_7cf53 qw426 (c_J9_floorMod_7cf53 l g (lat + 1) 16 (by omega) (by decide)) (by decide) rfl dX0_note_36 rfl (Nat.le_of_ble_eq_true rfl) (by decide) (pf1 [] [(a, .inr (0, [.ref b, .int (iI lat), .int (iI kept), .int (iI ris), .int (iI (snk + 1)), .long (lI put), .long (lI got)])), (b, aI g 48 pt)]) rfl (fun r9 w9 hq9 => ?_)
  obtain ⟨rfl, rfl⟩ := hq9
  refine J.to (L1 := [(0, .ref a), (1, .int (iI bl)), (2, .int (iI way)), (3, .int (iI rope))]) (S1 := [.int (iI ((lat + 1) % 16)), .ref a]) (ws1 := [(a, .inr (0, [.ref b, .int (iI lat), .int (iI kept), .int (iI ris), .int (iI (snk + 1)), .long (lI put), .long (lI got)])), (b, aI g 48 pt)]) rfl rfl rfl ?_
  refine j_put (ws1 := [(a, .inr (0, [.ref b, .int (iI ((lat + 1) % 16)), .int (iI kept), .int (iI ris), .int (iI (snk + 1)), .long (lI put), .long (lI got)])), (b, aI g 48 pt)]) C ck0 0 1 (by decide) qw60 rfl dX0_note_39 rfl rfl rfl rfl (Nat.le_of_ble_eq_true rfl) ?_
  refine j_aload_n C 0 dX0_note_42 rfl rfl ?_
  refine j_get C ck0 0 0 (by decide) qw59 rfl rfl dX0_note_43 ?_
  refine j_aload_n C 0 dX0_note_46 rfl rfl ?_
  refine j_get C ck0 0 1 (by decide) qw60 rfl rfl dX0_note_47 ?_
  refine j_iconst C dX0_note_50 ?_
  refine j_imul C dX0_note_51 ?_
  refine j_iload_n C 1 dX0_note_52 rfl rfl ?_
  refine j_callSN (As := [.ref b, .int (iI (((lat + 1) % 16) * 3)), .int (iI bl)]) (rest := []) C ys_X4_put qn541 (c_X4_put l g b 48 pt (((lat + 1) % 16) * 3) ((((lat + 1) % 16) * 3).toNat) bl (by omega) (by omega) (by decide)) (by decide) rfl dX0_note_53 rfl (Nat.le_of_ble_eq_true rfl) (by decide) (pf1 [(a, .inr (0, [.ref b, .int (iI ((lat + 1) % 16)), .int (iI kept), .int (iI ris), .int (iI (snk + 1)), .long (lI put), .long (lI got)]))] []) rfl (fun r9 w9 hq9 => ?_)
  obtain ⟨rfl, rfl⟩ := hq9
  refine J.to (L1 := [(0, .ref a), (1, .int (iI bl)), (2, .int (iI way)), (3, .int (iI rope))]) (S1 := []) (ws1 := [(a, .inr (0, [.ref b, .int (iI ((lat + 1) % 16)), .int (iI kept), .int (iI ris), .int (iI (snk + 1)), .long (lI put), .long (lI got)])), (b, aI g 48 (va_up pt ((((lat + 1) % 16) * 3).toNat) bl))]) rfl rfl rfl ?_
  refine j_aload_n C 0 dX0_note_56 rfl rfl ?_
  refine j_get C ck0 0 0 (by decide) qw59 rfl rfl dX0_note_57 ?_
  refine j_aload_n C 0 dX0_note_60 rfl rfl ?_
  refine j_get C ck0 0 1 (by decide) qw60 rfl rfl dX0_note_61 ?_
  refine j_iconst C dX0_note_64 ?_
  refine j_imul C dX0_note_65 ?_
  refine j_iconst C dX0_note_66 ?_
  refine j_iadd C dX0_note_67 ?_
  refine j_iload_n C 2 dX0_note_68 rfl rfl ?_
  refine j_callSN (As := [.ref b, .int (iI ((((lat + 1) % 16) * 3) + 1)), .int (iI way)]) (rest := []) C ys_X4_put qn541 (c_X4_put l g b 48 (va_up pt ((((lat + 1) % 16) * 3).toNat) bl) ((((lat + 1) % 16) * 3) + 1) (((((lat + 1) % 16) * 3) + 1).toNat) way (by omega) (by omega) (by decide)) (by decide) rfl dX0_note_69 rfl (Nat.le_of_ble_eq_true rfl) (by decide) (pf1 [(a, .inr (0, [.ref b, .int (iI ((lat + 1) % 16)), .int (iI kept), .int (iI ris), .int (iI (snk + 1)), .long (lI put), .long (lI got)]))] []) rfl (fun r9 w9 hq9 => ?_)
  obtain ⟨rfl, rfl⟩ := hq9
  refine J.to (L1 := [(0, .ref a), (1, .int (iI bl)), (2, .int (iI way)), (3, .int (iI rope))]) (S1 := []) (ws1 := [(a, .inr (0, [.ref b, .int (iI ((lat + 1) % 16)), .int (iI kept), .int (iI ris), .int (iI (snk + 1)), .long (lI put), .long (lI got)])), (b, aI g 48 (va_up (va_up pt ((((lat + 1) % 16) * 3).toNat) bl) (((((lat + 1) % 16) * 3) + 1).toNat) way))]) rfl rfl rfl ?_
  refine j_aload_n C 0 dX0_note_72 rfl rfl ?_
  refine j_get C ck0 0 0 (by decide) qw59 rfl rfl dX0_note_73 ?_
  refine j_aload_n C 0 dX0_note_76 rfl rfl ?_
  refine j_get C ck0 0 1 (by decide) qw60 rfl rfl dX0_note_77 ?_
  refine j_iconst C dX0_note_80 ?_
  refine j_imul C dX0_note_81 ?_
  refine j_iconst C dX0_note_82 ?_
  refine j_iadd C dX0_note_83 ?_
  refine j_iload_n C 3 dX0_note_84 rfl rfl ?_
  refine j_callSN (As := [.ref b, .int (iI ((((lat + 1) % 16) * 3) + 2)), .int (iI rope)]) (rest := []) C ys_X4_put qn541 (c_X4_put l g b 48 (va_up (va_up pt ((((lat + 1) % 16) * 3).toNat) bl) (((((lat + 1) % 16) * 3) + 1).toNat) way) ((((lat + 1) % 16) * 3) + 2) (((((lat + 1) % 16) * 3) + 2).toNat) rope (by omega) (by omega) (by decide)) (by decide) rfl dX0_note_85 rfl (Nat.le_of_ble_eq_true rfl) (by decide) (pf1 [(a, .inr (0, [.ref b, .int (iI ((lat + 1) % 16)), .int (iI kept), .int (iI ris), .int (iI (snk + 1)), .long (lI put), .long (lI got)]))] []) rfl (fun r9 w9 hq9 => ?_)
  obtain ⟨rfl, rfl⟩ := hq9
  refine J.to (L1 := [(0, .ref a), (1, .int (iI bl)), (2, .int (iI way)), (3, .int (iI rope))]) (S1 := []) (ws1 := [(a, .inr (0, [.ref b, .int (iI ((lat + 1) % 16)), .int (iI kept), .int (iI ris), .int (iI (snk + 1)), .long (lI put), .long (lI got)])), (b, aI g 48 (va_up (va_up (va_up pt ((((lat + 1) % 16) * 3).toNat) bl) (((((lat + 1) % 16) * 3) + 1).toNat) way) (((((lat + 1) % 16) * 3) + 2).toNat) rope))]) rfl rfl rfl ?_
  refine j_aload_n C 0 dX0_note_88 rfl rfl ?_
  refine j_aload_n C 0 dX0_note_89 rfl rfl ?_
  refine j_get C ck0 0 2 (by decide) qw61 rfl rfl dX0_note_90 ?_
  refine j_iconst C dX0_note_93 ?_
  refine j_iadd C dX0_note_94 ?_
  refine j_bipush C dX0_note_95 (by decide) ?_
  refine j_mmin C (by omega) (by decide) qw542 qw_min1 qw_min2 qw_min3 (by decide) (Nat.le_of_ble_eq_true rfl) (by decide) dX0_note_97 ?_
  refine j_put (ws1 := [(a, .inr (0, [.ref b, .int (iI ((lat + 1) % 16)), .int (iI (if 16 < kept + 1 then 16 else kept + 1)), .int (iI ris), .int (iI (snk + 1)), .long (lI put), .long (lI got)])), (b, aI g 48 (va_up (va_up (va_up pt ((((lat + 1) % 16) * 3).toNat) bl) (((((lat + 1) % 16) * 3) + 1).toNat) way) (((((lat + 1) % 16) * 3) + 2).toNat) rope))]) C ck0 0 2 (by decide) qw61 rfl dX0_note_100 rfl rfl rfl rfl (Nat.le_of_ble_eq_true rfl) ?_
  exact j_vret C hr hlk dX0_note_103 ⟨rfl, rfl⟩ (by decide) (by decide)

theorem c_X0_part (l : Launch) (g : Gh) (a b : Nat) (pt : Nat → Int) (lat kept ris snk put got : Int) (ix wh : Int) (hlat : 0 ≤ lat ∧ lat ≤ 15) (hix : 0 ≤ ix ∧ ix ≤ 15) (hwh : 0 ≤ wh ∧ wh ≤ 2) : CT l g yX0_part cX0_part 3 (some FieldType.int) ({ frames := 1, cells := 0, slots := 0, locals := 22 }) [.ref a, .int (iI ix), .int (iI wh)] [(a, .inr (0, [.ref b, .int (iI lat), .int (iI kept), .int (iI ris), .int (iI snk), .long (lI put), .long (lI got)])), (b, aI g 48 pt)] (PE (some (.int (iI (pt ((lat - ix) % 16 * 3 + wh).toNat)))) [(a, .inr (0, [.ref b, .int (iI lat), .int (iI kept), .int (iI ris), .int (iI snk), .long (lI put), .long (lI got)])), (b, aI g 48 pt)]) := by
  refine CT.intro (L0 := [(0, .ref a), (1, .int (iI ix)), (2, .int (iI wh))]) (own := RX0) (by decide) rfl (Nat.le_of_ble_eq_true rfl) rfl ?_
  intro p e s m args below meth c A C hr hlk
  refine j_aload_n C 0 dX0_part_0 rfl rfl ?_
  refine j_get C ck0 0 0 (by decide) qw59 rfl rfl dX0_part_1 ?_
  refine j_aload_n C 0 dX0_part_4 rfl rfl ?_
  refine j_get C ck0 0 1 (by decide) qw60 rfl rfl dX0_part_5 ?_
  refine j_iload_n C 1 dX0_part_8 rfl rfl ?_
  refine j_isub C dX0_part_9 ?_
  refine j_bipush C dX0_part_10 (by decide) ?_
  refine j_callS (As := [.int (iI (lat - ix)), .int (iI 16)]) (rest := [.ref b]) C ys_J9_floorMod_7cf53 qw426 (c_J9_floorMod_7cf53 l g (lat - ix) 16 (by omega) (by decide)) (by decide) rfl dX0_part_12 rfl (Nat.le_of_ble_eq_true rfl) (by decide) (pf1 [] [(a, .inr (0, [.ref b, .int (iI lat), .int (iI kept), .int (iI ris), .int (iI snk), .long (lI put), .long (lI got)])), (b, aI g 48 pt)]) rfl (fun r9 w9 hq9 => ?_)
  obtain ⟨rfl, rfl⟩ := hq9
  refine J.to (L1 := [(0, .ref a), (1, .int (iI ix)), (2, .int (iI wh))]) (S1 := [.int (iI ((lat - ix) % 16)), .ref b]) (ws1 := [(a, .inr (0, [.ref b, .int (iI lat), .int (iI kept), .int (iI ris), .int (iI snk), .long (lI put), .long (lI got)])), (b, aI g 48 pt)]) rfl rfl rfl ?_
  refine j_iconst C dX0_part_15 ?_
  refine j_imul C dX0_part_16 ?_
  refine j_iload_n C 2 dX0_part_17 rfl rfl ?_
  refine j_iadd C dX0_part_18 ?_
  refine j_callSN (As := [.ref b, .int (iI ((((lat - ix) % 16) * 3) + wh))]) (rest := []) C ys_X4_at qn427 (c_X4_at l g b 48 pt ((((lat - ix) % 16) * 3) + wh) (((((lat - ix) % 16) * 3) + wh).toNat) (by omega) (by omega) (by decide)) (by decide) rfl dX0_part_19 rfl (Nat.le_of_ble_eq_true rfl) (by decide) (pf1 [(a, .inr (0, [.ref b, .int (iI lat), .int (iI kept), .int (iI ris), .int (iI snk), .long (lI put), .long (lI got)]))] []) rfl (fun r9 w9 hq9 => ?_)
  obtain ⟨rfl, rfl⟩ := hq9
  refine J.to (L1 := [(0, .ref a), (1, .int (iI ix)), (2, .int (iI wh))]) (S1 := [.int (iI (pt (((((lat - ix) % 16) * 3) + wh).toNat)))]) (ws1 := [(a, .inr (0, [.ref b, .int (iI lat), .int (iI kept), .int (iI ris), .int (iI snk), .long (lI put), .long (lI got)])), (b, aI g 48 pt)]) rfl rfl rfl ?_
  exact j_iret C hr hlk dX0_part_22 ⟨rfl, rfl⟩ (by decide) (by decide)

theorem c_X0_copyFrom (l : Launch) (g : Gh) (a b : Nat) (pt : Nat → Int) (lat kept ris snk put got : Int) (a2 b2 : Nat) (pt2 : Nat → Int) (lat2 kept2 ris2 snk2 put2 got2 : Int)  : CT l g yX0_copyFrom cX0_copyFrom 2 none ({ frames := 1, cells := 0, slots := 0, locals := 22 }) [.ref a, .ref a2] [(a, .inr (0, [.ref b, .int (iI lat), .int (iI kept), .int (iI ris), .int (iI snk), .long (lI put), .long (lI got)])), (b, aI g 48 pt), (a2, .inr (0, [.ref b2, .int (iI lat2), .int (iI kept2), .int (iI ris2), .int (iI snk2), .long (lI put2), .long (lI got2)])), (b2, aI g 48 pt2)] (PE none [(a, .inr (0, [.ref b, .int (iI lat2), .int (iI kept2), .int (iI ris2), .int (iI snk2), .long (lI put2), .long (lI got2)])), (b, aI g 48 (cpy 48 pt2 pt)), (a2, .inr (0, [.ref b2, .int (iI lat2), .int (iI kept2), .int (iI ris2), .int (iI snk2), .long (lI put2), .long (lI got2)])), (b2, aI g 48 pt2)]) := by
  refine CT.intro (L0 := [(0, .ref a), (1, .ref a2)]) (own := RX0) (by decide) rfl (Nat.le_of_ble_eq_true rfl) rfl ?_
  intro p e s m args below meth c A C hr hlk
  refine j_aload_n C 1 dX0_copyFrom_0 rfl rfl ?_
  refine j_get C ck0 2 0 (by decide) qw59 rfl rfl dX0_copyFrom_1 ?_
  refine j_aload_n C 0 dX0_copyFrom_4 rfl rfl ?_
  refine j_get C ck0 0 0 (by decide) qw59 rfl rfl dX0_copyFrom_5 ?_
  refine j_callSN (As := [.ref b2, .ref b]) (rest := []) C ys_X4_copyRow qn241 (c_X4_copyRow l g b2 b 48 pt2 pt (by decide)) (by decide) rfl dX0_copyFrom_8 rfl (Nat.le_of_ble_eq_true rfl) (by decide) (pf2r [(a, .inr (0, [.ref b, .int (iI lat), .int (iI kept), .int (iI ris), .int (iI snk), .long (lI put), .long (lI got)]))] 1 [(a2, .inr (0, [.ref b2, .int (iI lat2), .int (iI kept2), .int (iI ris2), .int (iI snk2), .long (lI put2), .long (lI got2)]))] []) rfl (fun r9 w9 hq9 => ?_)
  obtain ⟨rfl, rfl⟩ := hq9
  refine J.to (L1 := [(0, .ref a), (1, .ref a2)]) (S1 := []) (ws1 := [(a, .inr (0, [.ref b, .int (iI lat), .int (iI kept), .int (iI ris), .int (iI snk), .long (lI put), .long (lI got)])), (b, aI g 48 (cpy 48 pt2 pt)), (a2, .inr (0, [.ref b2, .int (iI lat2), .int (iI kept2), .int (iI ris2), .int (iI snk2), .long (lI put2), .long (lI got2)])), (b2, aI g 48 pt2)]) rfl rfl rfl ?_
  refine j_aload_n C 0 dX0_copyFrom_11 rfl rfl ?_
  refine j_aload_n C 1 dX0_copyFrom_12 rfl rfl ?_
  refine j_get C ck0 2 1 (by decide) qw60 rfl rfl dX0_copyFrom_13 ?_
  refine j_put (ws1 := [(a, .inr (0, [.ref b, .int (iI lat2), .int (iI kept), .int (iI ris), .int (iI snk), .long (lI put), .long (lI got)])), (b, aI g 48 (cpy 48 pt2 pt)), (a2, .inr (0, [.ref b2, .int (iI lat2), .int (iI kept2), .int (iI ris2), .int (iI snk2), .long (lI put2), .long (lI got2)])), (b2, aI g 48 pt2)]) C ck0 0 1 (by decide) qw60 rfl dX0_copyFrom_16 rfl rfl rfl rfl (Nat.le_of_ble_eq_true rfl) ?_
  refine j_aload_n C 0 dX0_copyFrom_19 rfl rfl ?_
  refine j_aload_n C 1 dX0_copyFrom_20 rfl rfl ?_
  refine j_get C ck0 2 2 (by decide) qw61 rfl rfl dX0_copyFrom_21 ?_
  refine j_put (ws1 := [(a, .inr (0, [.ref b, .int (iI lat2), .int (iI kept2), .int (iI ris), .int (iI snk), .long (lI put), .long (lI got)])), (b, aI g 48 (cpy 48 pt2 pt)), (a2, .inr (0, [.ref b2, .int (iI lat2), .int (iI kept2), .int (iI ris2), .int (iI snk2), .long (lI put2), .long (lI got2)])), (b2, aI g 48 pt2)]) C ck0 0 2 (by decide) qw61 rfl dX0_copyFrom_24 rfl rfl rfl rfl (Nat.le_of_ble_eq_true rfl) ?_
  refine j_aload_n C 0 dX0_copyFrom_27 rfl rfl ?_
  refine j_aload_n C 1 dX0_copyFrom_28 rfl rfl ?_
  refine j_get C ck0 2 3 (by decide) qw63 rfl rfl dX0_copyFrom_29 ?_
  refine j_put (ws1 := [(a, .inr (0, [.ref b, .int (iI lat2), .int (iI kept2), .int (iI ris2), .int (iI snk), .long (lI put), .long (lI got)])), (b, aI g 48 (cpy 48 pt2 pt)), (a2, .inr (0, [.ref b2, .int (iI lat2), .int (iI kept2), .int (iI ris2), .int (iI snk2), .long (lI put2), .long (lI got2)])), (b2, aI g 48 pt2)]) C ck0 0 3 (by decide) qw63 rfl dX0_copyFrom_32 rfl rfl rfl rfl (Nat.le_of_ble_eq_true rfl) ?_
  refine j_aload_n C 0 dX0_copyFrom_35 rfl rfl ?_
  refine j_aload_n C 1 dX0_copyFrom_36 rfl rfl ?_
  refine j_get C ck0 2 4 (by decide) qw65 rfl rfl dX0_copyFrom_37 ?_
  refine j_put (ws1 := [(a, .inr (0, [.ref b, .int (iI lat2), .int (iI kept2), .int (iI ris2), .int (iI snk2), .long (lI put), .long (lI got)])), (b, aI g 48 (cpy 48 pt2 pt)), (a2, .inr (0, [.ref b2, .int (iI lat2), .int (iI kept2), .int (iI ris2), .int (iI snk2), .long (lI put2), .long (lI got2)])), (b2, aI g 48 pt2)]) C ck0 0 4 (by decide) qw65 rfl dX0_copyFrom_40 rfl rfl rfl rfl (Nat.le_of_ble_eq_true rfl) ?_
  refine j_aload_n C 0 dX0_copyFrom_43 rfl rfl ?_
  refine j_aload_n C 1 dX0_copyFrom_44 rfl rfl ?_
  refine j_get C ck0 2 5 (by decide) qw67 rfl rfl dX0_copyFrom_45 ?_
  refine j_put (ws1 := [(a, .inr (0, [.ref b, .int (iI lat2), .int (iI kept2), .int (iI ris2), .int (iI snk2), .long (lI put2), .long (lI got)])), (b, aI g 48 (cpy 48 pt2 pt)), (a2, .inr (0, [.ref b2, .int (iI lat2), .int (iI kept2), .int (iI ris2), .int (iI snk2), .long (lI put2), .long (lI got2)])), (b2, aI g 48 pt2)]) C ck0 0 5 (by decide) qw67 rfl dX0_copyFrom_48 rfl rfl rfl rfl (Nat.le_of_ble_eq_true rfl) ?_
  refine j_aload_n C 0 dX0_copyFrom_51 rfl rfl ?_
  refine j_aload_n C 1 dX0_copyFrom_52 rfl rfl ?_
  refine j_get C ck0 2 6 (by decide) qw70 rfl rfl dX0_copyFrom_53 ?_
  refine j_put (ws1 := [(a, .inr (0, [.ref b, .int (iI lat2), .int (iI kept2), .int (iI ris2), .int (iI snk2), .long (lI put2), .long (lI got2)])), (b, aI g 48 (cpy 48 pt2 pt)), (a2, .inr (0, [.ref b2, .int (iI lat2), .int (iI kept2), .int (iI ris2), .int (iI snk2), .long (lI put2), .long (lI got2)])), (b2, aI g 48 pt2)]) C ck0 0 6 (by decide) qw70 rfl dX0_copyFrom_56 rfl rfl rfl rfl (Nat.le_of_ble_eq_true rfl) ?_
  exact j_vret C hr hlk dX0_copyFrom_59 ⟨rfl, rfl⟩ (by decide) (by decide)
end
