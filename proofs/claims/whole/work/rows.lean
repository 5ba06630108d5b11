section
-- ===== PART A: goes FIRST, ahead of the names: the tables' words, and 'selects' of the private methods out of them =====
/-- a private method of a class that the tables say can be made, by its rows of tables_1 -/
def lw_okq (q : MethodName × Nat) : Prop := (q.1.cls ≠ "java/lang/invoke/MethodHandle" ∧ q.1.cls ≠ "java/lang/invoke/VarHandle") ∧ Cond.instantiable q.1.cls q.2 ∈ tables_1 ∧ Cond.privateMethod q.1 ∈ tables_1 ∧ Cond.instanceMethod q.1 ∈ tables_1
theorem lw_p0 : lw_okq (⟨"LieBridges$Pad", "take", "(II)I"⟩, 8) := ⟨⟨by decide +kernel, by decide +kernel⟩, List.mem_of_getElem? (i := 98) (by decide +kernel), List.mem_of_getElem? (i := 246) (by decide +kernel), List.mem_of_getElem? (i := 247) (by decide +kernel)⟩
theorem lw_p1 : lw_okq (⟨"LieBridges$Pad", "takeDay", "()I"⟩, 8) := ⟨⟨by decide +kernel, by decide +kernel⟩, List.mem_of_getElem? (i := 98) (by decide +kernel), List.mem_of_getElem? (i := 250) (by decide +kernel), List.mem_of_getElem? (i := 251) (by decide +kernel)⟩
theorem lw_p2 : lw_okq (⟨"LieBridges$Pad", "takeSpeaker", "(I)I"⟩, 8) := ⟨⟨by decide +kernel, by decide +kernel⟩, List.mem_of_getElem? (i := 98) (by decide +kernel), List.mem_of_getElem? (i := 254) (by decide +kernel), List.mem_of_getElem? (i := 255) (by decide +kernel)⟩
theorem lw_p3 : lw_okq (⟨"LieBridges$Pad", "takeHearer", "(I)I"⟩, 8) := ⟨⟨by decide +kernel, by decide +kernel⟩, List.mem_of_getElem? (i := 98) (by decide +kernel), List.mem_of_getElem? (i := 259) (by decide +kernel), List.mem_of_getElem? (i := 260) (by decide +kernel)⟩
theorem lw_p4 : lw_okq (⟨"LieBridges$Pad", "takeDenial", "()I"⟩, 8) := ⟨⟨by decide +kernel, by decide +kernel⟩, List.mem_of_getElem? (i := 98) (by decide +kernel), List.mem_of_getElem? (i := 263) (by decide +kernel), List.mem_of_getElem? (i := 264) (by decide +kernel)⟩
theorem lw_p5 : lw_okq (⟨"LieBridges$Pad", "takePlank", "(I)I"⟩, 8) := ⟨⟨by decide +kernel, by decide +kernel⟩, List.mem_of_getElem? (i := 98) (by decide +kernel), List.mem_of_getElem? (i := 267) (by decide +kernel), List.mem_of_getElem? (i := 268) (by decide +kernel)⟩
theorem lw_p6 : lw_okq (⟨"LieBridges", "refusalOfText", "()I"⟩, 7) := ⟨⟨by decide +kernel, by decide +kernel⟩, List.mem_of_getElem? (i := 8) (by decide +kernel), List.mem_of_getElem? (i := 276) (by decide +kernel), List.mem_of_getElem? (i := 277) (by decide +kernel)⟩
theorem lw_p7 : lw_okq (⟨"LieBridges", "takesEffect", "(ILLieBridges$Beliefs;)Z"⟩, 7) := ⟨⟨by decide +kernel, by decide +kernel⟩, List.mem_of_getElem? (i := 8) (by decide +kernel), List.mem_of_getElem? (i := 287) (by decide +kernel), List.mem_of_getElem? (i := 288) (by decide +kernel)⟩
theorem lw_p8 : lw_okq (⟨"LieBridges", "play", "(LLieBridges$Beliefs;)V"⟩, 7) := ⟨⟨by decide +kernel, by decide +kernel⟩, List.mem_of_getElem? (i := 8) (by decide +kernel), List.mem_of_getElem? (i := 319) (by decide +kernel), List.mem_of_getElem? (i := 320) (by decide +kernel)⟩
theorem lw_p9 : lw_okq (⟨"LieBridges", "splitRoute", "(II)Z"⟩, 7) := ⟨⟨by decide +kernel, by decide +kernel⟩, List.mem_of_getElem? (i := 8) (by decide +kernel), List.mem_of_getElem? (i := 353) (by decide +kernel), List.mem_of_getElem? (i := 354) (by decide +kernel)⟩
theorem lw_p10 : lw_okq (⟨"LieBridges", "tellingsFor", "(II)I"⟩, 7) := ⟨⟨by decide +kernel, by decide +kernel⟩, List.mem_of_getElem? (i := 8) (by decide +kernel), List.mem_of_getElem? (i := 366) (by decide +kernel), List.mem_of_getElem? (i := 367) (by decide +kernel)⟩
theorem lw_p11 : lw_okq (⟨"LieBridges", "spread", "(LLieBridges$Beliefs;I)V"⟩, 7) := ⟨⟨by decide +kernel, by decide +kernel⟩, List.mem_of_getElem? (i := 8) (by decide +kernel), List.mem_of_getElem? (i := 370) (by decide +kernel), List.mem_of_getElem? (i := 371) (by decide +kernel)⟩
theorem lw_p12 : lw_okq (⟨"LieBridges", "tellToAll", "(LLieBridges$Beliefs;II)V"⟩, 7) := ⟨⟨by decide +kernel, by decide +kernel⟩, List.mem_of_getElem? (i := 8) (by decide +kernel), List.mem_of_getElem? (i := 375) (by decide +kernel), List.mem_of_getElem? (i := 376) (by decide +kernel)⟩
theorem lw_p13 : lw_okq (⟨"LieBridges$Ways", "find", "(LLieBridges$Delta;IIJ)V"⟩, 7) := ⟨⟨by decide +kernel, by decide +kernel⟩, List.mem_of_getElem? (i := 136) (by decide +kernel), List.mem_of_getElem? (i := 388) (by decide +kernel), List.mem_of_getElem? (i := 389) (by decide +kernel)⟩
theorem lw_p14 : lw_okq (⟨"LieBridges$Ways", "walk", "(LLieBridges$Delta;IIIJ)V"⟩, 7) := ⟨⟨by decide +kernel, by decide +kernel⟩, List.mem_of_getElem? (i := 136) (by decide +kernel), List.mem_of_getElem? (i := 392) (by decide +kernel), List.mem_of_getElem? (i := 393) (by decide +kernel)⟩
theorem lw_p15 : lw_okq (⟨"LieBridges$Ways", "keepIfBetter", "(IJ)V"⟩, 7) := ⟨⟨by decide +kernel, by decide +kernel⟩, List.mem_of_getElem? (i := 136) (by decide +kernel), List.mem_of_getElem? (i := 396) (by decide +kernel), List.mem_of_getElem? (i := 397) (by decide +kernel)⟩
def lw_privs_1 : List (MethodName × Nat) := [(⟨"LieBridges$Pad", "take", "(II)I"⟩, 8), (⟨"LieBridges$Pad", "takeDay", "()I"⟩, 8), (⟨"LieBridges$Pad", "takeSpeaker", "(I)I"⟩, 8), (⟨"LieBridges$Pad", "takeHearer", "(I)I"⟩, 8), (⟨"LieBridges$Pad", "takeDenial", "()I"⟩, 8), (⟨"LieBridges$Pad", "takePlank", "(I)I"⟩, 8), (⟨"LieBridges", "refusalOfText", "()I"⟩, 7), (⟨"LieBridges", "takesEffect", "(ILLieBridges$Beliefs;)Z"⟩, 7), (⟨"LieBridges", "play", "(LLieBridges$Beliefs;)V"⟩, 7), (⟨"LieBridges", "splitRoute", "(II)Z"⟩, 7), (⟨"LieBridges", "tellingsFor", "(II)I"⟩, 7), (⟨"LieBridges", "spread", "(LLieBridges$Beliefs;I)V"⟩, 7), (⟨"LieBridges", "tellToAll", "(LLieBridges$Beliefs;II)V"⟩, 7), (⟨"LieBridges$Ways", "find", "(LLieBridges$Delta;IIJ)V"⟩, 7), (⟨"LieBridges$Ways", "walk", "(LLieBridges$Delta;IIIJ)V"⟩, 7), (⟨"LieBridges$Ways", "keepIfBetter", "(IJ)V"⟩, 7)]
theorem lw_r1 : ∀ q ∈ lw_privs_1, lw_okq q := List.forall_mem_cons.mpr ⟨lw_p0, List.forall_mem_cons.mpr ⟨lw_p1, List.forall_mem_cons.mpr ⟨lw_p2, List.forall_mem_cons.mpr ⟨lw_p3, List.forall_mem_cons.mpr ⟨lw_p4, List.forall_mem_cons.mpr ⟨lw_p5, List.forall_mem_cons.mpr ⟨lw_p6, List.forall_mem_cons.mpr ⟨lw_p7, List.forall_mem_cons.mpr ⟨lw_p8, List.forall_mem_cons.mpr ⟨lw_p9, List.forall_mem_cons.mpr ⟨lw_p10, List.forall_mem_cons.mpr ⟨lw_p11, List.forall_mem_cons.mpr ⟨lw_p12, List.forall_mem_cons.mpr ⟨lw_p13, List.forall_mem_cons.mpr ⟨lw_p14, List.forall_mem_cons.mpr ⟨lw_p15, fun _ h => absurd h List.not_mem_nil⟩⟩⟩⟩⟩⟩⟩⟩⟩⟩⟩⟩⟩⟩⟩⟩
theorem lw_p16 : lw_okq (⟨"LieBridges$Ways", "tread", "(LLieBridges$Delta;IIIIJ)V"⟩, 7) := ⟨⟨by decide +kernel, by decide +kernel⟩, List.mem_of_getElem? (i := 136) (by decide +kernel), List.mem_of_getElem? (i := 405) (by decide +kernel), List.mem_of_getElem? (i := 406) (by decide +kernel)⟩
theorem lw_p17 : lw_okq (⟨"LieBridges", "standsBehind", "(IIII)Z"⟩, 7) := ⟨⟨by decide +kernel, by decide +kernel⟩, List.mem_of_getElem? (i := 8) (by decide +kernel), List.mem_of_getElem? (i := 421) (by decide +kernel), List.mem_of_getElem? (i := 422) (by decide +kernel)⟩
theorem lw_p18 : lw_okq (⟨"LieBridges", "denyToAll", "(LLieBridges$Beliefs;II)I"⟩, 7) := ⟨⟨by decide +kernel, by decide +kernel⟩, List.mem_of_getElem? (i := 8) (by decide +kernel), List.mem_of_getElem? (i := 429) (by decide +kernel), List.mem_of_getElem? (i := 430) (by decide +kernel)⟩
theorem lw_p19 : lw_okq (⟨"LieBridges", "findSafest", "(II)V"⟩, 7) := ⟨⟨by decide +kernel, by decide +kernel⟩, List.mem_of_getElem? (i := 8) (by decide +kernel), List.mem_of_getElem? (i := 449) (by decide +kernel), List.mem_of_getElem? (i := 450) (by decide +kernel)⟩
theorem lw_p20 : lw_okq (⟨"LieBridges", "guess", "(I)V"⟩, 7) := ⟨⟨by decide +kernel, by decide +kernel⟩, List.mem_of_getElem? (i := 8) (by decide +kernel), List.mem_of_getElem? (i := 480) (by decide +kernel), List.mem_of_getElem? (i := 481) (by decide +kernel)⟩
theorem lw_p21 : lw_okq (⟨"LieBridges", "fits", "()Z"⟩, 7) := ⟨⟨by decide +kernel, by decide +kernel⟩, List.mem_of_getElem? (i := 8) (by decide +kernel), List.mem_of_getElem? (i := 484) (by decide +kernel), List.mem_of_getElem? (i := 485) (by decide +kernel)⟩
theorem lw_p22 : lw_okq (⟨"LieBridgesModel", "faultOf", "()I"⟩, 22) := ⟨⟨by decide +kernel, by decide +kernel⟩, List.mem_of_getElem? (i := 511) (by decide +kernel), List.mem_of_getElem? (i := 619) (by decide +kernel), List.mem_of_getElem? (i := 620) (by decide +kernel)⟩
theorem lw_p23 : lw_okq (⟨"LieBridgesModel", "barOfText", "()I"⟩, 22) := ⟨⟨by decide +kernel, by decide +kernel⟩, List.mem_of_getElem? (i := 511) (by decide +kernel), List.mem_of_getElem? (i := 627) (by decide +kernel), List.mem_of_getElem? (i := 628) (by decide +kernel)⟩
theorem lw_p24 : lw_okq (⟨"LieBridgesModel", "opens", "()I"⟩, 22) := ⟨⟨by decide +kernel, by decide +kernel⟩, List.mem_of_getElem? (i := 511) (by decide +kernel), List.mem_of_getElem? (i := 631) (by decide +kernel), List.mem_of_getElem? (i := 632) (by decide +kernel)⟩
theorem lw_p25 : lw_okq (⟨"LieBridgesModel", "goText", "(II)I"⟩, 22) := ⟨⟨by decide +kernel, by decide +kernel⟩, List.mem_of_getElem? (i := 511) (by decide +kernel), List.mem_of_getElem? (i := 635) (by decide +kernel), List.mem_of_getElem? (i := 636) (by decide +kernel)⟩
theorem lw_p26 : lw_okq (⟨"LieBridgesModel", "asNow", "()V"⟩, 22) := ⟨⟨by decide +kernel, by decide +kernel⟩, List.mem_of_getElem? (i := 511) (by decide +kernel), List.mem_of_getElem? (i := 639) (by decide +kernel), List.mem_of_getElem? (i := 640) (by decide +kernel)⟩
theorem lw_p27 : lw_okq (⟨"LieBridgesModel", "pass", "()V"⟩, 22) := ⟨⟨by decide +kernel, by decide +kernel⟩, List.mem_of_getElem? (i := 511) (by decide +kernel), List.mem_of_getElem? (i := 643) (by decide +kernel), List.mem_of_getElem? (i := 644) (by decide +kernel)⟩
theorem lw_p28 : lw_okq (⟨"LieBridgesModel", "denies", "(III)Z"⟩, 22) := ⟨⟨by decide +kernel, by decide +kernel⟩, List.mem_of_getElem? (i := 511) (by decide +kernel), List.mem_of_getElem? (i := 647) (by decide +kernel), List.mem_of_getElem? (i := 648) (by decide +kernel)⟩
theorem lw_p29 : lw_okq (⟨"LieBridgesModel", "tells", "(III)Z"⟩, 22) := ⟨⟨by decide +kernel, by decide +kernel⟩, List.mem_of_getElem? (i := 511) (by decide +kernel), List.mem_of_getElem? (i := 654) (by decide +kernel), List.mem_of_getElem? (i := 655) (by decide +kernel)⟩
theorem lw_p30 : lw_okq (⟨"LieBridgesModel", "beliefOf", "(III)I"⟩, 22) := ⟨⟨by decide +kernel, by decide +kernel⟩, List.mem_of_getElem? (i := 511) (by decide +kernel), List.mem_of_getElem? (i := 666) (by decide +kernel), List.mem_of_getElem? (i := 667) (by decide +kernel)⟩
theorem lw_p31 : lw_okq (⟨"LieBridgesModel", "bornBy", "(I)I"⟩, 22) := ⟨⟨by decide +kernel, by decide +kernel⟩, List.mem_of_getElem? (i := 511) (by decide +kernel), List.mem_of_getElem? (i := 670) (by decide +kernel), List.mem_of_getElem? (i := 671) (by decide +kernel)⟩
def lw_privs_2 : List (MethodName × Nat) := [(⟨"LieBridges$Ways", "tread", "(LLieBridges$Delta;IIIIJ)V"⟩, 7), (⟨"LieBridges", "standsBehind", "(IIII)Z"⟩, 7), (⟨"LieBridges", "denyToAll", "(LLieBridges$Beliefs;II)I"⟩, 7), (⟨"LieBridges", "findSafest", "(II)V"⟩, 7), (⟨"LieBridges", "guess", "(I)V"⟩, 7), (⟨"LieBridges", "fits", "()Z"⟩, 7), (⟨"LieBridgesModel", "faultOf", "()I"⟩, 22), (⟨"LieBridgesModel", "barOfText", "()I"⟩, 22), (⟨"LieBridgesModel", "opens", "()I"⟩, 22), (⟨"LieBridgesModel", "goText", "(II)I"⟩, 22), (⟨"LieBridgesModel", "asNow", "()V"⟩, 22), (⟨"LieBridgesModel", "pass", "()V"⟩, 22), (⟨"LieBridgesModel", "denies", "(III)Z"⟩, 22), (⟨"LieBridgesModel", "tells", "(III)Z"⟩, 22), (⟨"LieBridgesModel", "beliefOf", "(III)I"⟩, 22), (⟨"LieBridgesModel", "bornBy", "(I)I"⟩, 22)]
theorem lw_r2 : ∀ q ∈ lw_privs_2, lw_okq q := List.forall_mem_cons.mpr ⟨lw_p16, List.forall_mem_cons.mpr ⟨lw_p17, List.forall_mem_cons.mpr ⟨lw_p18, List.forall_mem_cons.mpr ⟨lw_p19, List.forall_mem_cons.mpr ⟨lw_p20, List.forall_mem_cons.mpr ⟨lw_p21, List.forall_mem_cons.mpr ⟨lw_p22, List.forall_mem_cons.mpr ⟨lw_p23, List.forall_mem_cons.mpr ⟨lw_p24, List.forall_mem_cons.mpr ⟨lw_p25, List.forall_mem_cons.mpr ⟨lw_p26, List.forall_mem_cons.mpr ⟨lw_p27, List.forall_mem_cons.mpr ⟨lw_p28, List.forall_mem_cons.mpr ⟨lw_p29, List.forall_mem_cons.mpr ⟨lw_p30, List.forall_mem_cons.mpr ⟨lw_p31, fun _ h => absurd h List.not_mem_nil⟩⟩⟩⟩⟩⟩⟩⟩⟩⟩⟩⟩⟩⟩⟩⟩
theorem lw_p32 : lw_okq (⟨"LieBridgesModel", "over", "(II)I"⟩, 22) := ⟨⟨by decide +kernel, by decide +kernel⟩, List.mem_of_getElem? (i := 511) (by decide +kernel), List.mem_of_getElem? (i := 685) (by decide +kernel), List.mem_of_getElem? (i := 686) (by decide +kernel)⟩
theorem lw_p33 : lw_okq (⟨"LieBridgesModel", "layCosts", "(I)V"⟩, 22) := ⟨⟨by decide +kernel, by decide +kernel⟩, List.mem_of_getElem? (i := 511) (by decide +kernel), List.mem_of_getElem? (i := 693) (by decide +kernel), List.mem_of_getElem? (i := 694) (by decide +kernel)⟩
theorem lw_p34 : lw_okq (⟨"LieBridgesModel", "reached", "(I)I"⟩, 22) := ⟨⟨by decide +kernel, by decide +kernel⟩, List.mem_of_getElem? (i := 511) (by decide +kernel), List.mem_of_getElem? (i := 697) (by decide +kernel), List.mem_of_getElem? (i := 698) (by decide +kernel)⟩
theorem lw_p35 : lw_okq (⟨"LieBridgesModel", "layWay", "(II)Z"⟩, 22) := ⟨⟨by decide +kernel, by decide +kernel⟩, List.mem_of_getElem? (i := 511) (by decide +kernel), List.mem_of_getElem? (i := 702) (by decide +kernel), List.mem_of_getElem? (i := 703) (by decide +kernel)⟩
theorem lw_p36 : lw_okq (⟨"LieBridgesModel", "plankOf", "(III)I"⟩, 22) := ⟨⟨by decide +kernel, by decide +kernel⟩, List.mem_of_getElem? (i := 511) (by decide +kernel), List.mem_of_getElem? (i := 706) (by decide +kernel), List.mem_of_getElem? (i := 707) (by decide +kernel)⟩
theorem lw_p37 : lw_okq (⟨"LieBridgesModel", "toAll", "(IIZ)V"⟩, 22) := ⟨⟨by decide +kernel, by decide +kernel⟩, List.mem_of_getElem? (i := 511) (by decide +kernel), List.mem_of_getElem? (i := 726) (by decide +kernel), List.mem_of_getElem? (i := 727) (by decide +kernel)⟩
theorem lw_p38 : lw_okq (⟨"LieBridgesModel", "laySafe", "(II)Z"⟩, 22) := ⟨⟨by decide +kernel, by decide +kernel⟩, List.mem_of_getElem? (i := 511) (by decide +kernel), List.mem_of_getElem? (i := 738) (by decide +kernel), List.mem_of_getElem? (i := 739) (by decide +kernel)⟩
def lw_privs_3 : List (MethodName × Nat) := [(⟨"LieBridgesModel", "over", "(II)I"⟩, 22), (⟨"LieBridgesModel", "layCosts", "(I)V"⟩, 22), (⟨"LieBridgesModel", "reached", "(I)I"⟩, 22), (⟨"LieBridgesModel", "layWay", "(II)Z"⟩, 22), (⟨"LieBridgesModel", "plankOf", "(III)I"⟩, 22), (⟨"LieBridgesModel", "toAll", "(IIZ)V"⟩, 22), (⟨"LieBridgesModel", "laySafe", "(II)Z"⟩, 22)]
theorem lw_r3 : ∀ q ∈ lw_privs_3, lw_okq q := List.forall_mem_cons.mpr ⟨lw_p32, List.forall_mem_cons.mpr ⟨lw_p33, List.forall_mem_cons.mpr ⟨lw_p34, List.forall_mem_cons.mpr ⟨lw_p35, List.forall_mem_cons.mpr ⟨lw_p36, List.forall_mem_cons.mpr ⟨lw_p37, List.forall_mem_cons.mpr ⟨lw_p38, fun _ h => absurd h List.not_mem_nil⟩⟩⟩⟩⟩⟩⟩
def lw_privs : List (MethodName × Nat) := lw_privs_1 ++ (lw_privs_2 ++ (lw_privs_3))
def lw_tbl : List Cond := k2_sels lw_privs ++ tables_1
theorem lw_privs_ok : ∀ q ∈ lw_privs, lw_okq q := by
  show ∀ q ∈ lw_privs_1 ++ (lw_privs_2 ++ (lw_privs_3)), lw_okq q
  exact List.forall_mem_append.mpr ⟨lw_r1, List.forall_mem_append.mpr ⟨lw_r2, lw_r3⟩⟩
end
section
/-! ===== BEGIN words of one list among another's, by their places ===== -/
theorem goodIn_r {big : List Cond} (ws : List Cond) (ps : List Nat) (hp : ws = ps.filterMap (fun i => big[i]?)) (h : ws.all goodWord = true) : GoodIn big ws := by
  intro w hw
  have h1 := List.all_eq_true.mp h w hw
  rw [hp] at hw
  obtain ⟨i, -, hi⟩ := List.mem_filterMap.mp hw
  have hm : w ∈ big := by first | exact List.mem_of_getElem? hi | exact List.getElem?_mem hi
  exact ⟨hm, good_of_word h1⟩
theorem goodIn_app {big a b : List Cond} (ha : GoodIn big a) (hb : GoodIn big b) : GoodIn big (a ++ b) := fun w h => (List.mem_append.mp h).elim (ha w) (hb w)
theorem goodIn_ca {big a b : List Cond} {c : Cond} (ha : GoodIn big (c :: a)) (hb : GoodIn big b) : GoodIn big (c :: (a ++ b)) := fun w h => (List.mem_cons.mp h).elim (fun e => ha w (List.mem_cons.mpr (Or.inl e))) (fun h => (List.mem_append.mp h).elim (fun h => ha w (List.mem_cons.mpr (Or.inr h))) (hb w))
theorem goodIn_sub {big ws : List Cond} (hm : ∀ w ∈ ws, w ∈ big) (h : ws.all goodWord = true) : GoodIn big ws := fun w hw => ⟨hm w hw, good_of_word (List.all_eq_true.mp h w hw)⟩
/-! ===== END ===== -/

/-! ===== BEGIN printed: names, fields, word lists, decode rows ===== -/
def RX0 : String := "LieBridges$Beliefs"
def TX0 : u_T := fun k => match k with
  | _ => ("LieBridges$Beliefs", "days", "[I", true)
def tyX0 : Nat → FieldType := fun k => match k with
  | _ => .array .int
abbrev wsX00 : List Cond := u_ws RX0 TX0 1
theorem nmX0 : ∀ a, a < 1 → ∀ b, b < 1 → a ≠ b → (TX0 a).2.1 ≠ (TX0 b).2.1 := by decide +kernel
theorem tyX0_ok : ∀ k, k < 1 → parseFieldDescriptor (TX0 k).2.2.1 = some (tyX0 k) := by decide +kernel
abbrev cX0_init : ByteArray := prog_2_method_1_code
def yX0_init : MethodName := ⟨RX0, "<init>", "()V"⟩
abbrev cX0_of : ByteArray := prog_2_method_2_code
def yX0_of : MethodName := ⟨RX0, "of", "(II)I"⟩
abbrev cX0_set : ByteArray := prog_2_method_3_code
def yX0_set : MethodName := ⟨RX0, "set", "(III)V"⟩
abbrev cX0_load : ByteArray := prog_2_method_4_code
def yX0_load : MethodName := ⟨RX0, "load", "(II)I"⟩
abbrev cX0_fadeADay : ByteArray := prog_2_method_5_code
def yX0_fadeADay : MethodName := ⟨RX0, "fadeADay", "()V"⟩
abbrev cX0_become : ByteArray := prog_2_method_6_code
def yX0_become : MethodName := ⟨RX0, "become", "(LLieBridges$Beliefs;)V"⟩
def RX1 : String := "LieBridges$Delta"
def TX1 : u_T := fun k => match k with
  | 0 => ("LieBridges$Delta", "lessers", "[I", true)
  | 1 => ("LieBridges$Delta", "greaters", "[I", true)
  | 2 => ("LieBridges$Delta", "layers", "[I", true)
  | 3 => ("LieBridges$Delta", "holds", "[I", true)
  | 4 => ("LieBridges$Delta", "trusted", "[I", true)
  | 5 => ("LieBridges$Delta", "known", "[I", true)
  | 6 => ("LieBridges$Delta", "sightPlanks", "[I", true)
  | 7 => ("LieBridges$Delta", "sightLoads", "[I", true)
  | 8 => ("LieBridges$Delta", "beliefs", "LLieBridges$Beliefs;", true)
  | 9 => ("LieBridges$Delta", "fadeDays", "I", false)
  | _ => ("LieBridges$Delta", "sights", "I", false)
def tyX1 : Nat → FieldType := fun k => match k with
  | 0 => .array .int
  | 1 => .array .int
  | 2 => .array .int
  | 3 => .array .int
  | 4 => .array .int
  | 5 => .array .int
  | 6 => .array .int
  | 7 => .array .int
  | 8 => .object "LieBridges$Beliefs"
  | 9 => .int
  | _ => .int
abbrev wsX10 : List Cond := u_ws RX1 TX1 11
theorem nmX1 : ∀ a, a < 11 → ∀ b, b < 11 → a ≠ b → (TX1 a).2.1 ≠ (TX1 b).2.1 := by decide +kernel
theorem tyX1_ok : ∀ k, k < 11 → parseFieldDescriptor (TX1 k).2.2.1 = some (tyX1 k) := by decide +kernel
abbrev cX1_init : ByteArray := prog_3_method_1_code
def yX1_init : MethodName := ⟨RX1, "<init>", "()V"⟩
abbrev cX1_lay : ByteArray := prog_3_method_2_code
def yX1_lay : MethodName := ⟨RX1, "lay", "(IIII)V"⟩
abbrev cX1_mayTell : ByteArray := prog_3_method_3_code
def yX1_mayTell : MethodName := ⟨RX1, "mayTell", "(LLieBridges$Beliefs;II)Z"⟩
abbrev cX1_tell : ByteArray := prog_3_method_4_code
def yX1_tell : MethodName := ⟨RX1, "tell", "(LLieBridges$Beliefs;III)Z"⟩
abbrev cX1_deny : ByteArray := prog_3_method_5_code
def yX1_deny : MethodName := ⟨RX1, "deny", "(LLieBridges$Beliefs;III)Z"⟩
abbrev cX1_across : ByteArray := prog_3_method_6_code
def yX1_across : MethodName := ⟨RX1, "across", "(II)I"⟩
abbrev cX1_become : ByteArray := prog_3_method_7_code
def yX1_become : MethodName := ⟨RX1, "become", "(LLieBridges$Delta;)V"⟩
def RX2 : String := "LieBridges$Pad"
def TX2 : u_T := fun k => match k with
  | 0 => ("LieBridges$Pad", "signs", "[I", true)
  | 1 => ("LieBridges$Pad", "many", "I", false)
  | 2 => ("LieBridges$Pad", "kinds", "[I", true)
  | 3 => ("LieBridges$Pad", "speakers", "[I", true)
  | 4 => ("LieBridges$Pad", "hearers", "[I", true)
  | 5 => ("LieBridges$Pad", "planks", "[I", true)
  | 6 => ("LieBridges$Pad", "parts", "I", false)
  | _ => ("LieBridges$Pad", "asked", "I", false)
def tyX2 : Nat → FieldType := fun k => match k with
  | 0 => .array .int
  | 1 => .int
  | 2 => .array .int
  | 3 => .array .int
  | 4 => .array .int
  | 5 => .array .int
  | 6 => .int
  | _ => .int
abbrev wsX20 : List Cond := u_ws RX2 TX2 8
theorem nmX2 : ∀ a, a < 8 → ∀ b, b < 8 → a ≠ b → (TX2 a).2.1 ≠ (TX2 b).2.1 := by decide +kernel
theorem tyX2_ok : ∀ k, k < 8 → parseFieldDescriptor (TX2 k).2.2.1 = some (tyX2 k) := by decide +kernel
abbrev cX2_init : ByteArray := prog_4_method_1_code
def yX2_init : MethodName := ⟨RX2, "<init>", "()V"⟩
abbrev cX2_add : ByteArray := prog_4_method_2_code
def yX2_add : MethodName := ⟨RX2, "add", "(I)Z"⟩
abbrev cX2_clear : ByteArray := prog_4_method_3_code
def yX2_clear : MethodName := ⟨RX2, "clear", "()V"⟩
abbrev cX2_read : ByteArray := prog_4_method_4_code
def yX2_read : MethodName := ⟨RX2, "read", "()I"⟩
abbrev cX2_take : ByteArray := prog_4_method_5_code
def yX2_take : MethodName := ⟨RX2, "take", "(II)I"⟩
abbrev cX2_takeDay : ByteArray := prog_4_method_6_code
def yX2_takeDay : MethodName := ⟨RX2, "takeDay", "()I"⟩
abbrev cX2_takeSpeaker : ByteArray := prog_4_method_7_code
def yX2_takeSpeaker : MethodName := ⟨RX2, "takeSpeaker", "(I)I"⟩
abbrev cX2_takeHearer : ByteArray := prog_4_method_8_code
def yX2_takeHearer : MethodName := ⟨RX2, "takeHearer", "(I)I"⟩
abbrev cX2_takeDenial : ByteArray := prog_4_method_9_code
def yX2_takeDenial : MethodName := ⟨RX2, "takeDenial", "()I"⟩
abbrev cX2_takePlank : ByteArray := prog_4_method_10_code
def yX2_takePlank : MethodName := ⟨RX2, "takePlank", "(I)I"⟩
def RX3 : String := "LieBridges$Ways"
def TX3 : u_T := fun k => match k with
  | 0 => ("LieBridges$Ways", "weights", "[I", true)
  | 1 => ("LieBridges$Ways", "trodden", "[I", true)
  | 2 => ("LieBridges$Ways", "best", "[I", true)
  | 3 => ("LieBridges$Ways", "likeliest", "Z", false)
  | 4 => ("LieBridges$Ways", "goal", "I", false)
  | 5 => ("LieBridges$Ways", "length", "I", false)
  | _ => ("LieBridges$Ways", "worth", "J", false)
def tyX3 : Nat → FieldType := fun k => match k with
  | 0 => .array .int
  | 1 => .array .int
  | 2 => .array .int
  | 3 => .boolean
  | 4 => .int
  | 5 => .int
  | _ => .long
abbrev wsX30 : List Cond := u_ws RX3 TX3 7
theorem nmX3 : ∀ a, a < 7 → ∀ b, b < 7 → a ≠ b → (TX3 a).2.1 ≠ (TX3 b).2.1 := by decide +kernel
theorem tyX3_ok : ∀ k, k < 7 → parseFieldDescriptor (TX3 k).2.2.1 = some (tyX3 k) := by decide +kernel
abbrev cX3_init : ByteArray := prog_5_method_1_code
def yX3_init : MethodName := ⟨RX3, "<init>", "()V"⟩
abbrev cX3_weigh : ByteArray := prog_5_method_2_code
def yX3_weigh : MethodName := ⟨RX3, "weigh", "(II)V"⟩
abbrev cX3_findCheapest : ByteArray := prog_5_method_3_code
def yX3_findCheapest : MethodName := ⟨RX3, "findCheapest", "(LLieBridges$Delta;II)V"⟩
abbrev cX3_findLikeliest : ByteArray := prog_5_method_4_code
def yX3_findLikeliest : MethodName := ⟨RX3, "findLikeliest", "(LLieBridges$Delta;II)V"⟩
abbrev cX3_found : ByteArray := prog_5_method_5_code
def yX3_found : MethodName := ⟨RX3, "found", "()Z"⟩
abbrev cX3_step : ByteArray := prog_5_method_6_code
def yX3_step : MethodName := ⟨RX3, "step", "(I)I"⟩
abbrev cX3_find : ByteArray := prog_5_method_7_code
def yX3_find : MethodName := ⟨RX3, "find", "(LLieBridges$Delta;IIJ)V"⟩
abbrev cX3_walk : ByteArray := prog_5_method_8_code
def yX3_walk : MethodName := ⟨RX3, "walk", "(LLieBridges$Delta;IIIJ)V"⟩
abbrev cX3_tread : ByteArray := prog_5_method_9_code
def yX3_tread : MethodName := ⟨RX3, "tread", "(LLieBridges$Delta;IIIIJ)V"⟩
abbrev cX3_keepIfBetter : ByteArray := prog_5_method_10_code
def yX3_keepIfBetter : MethodName := ⟨RX3, "keepIfBetter", "(IJ)V"⟩
def RX4 : String := "LieBridges"
def TX4 : u_T := fun k => match k with
  | 0 => ("LieBridges", "now", "LLieBridges$Delta;", true)
  | 1 => ("LieBridges", "images", "[LLieBridges$Delta;", true)
  | 2 => ("LieBridges", "pad", "LLieBridges$Pad;", true)
  | 3 => ("LieBridges", "ways", "LLieBridges$Ways;", true)
  | 4 => ("LieBridges", "trial", "LLieBridges$Beliefs;", true)
  | 5 => ("LieBridges", "guesses", "[I", true)
  | _ => ("LieBridges", "route", "[I", true)
def tyX4 : Nat → FieldType := fun k => match k with
  | 0 => .object "LieBridges$Delta"
  | 1 => .array (.object "LieBridges$Delta")
  | 2 => .object "LieBridges$Pad"
  | 3 => .object "LieBridges$Ways"
  | 4 => .object "LieBridges$Beliefs"
  | 5 => .array .int
  | _ => .array .int
abbrev wsX40 : List Cond := u_ws RX4 TX4 7
theorem nmX4 : ∀ a, a < 7 → ∀ b, b < 7 → a ≠ b → (TX4 a).2.1 ≠ (TX4 b).2.1 := by decide +kernel
theorem tyX4_ok : ∀ k, k < 7 → parseFieldDescriptor (TX4 k).2.2.1 = some (tyX4 k) := by decide +kernel
abbrev cX4_init : ByteArray := prog_1_method_1_code
def yX4_init : MethodName := ⟨RX4, "<init>", "()V"⟩
abbrev cX4_plank : ByteArray := prog_1_method_2_code
def yX4_plank : MethodName := ⟨RX4, "plank", "(IIII)I"⟩
abbrev cX4_trust : ByteArray := prog_1_method_3_code
def yX4_trust : MethodName := ⟨RX4, "trust", "(IIZ)I"⟩
abbrev cX4_know : ByteArray := prog_1_method_4_code
def yX4_know : MethodName := ⟨RX4, "know", "(IIZ)I"⟩
abbrev cX4_fade : ByteArray := prog_1_method_5_code
def yX4_fade : MethodName := ⟨RX4, "fade", "(I)I"⟩
abbrev cX4_say : ByteArray := prog_1_method_6_code
def yX4_say : MethodName := ⟨RX4, "say", "(I)I"⟩
abbrev cX4_wipe : ByteArray := prog_1_method_7_code
def yX4_wipe : MethodName := ⟨RX4, "wipe", "()I"⟩
abbrev cX4_fault : ByteArray := prog_1_method_8_code
def yX4_fault : MethodName := ⟨RX4, "fault", "()I"⟩
abbrev cX4_vain : ByteArray := prog_1_method_9_code
def yX4_vain : MethodName := ⟨RX4, "vain", "(I)I"⟩
abbrev cX4_done : ByteArray := prog_1_method_10_code
def yX4_done : MethodName := ⟨RX4, "done", "()I"⟩
abbrev cX4_bears : ByteArray := prog_1_method_11_code
def yX4_bears : MethodName := ⟨RX4, "bears", "(II)I"⟩
abbrev cX4_behind : ByteArray := prog_1_method_12_code
def yX4_behind : MethodName := ⟨RX4, "behind", "(II)I"⟩
abbrev cX4_falls : ByteArray := prog_1_method_13_code
def yX4_falls : MethodName := ⟨RX4, "falls", "(IIIII)I"⟩
abbrev cX4_tellings : ByteArray := prog_1_method_14_code
def yX4_tellings : MethodName := ⟨RX4, "tellings", "(IIII)I"⟩
abbrev cX4_stands : ByteArray := prog_1_method_15_code
def yX4_stands : MethodName := ⟨RX4, "stands", "(III)I"⟩
abbrev cX4_word : ByteArray := prog_1_method_16_code
def yX4_word : MethodName := ⟨RX4, "word", "(I)I"⟩
abbrev cX4_rumour : ByteArray := prog_1_method_17_code
def yX4_rumour : MethodName := ⟨RX4, "rumour", "(II)I"⟩
abbrev cX4_odds : ByteArray := prog_1_method_18_code
def yX4_odds : MethodName := ⟨RX4, "odds", "(IIII)I"⟩
abbrev cX4_tenths : ByteArray := prog_1_method_19_code
def yX4_tenths : MethodName := ⟨RX4, "tenths", "(II)I"⟩
abbrev cX4_safe : ByteArray := prog_1_method_20_code
def yX4_safe : MethodName := ⟨RX4, "safe", "(III)I"⟩
abbrev cX4_chance : ByteArray := prog_1_method_21_code
def yX4_chance : MethodName := ⟨RX4, "chance", "(III)J"⟩
abbrev cX4_seen : ByteArray := prog_1_method_22_code
def yX4_seen : MethodName := ⟨RX4, "seen", "(II)I"⟩
abbrev cX4_forget : ByteArray := prog_1_method_23_code
def yX4_forget : MethodName := ⟨RX4, "forget", "()I"⟩
abbrev cX4_filled : ByteArray := prog_1_method_24_code
def yX4_filled : MethodName := ⟨RX4, "filled", "(I)I"⟩
abbrev cX4_year : ByteArray := prog_1_method_25_code
def yX4_year : MethodName := ⟨RX4, "year", "(III)I"⟩
abbrev cX4_image : ByteArray := prog_1_method_26_code
def yX4_image : MethodName := ⟨RX4, "image", "(I)I"⟩
abbrev cX4_restore : ByteArray := prog_1_method_27_code
def yX4_restore : MethodName := ⟨RX4, "restore", "(I)I"⟩
abbrev cX4_told : ByteArray := prog_1_method_28_code
def yX4_told : MethodName := ⟨RX4, "told", "(I)I"⟩
abbrev cX4_within : ByteArray := prog_1_method_29_code
def yX4_within : MethodName := ⟨RX4, "within", "(III)Z"⟩
abbrev cX4_isPerson : ByteArray := prog_1_method_30_code
def yX4_isPerson : MethodName := ⟨RX4, "isPerson", "(I)Z"⟩
abbrev cX4_isPersonOrAll : ByteArray := prog_1_method_31_code
def yX4_isPersonOrAll : MethodName := ⟨RX4, "isPersonOrAll", "(I)Z"⟩
abbrev cX4_isIsland : ByteArray := prog_1_method_32_code
def yX4_isIsland : MethodName := ⟨RX4, "isIsland", "(I)Z"⟩
abbrev cX4_isPlank : ByteArray := prog_1_method_33_code
def yX4_isPlank : MethodName := ⟨RX4, "isPlank", "(I)Z"⟩
abbrev cX4_isParty : ByteArray := prog_1_method_34_code
def yX4_isParty : MethodName := ⟨RX4, "isParty", "(I)Z"⟩
abbrev cX4_isChoice : ByteArray := prog_1_method_35_code
def yX4_isChoice : MethodName := ⟨RX4, "isChoice", "(I)Z"⟩
abbrev cX4_at : ByteArray := prog_1_method_36_code
def yX4_at : MethodName := ⟨RX4, "at", "([II)I"⟩
abbrev cX4_put : ByteArray := prog_1_method_37_code
def yX4_put : MethodName := ⟨RX4, "put", "([III)V"⟩
abbrev cX4_hasBit : ByteArray := prog_1_method_38_code
def yX4_hasBit : MethodName := ⟨RX4, "hasBit", "([III)Z"⟩
abbrev cX4_putBit : ByteArray := prog_1_method_39_code
def yX4_putBit : MethodName := ⟨RX4, "putBit", "([IIIZ)V"⟩
abbrev cX4_copy : ByteArray := prog_1_method_40_code
def yX4_copy : MethodName := ⟨RX4, "copy", "([I[I)V"⟩
abbrev cX4_sharedDivisor : ByteArray := prog_1_method_41_code
def yX4_sharedDivisor : MethodName := ⟨RX4, "sharedDivisor", "(JJ)J"⟩
abbrev cX4_refusalOfText : ByteArray := prog_1_method_42_code
def yX4_refusalOfText : MethodName := ⟨RX4, "refusalOfText", "()I"⟩
abbrev cX4_beliefOrLoad : ByteArray := prog_1_method_43_code
def yX4_beliefOrLoad : MethodName := ⟨RX4, "beliefOrLoad", "(LLieBridges$Beliefs;II)I"⟩
abbrev cX4_play : ByteArray := prog_1_method_44_code
def yX4_play : MethodName := ⟨RX4, "play", "(LLieBridges$Beliefs;)V"⟩
abbrev cX4_takesEffect : ByteArray := prog_1_method_45_code
def yX4_takesEffect : MethodName := ⟨RX4, "takesEffect", "(ILLieBridges$Beliefs;)Z"⟩
abbrev cX4_splitRoute : ByteArray := prog_1_method_46_code
def yX4_splitRoute : MethodName := ⟨RX4, "splitRoute", "(II)Z"⟩
abbrev cX4_tellToAll : ByteArray := prog_1_method_47_code
def yX4_tellToAll : MethodName := ⟨RX4, "tellToAll", "(LLieBridges$Beliefs;II)V"⟩
abbrev cX4_denyToAll : ByteArray := prog_1_method_48_code
def yX4_denyToAll : MethodName := ⟨RX4, "denyToAll", "(LLieBridges$Beliefs;II)I"⟩
abbrev cX4_spread : ByteArray := prog_1_method_49_code
def yX4_spread : MethodName := ⟨RX4, "spread", "(LLieBridges$Beliefs;I)V"⟩
abbrev cX4_tellingsFor : ByteArray := prog_1_method_50_code
def yX4_tellingsFor : MethodName := ⟨RX4, "tellingsFor", "(II)I"⟩
abbrev cX4_standsBehind : ByteArray := prog_1_method_51_code
def yX4_standsBehind : MethodName := ⟨RX4, "standsBehind", "(IIII)Z"⟩
abbrev cX4_findSafest : ByteArray := prog_1_method_52_code
def yX4_findSafest : MethodName := ⟨RX4, "findSafest", "(II)V"⟩
abbrev cX4_guess : ByteArray := prog_1_method_53_code
def yX4_guess : MethodName := ⟨RX4, "guess", "(I)V"⟩
abbrev cX4_fits : ByteArray := prog_1_method_54_code
def yX4_fits : MethodName := ⟨RX4, "fits", "()Z"⟩
def RX5 : String := "LieBridgesModel"
def TX5 : u_T := fun k => match k with
  | 0 => ("LieBridgesModel", "one", "[I", true)
  | 1 => ("LieBridgesModel", "two", "[I", true)
  | 2 => ("LieBridgesModel", "owner", "[I", true)
  | 3 => ("LieBridgesModel", "trusts", "[I", true)
  | 4 => ("LieBridgesModel", "knows", "[I", true)
  | 5 => ("LieBridgesModel", "days", "[I", true)
  | 6 => ("LieBridgesModel", "safety", "[I", true)
  | 7 => ("LieBridgesModel", "fade", "I", false)
  | 8 => ("LieBridgesModel", "sights", "I", false)
  | 9 => ("LieBridgesModel", "sight", "[I", true)
  | 10 => ("LieBridgesModel", "signs", "I", false)
  | 11 => ("LieBridgesModel", "pad", "[I", true)
  | 12 => ("LieBridgesModel", "now", "[I", true)
  | 13 => ("LieBridgesModel", "parts", "I", false)
  | 14 => ("LieBridgesModel", "vainAt", "I", false)
  | 15 => ("LieBridgesModel", "cost", "[I", true)
  | 16 => ("LieBridgesModel", "bestMany", "I", false)
  | 17 => ("LieBridgesModel", "bestCode", "I", false)
  | 18 => ("LieBridgesModel", "bestCost", "I", false)
  | 19 => ("LieBridgesModel", "safeUp", "I", false)
  | 20 => ("LieBridgesModel", "image", "[I", true)
  | _ => ("LieBridgesModel", "isKept", "[Z", true)
def tyX5 : Nat → FieldType := fun k => match k with
  | 0 => .array .int
  | 1 => .array .int
  | 2 => .array .int
  | 3 => .array .int
  | 4 => .array .int
  | 5 => .array .int
  | 6 => .array .int
  | 7 => .int
  | 8 => .int
  | 9 => .array .int
  | 10 => .int
  | 11 => .array .int
  | 12 => .array .int
  | 13 => .int
  | 14 => .int
  | 15 => .array .int
  | 16 => .int
  | 17 => .int
  | 18 => .int
  | 19 => .int
  | 20 => .array .int
  | _ => .array .boolean
abbrev wsX50 : List Cond := u_ws RX5 TX5 22
theorem nmX5 : ∀ a, a < 22 → ∀ b, b < 22 → a ≠ b → (TX5 a).2.1 ≠ (TX5 b).2.1 := by decide +kernel
theorem tyX5_ok : ∀ k, k < 22 → parseFieldDescriptor (TX5 k).2.2.1 = some (tyX5 k) := by decide +kernel
abbrev cX5_init : ByteArray := prog_7_method_1_code
def yX5_init : MethodName := ⟨RX5, "<init>", "()V"⟩
abbrev cX5_in : ByteArray := prog_7_method_2_code
def yX5_in : MethodName := ⟨RX5, "in", "(III)Z"⟩
abbrev cX5_has : ByteArray := prog_7_method_3_code
def yX5_has : MethodName := ⟨RX5, "has", "(II)Z"⟩
abbrev cX5_is6 : ByteArray := prog_7_method_4_code
def yX5_is6 : MethodName := ⟨RX5, "is6", "(I)Z"⟩
abbrev cX5_plank : ByteArray := prog_7_method_5_code
def yX5_plank : MethodName := ⟨RX5, "plank", "(IIII)I"⟩
abbrev cX5_trust : ByteArray := prog_7_method_6_code
def yX5_trust : MethodName := ⟨RX5, "trust", "(IIZ)I"⟩
abbrev cX5_know : ByteArray := prog_7_method_7_code
def yX5_know : MethodName := ⟨RX5, "know", "(IIZ)I"⟩
abbrev cX5_fade : ByteArray := prog_7_method_8_code
def yX5_fade : MethodName := ⟨RX5, "fade", "(I)I"⟩
abbrev cX5_say : ByteArray := prog_7_method_9_code
def yX5_say : MethodName := ⟨RX5, "say", "(I)I"⟩
abbrev cX5_wipe : ByteArray := prog_7_method_10_code
def yX5_wipe : MethodName := ⟨RX5, "wipe", "()I"⟩
abbrev cX5_faultOf : ByteArray := prog_7_method_11_code
def yX5_faultOf : MethodName := ⟨RX5, "faultOf", "()I"⟩
abbrev cX5_fault : ByteArray := prog_7_method_12_code
def yX5_fault : MethodName := ⟨RX5, "fault", "()I"⟩
abbrev cX5_opens : ByteArray := prog_7_method_13_code
def yX5_opens : MethodName := ⟨RX5, "opens", "()I"⟩
abbrev cX5_asNow : ByteArray := prog_7_method_14_code
def yX5_asNow : MethodName := ⟨RX5, "asNow", "()V"⟩
abbrev cX5_tells : ByteArray := prog_7_method_15_code
def yX5_tells : MethodName := ⟨RX5, "tells", "(III)Z"⟩
abbrev cX5_denies : ByteArray := prog_7_method_16_code
def yX5_denies : MethodName := ⟨RX5, "denies", "(III)Z"⟩
abbrev cX5_pass : ByteArray := prog_7_method_17_code
def yX5_pass : MethodName := ⟨RX5, "pass", "()V"⟩
abbrev cX5_bornBy : ByteArray := prog_7_method_18_code
def yX5_bornBy : MethodName := ⟨RX5, "bornBy", "(I)I"⟩
abbrev cX5_goText : ByteArray := prog_7_method_19_code
def yX5_goText : MethodName := ⟨RX5, "goText", "(II)I"⟩
abbrev cX5_barOfText : ByteArray := prog_7_method_20_code
def yX5_barOfText : MethodName := ⟨RX5, "barOfText", "()I"⟩
abbrev cX5_vain : ByteArray := prog_7_method_21_code
def yX5_vain : MethodName := ⟨RX5, "vain", "(I)I"⟩
abbrev cX5_done : ByteArray := prog_7_method_22_code
def yX5_done : MethodName := ⟨RX5, "done", "()I"⟩
abbrev cX5_beliefOf : ByteArray := prog_7_method_23_code
def yX5_beliefOf : MethodName := ⟨RX5, "beliefOf", "(III)I"⟩
abbrev cX5_bears : ByteArray := prog_7_method_24_code
def yX5_bears : MethodName := ⟨RX5, "bears", "(II)I"⟩
abbrev cX5_behind : ByteArray := prog_7_method_25_code
def yX5_behind : MethodName := ⟨RX5, "behind", "(II)I"⟩
abbrev cX5_powerOf : ByteArray := prog_7_method_26_code
def yX5_powerOf : MethodName := ⟨RX5, "powerOf", "(II)I"⟩
abbrev cX5_over : ByteArray := prog_7_method_27_code
def yX5_over : MethodName := ⟨RX5, "over", "(II)I"⟩
abbrev cX5_falls : ByteArray := prog_7_method_28_code
def yX5_falls : MethodName := ⟨RX5, "falls", "(IIIII)I"⟩
abbrev cX5_plankOf : ByteArray := prog_7_method_29_code
def yX5_plankOf : MethodName := ⟨RX5, "plankOf", "(III)I"⟩
abbrev cX5_layWay : ByteArray := prog_7_method_30_code
def yX5_layWay : MethodName := ⟨RX5, "layWay", "(II)Z"⟩
abbrev cX5_reached : ByteArray := prog_7_method_31_code
def yX5_reached : MethodName := ⟨RX5, "reached", "(I)I"⟩
abbrev cX5_layCosts : ByteArray := prog_7_method_32_code
def yX5_layCosts : MethodName := ⟨RX5, "layCosts", "(I)V"⟩
abbrev cX5_tellings : ByteArray := prog_7_method_33_code
def yX5_tellings : MethodName := ⟨RX5, "tellings", "(IIII)I"⟩
abbrev cX5_stands : ByteArray := prog_7_method_34_code
def yX5_stands : MethodName := ⟨RX5, "stands", "(III)I"⟩
abbrev cX5_word : ByteArray := prog_7_method_35_code
def yX5_word : MethodName := ⟨RX5, "word", "(I)I"⟩
abbrev cX5_rumour : ByteArray := prog_7_method_36_code
def yX5_rumour : MethodName := ⟨RX5, "rumour", "(II)I"⟩
abbrev cX5_toAll : ByteArray := prog_7_method_37_code
def yX5_toAll : MethodName := ⟨RX5, "toAll", "(IIZ)V"⟩
abbrev cX5_odds : ByteArray := prog_7_method_38_code
def yX5_odds : MethodName := ⟨RX5, "odds", "(IIII)I"⟩
abbrev cX5_tenths : ByteArray := prog_7_method_39_code
def yX5_tenths : MethodName := ⟨RX5, "tenths", "(II)I"⟩
abbrev cX5_laySafe : ByteArray := prog_7_method_40_code
def yX5_laySafe : MethodName := ⟨RX5, "laySafe", "(II)Z"⟩
abbrev cX5_safe : ByteArray := prog_7_method_41_code
def yX5_safe : MethodName := ⟨RX5, "safe", "(III)I"⟩
abbrev cX5_chance : ByteArray := prog_7_method_42_code
def yX5_chance : MethodName := ⟨RX5, "chance", "(III)J"⟩
abbrev cX5_seen : ByteArray := prog_7_method_43_code
def yX5_seen : MethodName := ⟨RX5, "seen", "(II)I"⟩
abbrev cX5_forget : ByteArray := prog_7_method_44_code
def yX5_forget : MethodName := ⟨RX5, "forget", "()I"⟩
abbrev cX5_filled : ByteArray := prog_7_method_45_code
def yX5_filled : MethodName := ⟨RX5, "filled", "(I)I"⟩
abbrev cX5_year : ByteArray := prog_7_method_46_code
def yX5_year : MethodName := ⟨RX5, "year", "(III)I"⟩
abbrev cX5_image : ByteArray := prog_7_method_47_code
def yX5_image : MethodName := ⟨RX5, "image", "(I)I"⟩
abbrev cX5_restore : ByteArray := prog_7_method_48_code
def yX5_restore : MethodName := ⟨RX5, "restore", "(I)I"⟩
abbrev cX5_told : ByteArray := prog_7_method_49_code
def yX5_told : MethodName := ⟨RX5, "told", "(I)I"⟩
def RL : String := "LieBridgesLaw"
abbrev cL_law : ByteArray := code
def yL_law : MethodName := ⟨RL, "law", "([I)Z"⟩
def wsX0_init : List Cond := .code yX0_init cX0_init 1 none :: ([.methodLink RX0 3 objectInit, .instanceMethod objectInit, .code objectInit ⟨#[0xb1]⟩ 1 none, .arrayClass .int, .fieldLink RX0 9 "LieBridges$Beliefs" "days" "[I"] ++ wsX00)
def wsX0_of : List Cond := .code yX0_of cX0_of 4 (some .int) :: ([.fieldLink RX0 9 "LieBridges$Beliefs" "days" "[I"] ++ wsX00)
def wsX4_put : List Cond := .code yX4_put cX4_put 3 none :: ([])
def wsX0_set : List Cond := .code yX0_set cX0_set 4 none :: ([.fieldLink RX0 9 "LieBridges$Beliefs" "days" "[I", .static yX4_put, .initialized RX4, .code yX4_put cX4_put 3 none] ++ wsX00)
def wsX0_load : List Cond := .code yX0_load cX0_load 5 (some .int) :: ([.methodLink RX0 19 yX0_of, .instanceMethod yX0_of, .selects RX0 yX0_of yX0_of, .initialized RX0, .code yX0_of cX0_of 4 (some .int), .fieldLink RX0 9 "LieBridges$Beliefs" "days" "[I"] ++ wsX00)
def wsX0_fadeADay : List Cond := .code yX0_fadeADay cX0_fadeADay 2 none :: ([.fieldLink RX0 9 "LieBridges$Beliefs" "days" "[I"] ++ wsX00)
def wsX4_at : List Cond := .code yX4_at cX4_at 2 (some .int) :: ([])
def wsX4_copy : List Cond := .code yX4_copy cX4_copy 3 none :: ([.methodLink RX4 134 yX4_at, .static yX4_at, .initialized RX4, .code yX4_at cX4_at 2 (some .int)])
def wsX0_become : List Cond := .code yX0_become cX0_become 2 none :: ([.fieldLink RX0 9 "LieBridges$Beliefs" "days" "[I", .static yX4_copy, .initialized RX4, .code yX4_copy cX4_copy 3 none, .methodLink RX4 134 yX4_at, .static yX4_at, .code yX4_at cX4_at 2 (some .int)] ++ wsX00)
def wsX4_putBit : List Cond := .code yX4_putBit cX4_putBit 5 none :: ([.methodLink RX4 134 yX4_at, .static yX4_at, .initialized RX4, .code yX4_at cX4_at 2 (some .int), .methodLink RX4 189 yX4_put, .static yX4_put, .code yX4_put cX4_put 3 none])
def wsX1_lay : List Cond := .code yX1_lay cX1_lay 6 none :: ([.fieldLink RX1 9 "LieBridges$Delta" "lessers" "[I", .fieldLink RX1 15 "LieBridges$Delta" "greaters" "[I", .fieldLink RX1 18 "LieBridges$Delta" "layers" "[I", .fieldLink RX1 39 "LieBridges$Delta" "beliefs" "LLieBridges$Beliefs;", .fieldLink RX1 27 "LieBridges$Delta" "known" "[I", .static yX4_put, .initialized RX4, .code yX4_put cX4_put 3 none, .methodLink RX1 55 yX0_set, .instanceMethod yX0_set, .selects RX0 yX0_set yX0_set, .initialized RX0, .code yX0_set cX0_set 4 none, .fieldLink RX0 9 "LieBridges$Beliefs" "days" "[I", .static yX4_putBit, .code yX4_putBit cX4_putBit 5 none, .methodLink RX4 134 yX4_at, .static yX4_at, .code yX4_at cX4_at 2 (some .int), .methodLink RX4 189 yX4_put] ++ wsX10 ++ wsX00)
def wsX1_init_r1 : List Cond := [Cond.methodLink RX1 3 objectInit, Cond.instanceMethod objectInit, Cond.code objectInit ⟨#[0xb1]⟩ 1 none, Cond.arrayClass .int, Cond.fieldLink RX1 9 "LieBridges$Delta" "lessers" "[I", Cond.fieldLink RX1 15 "LieBridges$Delta" "greaters" "[I", Cond.fieldLink RX1 18 "LieBridges$Delta" "layers" "[I", Cond.fieldLink RX1 21 "LieBridges$Delta" "holds" "[I", Cond.fieldLink RX1 24 "LieBridges$Delta" "trusted" "[I", Cond.fieldLink RX1 27 "LieBridges$Delta" "known" "[I", Cond.fieldLink RX1 30 "LieBridges$Delta" "sightPlanks" "[I", Cond.fieldLink RX1 33 "LieBridges$Delta" "sightLoads" "[I", Cond.classLink RX1 36 RX0, Cond.instantiable RX0 1, Cond.initialized RX0, Cond.fieldLink RX1 39 "LieBridges$Delta" "beliefs" "LLieBridges$Beliefs;", Cond.fieldLink RX1 43 "LieBridges$Delta" "fadeDays" "I", Cond.instanceMethod yX0_init, Cond.code yX0_init cX0_init 1 none, Cond.methodLink RX0 3 objectInit, Cond.fieldLink RX0 9 "LieBridges$Beliefs" "days" "[I", Cond.methodLink RX1 47 yX1_lay, Cond.instanceMethod yX1_lay, Cond.selects RX1 yX1_lay yX1_lay]
def wsX1_init_r2 : List Cond := [Cond.initialized RX1, Cond.code yX1_lay cX1_lay 6 none, Cond.static yX4_put, Cond.initialized RX4, Cond.code yX4_put cX4_put 3 none, Cond.methodLink RX1 55 yX0_set, Cond.instanceMethod yX0_set, Cond.selects RX0 yX0_set yX0_set, Cond.code yX0_set cX0_set 4 none, Cond.static yX4_putBit, Cond.code yX4_putBit cX4_putBit 5 none, Cond.methodLink RX4 134 yX4_at, Cond.static yX4_at, Cond.code yX4_at cX4_at 2 (some .int), Cond.methodLink RX4 189 yX4_put]
def wsX1_init : List Cond := .code yX1_init cX1_init 2 none :: ((wsX1_init_r1 ++ wsX1_init_r2) ++ wsX10 ++ wsX00)
def wsX1_mayTell : List Cond := .code yX1_mayTell cX1_mayTell 4 (some .boolean) :: ([.fieldLink RX1 18 "LieBridges$Delta" "layers" "[I", .static yX4_at, .initialized RX4, .code yX4_at cX4_at 2 (some .int), .methodLink RX1 67 yX0_of, .instanceMethod yX0_of, .selects RX0 yX0_of yX0_of, .initialized RX0, .code yX0_of cX0_of 4 (some .int), .fieldLink RX0 9 "LieBridges$Beliefs" "days" "[I"] ++ wsX10 ++ wsX00)
def wsX4_hasBit : List Cond := .code yX4_hasBit cX4_hasBit 3 (some .boolean) :: ([.methodLink RX4 134 yX4_at, .static yX4_at, .initialized RX4, .code yX4_at cX4_at 2 (some .int)])
def wsX1_tell_r1 : List Cond := [Cond.fieldLink RX1 24 "LieBridges$Delta" "trusted" "[I", Cond.fieldLink RX1 18 "LieBridges$Delta" "layers" "[I", Cond.fieldLink RX1 27 "LieBridges$Delta" "known" "[I", Cond.fieldLink RX1 43 "LieBridges$Delta" "fadeDays" "I", Cond.methodLink RX1 71 yX1_mayTell, Cond.instanceMethod yX1_mayTell, Cond.selects RX1 yX1_mayTell yX1_mayTell, Cond.initialized RX1, Cond.code yX1_mayTell cX1_mayTell 4 (some .boolean), Cond.static yX4_at, Cond.initialized RX4, Cond.code yX4_at cX4_at 2 (some .int), Cond.methodLink RX1 67 yX0_of, Cond.instanceMethod yX0_of, Cond.selects RX0 yX0_of yX0_of, Cond.initialized RX0, Cond.code yX0_of cX0_of 4 (some .int), Cond.fieldLink RX0 9 "LieBridges$Beliefs" "days" "[I", Cond.static yX4_hasBit, Cond.code yX4_hasBit cX4_hasBit 3 (some .boolean), Cond.methodLink RX4 134 yX4_at, Cond.methodLink RX1 55 yX0_set, Cond.instanceMethod yX0_set, Cond.selects RX0 yX0_set yX0_set]
def wsX1_tell_r2 : List Cond := [Cond.code yX0_set cX0_set 4 none, Cond.static yX4_put, Cond.code yX4_put cX4_put 3 none]
def wsX1_tell : List Cond := .code yX1_tell cX1_tell 6 (some .boolean) :: ((wsX1_tell_r1 ++ wsX1_tell_r2) ++ wsX10 ++ wsX00)
def wsX1_deny : List Cond := .code yX1_deny cX1_deny 6 (some .boolean) :: ([.fieldLink RX1 24 "LieBridges$Delta" "trusted" "[I", .static yX4_hasBit, .initialized RX4, .code yX4_hasBit cX4_hasBit 3 (some .boolean), .methodLink RX4 134 yX4_at, .static yX4_at, .code yX4_at cX4_at 2 (some .int), .methodLink RX1 67 yX0_of, .instanceMethod yX0_of, .selects RX0 yX0_of yX0_of, .initialized RX0, .code yX0_of cX0_of 4 (some .int), .fieldLink RX0 9 "LieBridges$Beliefs" "days" "[I", .methodLink RX1 55 yX0_set, .instanceMethod yX0_set, .selects RX0 yX0_set yX0_set, .code yX0_set cX0_set 4 none, .static yX4_put, .code yX4_put cX4_put 3 none] ++ wsX10 ++ wsX00)
def wsX4_within : List Cond := .code yX4_within cX4_within 3 (some .boolean) :: ([])
def wsX4_isPlank : List Cond := .code yX4_isPlank cX4_isPlank 1 (some .boolean) :: ([.methodLink RX4 79 yX4_within, .static yX4_within, .initialized RX4, .code yX4_within cX4_within 3 (some .boolean)])
def wsX1_across : List Cond := .code yX1_across cX1_across 3 (some .int) :: ([.fieldLink RX1 9 "LieBridges$Delta" "lessers" "[I", .fieldLink RX1 15 "LieBridges$Delta" "greaters" "[I", .static yX4_isPlank, .initialized RX4, .code yX4_isPlank cX4_isPlank 1 (some .boolean), .methodLink RX4 79 yX4_within, .static yX4_within, .code yX4_within cX4_within 3 (some .boolean), .static yX4_at, .code yX4_at cX4_at 2 (some .int)] ++ wsX10)
def wsX1_become : List Cond := .code yX1_become cX1_become 2 none :: ([.fieldLink RX1 9 "LieBridges$Delta" "lessers" "[I", .fieldLink RX1 15 "LieBridges$Delta" "greaters" "[I", .fieldLink RX1 18 "LieBridges$Delta" "layers" "[I", .fieldLink RX1 21 "LieBridges$Delta" "holds" "[I", .fieldLink RX1 24 "LieBridges$Delta" "trusted" "[I", .fieldLink RX1 27 "LieBridges$Delta" "known" "[I", .fieldLink RX1 30 "LieBridges$Delta" "sightPlanks" "[I", .fieldLink RX1 33 "LieBridges$Delta" "sightLoads" "[I", .fieldLink RX1 39 "LieBridges$Delta" "beliefs" "LLieBridges$Beliefs;", .fieldLink RX1 43 "LieBridges$Delta" "fadeDays" "I", .fieldLink RX1 91 "LieBridges$Delta" "sights" "I", .static yX4_copy, .initialized RX4, .code yX4_copy cX4_copy 3 none, .methodLink RX4 134 yX4_at, .static yX4_at, .code yX4_at cX4_at 2 (some .int), .methodLink RX1 87 yX0_become, .instanceMethod yX0_become, .selects RX0 yX0_become yX0_become, .initialized RX0, .code yX0_become cX0_become 2 none, .fieldLink RX0 9 "LieBridges$Beliefs" "days" "[I"] ++ wsX10 ++ wsX00)
def wsX2_init : List Cond := .code yX2_init cX2_init 1 none :: ([.methodLink RX2 3 objectInit, .instanceMethod objectInit, .code objectInit ⟨#[0xb1]⟩ 1 none, .arrayClass .int, .fieldLink RX2 9 "LieBridges$Pad" "signs" "[I", .fieldLink RX2 15 "LieBridges$Pad" "kinds" "[I", .fieldLink RX2 18 "LieBridges$Pad" "speakers" "[I", .fieldLink RX2 21 "LieBridges$Pad" "hearers" "[I", .fieldLink RX2 24 "LieBridges$Pad" "planks" "[I"] ++ wsX20)
def wsX2_add : List Cond := .code yX2_add cX2_add 2 (some .boolean) :: ([.fieldLink RX2 27 "LieBridges$Pad" "many" "I", .fieldLink RX2 9 "LieBridges$Pad" "signs" "[I", .static yX4_put, .initialized RX4, .code yX4_put cX4_put 3 none] ++ wsX20)
def wsX2_clear : List Cond := .code yX2_clear cX2_clear 1 none :: ([.fieldLink RX2 27 "LieBridges$Pad" "many" "I"] ++ wsX20)
def wsX2_takeDay : List Cond := .code yX2_takeDay cX2_takeDay 1 (some .int) :: ([.fieldLink RX2 15 "LieBridges$Pad" "kinds" "[I", .fieldLink RX2 35 "LieBridges$Pad" "parts" "I", .static yX4_put, .initialized RX4, .code yX4_put cX4_put 3 none] ++ wsX20)
def wsX4_isPerson : List Cond := .code yX4_isPerson cX4_isPerson 1 (some .boolean) :: ([.methodLink RX4 79 yX4_within, .static yX4_within, .initialized RX4, .code yX4_within cX4_within 3 (some .boolean)])
def wsX2_takeSpeaker : List Cond := .code yX2_takeSpeaker cX2_takeSpeaker 3 (some .int) :: ([.fieldLink RX2 38 "LieBridges$Pad" "asked" "I", .fieldLink RX2 15 "LieBridges$Pad" "kinds" "[I", .fieldLink RX2 35 "LieBridges$Pad" "parts" "I", .fieldLink RX2 18 "LieBridges$Pad" "speakers" "[I", .static yX4_isPerson, .initialized RX4, .code yX4_isPerson cX4_isPerson 1 (some .boolean), .methodLink RX4 79 yX4_within, .static yX4_within, .code yX4_within cX4_within 3 (some .boolean), .static yX4_put, .code yX4_put cX4_put 3 none] ++ wsX20)
def wsX2_takeHearer : List Cond := .code yX2_takeHearer cX2_takeHearer 2 (some .int) :: ([.fieldLink RX2 18 "LieBridges$Pad" "speakers" "[I", .fieldLink RX2 35 "LieBridges$Pad" "parts" "I", .fieldLink RX2 21 "LieBridges$Pad" "hearers" "[I", .static yX4_isPerson, .initialized RX4, .code yX4_isPerson cX4_isPerson 1 (some .boolean), .methodLink RX4 79 yX4_within, .static yX4_within, .code yX4_within cX4_within 3 (some .boolean), .static yX4_at, .code yX4_at cX4_at 2 (some .int), .static yX4_put, .code yX4_put cX4_put 3 none] ++ wsX20)
def wsX2_takeDenial : List Cond := .code yX2_takeDenial cX2_takeDenial 1 (some .int) :: ([.fieldLink RX2 15 "LieBridges$Pad" "kinds" "[I", .fieldLink RX2 35 "LieBridges$Pad" "parts" "I", .static yX4_put, .initialized RX4, .code yX4_put cX4_put 3 none] ++ wsX20)
def wsX2_takePlank : List Cond := .code yX2_takePlank cX2_takePlank 2 (some .int) :: ([.fieldLink RX2 24 "LieBridges$Pad" "planks" "[I", .fieldLink RX2 35 "LieBridges$Pad" "parts" "I", .static yX4_isPlank, .initialized RX4, .code yX4_isPlank cX4_isPlank 1 (some .boolean), .methodLink RX4 79 yX4_within, .static yX4_within, .code yX4_within cX4_within 3 (some .boolean), .static yX4_put, .code yX4_put cX4_put 3 none] ++ wsX20)
def wsX2_take_r1 : List Cond := [Cond.methodLink RX2 49 yX2_takeDay, Cond.instanceMethod yX2_takeDay, Cond.selects RX2 yX2_takeDay yX2_takeDay, Cond.initialized RX2, Cond.code yX2_takeDay cX2_takeDay 1 (some .int), Cond.fieldLink RX2 15 "LieBridges$Pad" "kinds" "[I", Cond.fieldLink RX2 35 "LieBridges$Pad" "parts" "I", Cond.static yX4_put, Cond.initialized RX4, Cond.code yX4_put cX4_put 3 none, Cond.methodLink RX2 53 yX2_takeSpeaker, Cond.instanceMethod yX2_takeSpeaker, Cond.selects RX2 yX2_takeSpeaker yX2_takeSpeaker, Cond.code yX2_takeSpeaker cX2_takeSpeaker 3 (some .int), Cond.fieldLink RX2 38 "LieBridges$Pad" "asked" "I", Cond.fieldLink RX2 18 "LieBridges$Pad" "speakers" "[I", Cond.static yX4_isPerson, Cond.code yX4_isPerson cX4_isPerson 1 (some .boolean), Cond.methodLink RX4 79 yX4_within, Cond.static yX4_within, Cond.code yX4_within cX4_within 3 (some .boolean), Cond.methodLink RX2 57 yX2_takeHearer, Cond.instanceMethod yX2_takeHearer, Cond.selects RX2 yX2_takeHearer yX2_takeHearer]
def wsX2_take_r2 : List Cond := [Cond.code yX2_takeHearer cX2_takeHearer 2 (some .int), Cond.fieldLink RX2 21 "LieBridges$Pad" "hearers" "[I", Cond.static yX4_at, Cond.code yX4_at cX4_at 2 (some .int), Cond.methodLink RX2 60 yX2_takeDenial, Cond.instanceMethod yX2_takeDenial, Cond.selects RX2 yX2_takeDenial yX2_takeDenial, Cond.code yX2_takeDenial cX2_takeDenial 1 (some .int), Cond.methodLink RX2 63 yX2_takePlank, Cond.instanceMethod yX2_takePlank, Cond.selects RX2 yX2_takePlank yX2_takePlank, Cond.code yX2_takePlank cX2_takePlank 2 (some .int), Cond.fieldLink RX2 24 "LieBridges$Pad" "planks" "[I", Cond.static yX4_isPlank, Cond.code yX4_isPlank cX4_isPlank 1 (some .boolean)]
def wsX2_take : List Cond := .code yX2_take cX2_take 3 (some .int) :: ((wsX2_take_r1 ++ wsX2_take_r2) ++ wsX20)
def wsX2_read_r1 : List Cond := [Cond.fieldLink RX2 35 "LieBridges$Pad" "parts" "I", Cond.fieldLink RX2 38 "LieBridges$Pad" "asked" "I", Cond.fieldLink RX2 27 "LieBridges$Pad" "many" "I", Cond.fieldLink RX2 9 "LieBridges$Pad" "signs" "[I", Cond.static yX4_at, Cond.initialized RX4, Cond.code yX4_at cX4_at 2 (some .int), Cond.methodLink RX2 45 yX2_take, Cond.instanceMethod yX2_take, Cond.selects RX2 yX2_take yX2_take, Cond.initialized RX2, Cond.code yX2_take cX2_take 3 (some .int), Cond.methodLink RX2 49 yX2_takeDay, Cond.instanceMethod yX2_takeDay, Cond.selects RX2 yX2_takeDay yX2_takeDay, Cond.code yX2_takeDay cX2_takeDay 1 (some .int), Cond.fieldLink RX2 15 "LieBridges$Pad" "kinds" "[I", Cond.static yX4_put, Cond.code yX4_put cX4_put 3 none, Cond.methodLink RX2 53 yX2_takeSpeaker, Cond.instanceMethod yX2_takeSpeaker, Cond.selects RX2 yX2_takeSpeaker yX2_takeSpeaker, Cond.code yX2_takeSpeaker cX2_takeSpeaker 3 (some .int), Cond.fieldLink RX2 18 "LieBridges$Pad" "speakers" "[I"]
def wsX2_read_r2 : List Cond := [Cond.static yX4_isPerson, Cond.code yX4_isPerson cX4_isPerson 1 (some .boolean), Cond.methodLink RX4 79 yX4_within, Cond.static yX4_within, Cond.code yX4_within cX4_within 3 (some .boolean), Cond.methodLink RX2 57 yX2_takeHearer, Cond.instanceMethod yX2_takeHearer, Cond.selects RX2 yX2_takeHearer yX2_takeHearer, Cond.code yX2_takeHearer cX2_takeHearer 2 (some .int), Cond.fieldLink RX2 21 "LieBridges$Pad" "hearers" "[I", Cond.methodLink RX2 60 yX2_takeDenial, Cond.instanceMethod yX2_takeDenial, Cond.selects RX2 yX2_takeDenial yX2_takeDenial, Cond.code yX2_takeDenial cX2_takeDenial 1 (some .int), Cond.methodLink RX2 63 yX2_takePlank, Cond.instanceMethod yX2_takePlank, Cond.selects RX2 yX2_takePlank yX2_takePlank, Cond.code yX2_takePlank cX2_takePlank 2 (some .int), Cond.fieldLink RX2 24 "LieBridges$Pad" "planks" "[I", Cond.static yX4_isPlank, Cond.code yX4_isPlank cX4_isPlank 1 (some .boolean)]
def wsX2_read : List Cond := .code yX2_read cX2_read 3 (some .int) :: ((wsX2_read_r1 ++ wsX2_read_r2) ++ wsX20)
def wsX3_init : List Cond := .code yX3_init cX3_init 1 none :: ([.methodLink RX3 3 objectInit, .instanceMethod objectInit, .code objectInit ⟨#[0xb1]⟩ 1 none, .arrayClass .int, .fieldLink RX3 9 "LieBridges$Ways" "weights" "[I", .fieldLink RX3 15 "LieBridges$Ways" "trodden" "[I", .fieldLink RX3 18 "LieBridges$Ways" "best" "[I"] ++ wsX30)
def wsX3_weigh : List Cond := .code yX3_weigh cX3_weigh 3 none :: ([.fieldLink RX3 9 "LieBridges$Ways" "weights" "[I", .static yX4_put, .initialized RX4, .code yX4_put cX4_put 3 none] ++ wsX30)
def wsX3_found : List Cond := .code yX3_found cX3_found 1 (some .boolean) :: ([.fieldLink RX3 35 "LieBridges$Ways" "length" "I"] ++ wsX30)
def wsX3_keepIfBetter : List Cond := .code yX3_keepIfBetter cX3_keepIfBetter 4 none :: ([.fieldLink RX3 46 "LieBridges$Ways" "worth" "J", .fieldLink RX3 35 "LieBridges$Ways" "length" "I", .fieldLink RX3 15 "LieBridges$Ways" "trodden" "[I", .fieldLink RX3 18 "LieBridges$Ways" "best" "[I", .methodLink RX3 70 yX3_found, .instanceMethod yX3_found, .selects RX3 yX3_found yX3_found, .initialized RX3, .code yX3_found cX3_found 1 (some .boolean), .static yX4_copy, .initialized RX4, .code yX4_copy cX4_copy 3 none, .methodLink RX4 134 yX4_at, .static yX4_at, .code yX4_at cX4_at 2 (some .int)] ++ wsX30)
def wsX3_tread_r1 : List Cond := [Cond.fieldLink RX3 9 "LieBridges$Ways" "weights" "[I", Cond.fieldLink RX3 15 "LieBridges$Ways" "trodden" "[I", Cond.fieldLink RX3 25 "LieBridges$Ways" "likeliest" "Z", Cond.constantLong RX3 68 (10), Cond.methodLink RX3 62 yX1_across, Cond.instanceMethod yX1_across, Cond.selects RX1 yX1_across yX1_across, Cond.initialized RX1, Cond.code yX1_across cX1_across 3 (some .int), Cond.fieldLink RX1 9 "LieBridges$Delta" "lessers" "[I", Cond.fieldLink RX1 15 "LieBridges$Delta" "greaters" "[I", Cond.static yX4_isPlank, Cond.initialized RX4, Cond.code yX4_isPlank cX4_isPlank 1 (some .boolean), Cond.methodLink RX4 79 yX4_within, Cond.static yX4_within, Cond.code yX4_within cX4_within 3 (some .boolean), Cond.static yX4_at, Cond.code yX4_at cX4_at 2 (some .int), Cond.static yX4_put, Cond.code yX4_put cX4_put 3 none, Cond.methodLink RX3 50 yX3_walk, Cond.instanceMethod yX3_walk, Cond.selects RX3 yX3_walk yX3_walk]
def wsX3_tread_r2 : List Cond := [Cond.initialized RX3, Cond.code yX3_walk cX3_walk 8 none, Cond.fieldLink RX3 43 "LieBridges$Ways" "goal" "I", Cond.methodLink RX3 54 yX3_keepIfBetter, Cond.instanceMethod yX3_keepIfBetter, Cond.selects RX3 yX3_keepIfBetter yX3_keepIfBetter, Cond.code yX3_keepIfBetter cX3_keepIfBetter 4 none, Cond.fieldLink RX3 46 "LieBridges$Ways" "worth" "J", Cond.fieldLink RX3 35 "LieBridges$Ways" "length" "I", Cond.fieldLink RX3 18 "LieBridges$Ways" "best" "[I", Cond.methodLink RX3 70 yX3_found, Cond.instanceMethod yX3_found, Cond.selects RX3 yX3_found yX3_found, Cond.code yX3_found cX3_found 1 (some .boolean), Cond.static yX4_copy, Cond.code yX4_copy cX4_copy 3 none, Cond.methodLink RX4 134 yX4_at, Cond.methodLink RX3 58 yX3_tread, Cond.instanceMethod yX3_tread, Cond.selects RX3 yX3_tread yX3_tread]
def wsX3_tread : List Cond := .code yX3_tread cX3_tread 12 none :: ((wsX3_tread_r1 ++ wsX3_tread_r2) ++ wsX30 ++ wsX10)
def wsX3_walk_r1 : List Cond := [Cond.fieldLink RX3 43 "LieBridges$Ways" "goal" "I", Cond.methodLink RX3 54 yX3_keepIfBetter, Cond.instanceMethod yX3_keepIfBetter, Cond.selects RX3 yX3_keepIfBetter yX3_keepIfBetter, Cond.initialized RX3, Cond.code yX3_keepIfBetter cX3_keepIfBetter 4 none, Cond.fieldLink RX3 46 "LieBridges$Ways" "worth" "J", Cond.fieldLink RX3 35 "LieBridges$Ways" "length" "I", Cond.fieldLink RX3 15 "LieBridges$Ways" "trodden" "[I", Cond.fieldLink RX3 18 "LieBridges$Ways" "best" "[I", Cond.methodLink RX3 70 yX3_found, Cond.instanceMethod yX3_found, Cond.selects RX3 yX3_found yX3_found, Cond.code yX3_found cX3_found 1 (some .boolean), Cond.static yX4_copy, Cond.initialized RX4, Cond.code yX4_copy cX4_copy 3 none, Cond.methodLink RX4 134 yX4_at, Cond.static yX4_at, Cond.code yX4_at cX4_at 2 (some .int), Cond.methodLink RX3 58 yX3_tread, Cond.instanceMethod yX3_tread, Cond.selects RX3 yX3_tread yX3_tread, Cond.code yX3_tread cX3_tread 12 none]
def wsX3_walk_r2 : List Cond := [Cond.fieldLink RX3 9 "LieBridges$Ways" "weights" "[I", Cond.fieldLink RX3 25 "LieBridges$Ways" "likeliest" "Z", Cond.constantLong RX3 68 (10), Cond.methodLink RX3 62 yX1_across, Cond.instanceMethod yX1_across, Cond.selects RX1 yX1_across yX1_across, Cond.initialized RX1, Cond.code yX1_across cX1_across 3 (some .int), Cond.fieldLink RX1 9 "LieBridges$Delta" "lessers" "[I", Cond.fieldLink RX1 15 "LieBridges$Delta" "greaters" "[I", Cond.static yX4_isPlank, Cond.code yX4_isPlank cX4_isPlank 1 (some .boolean), Cond.methodLink RX4 79 yX4_within, Cond.static yX4_within, Cond.code yX4_within cX4_within 3 (some .boolean), Cond.static yX4_put, Cond.code yX4_put cX4_put 3 none, Cond.methodLink RX3 50 yX3_walk, Cond.instanceMethod yX3_walk, Cond.selects RX3 yX3_walk yX3_walk]
def wsX3_walk : List Cond := .code yX3_walk cX3_walk 8 none :: ((wsX3_walk_r1 ++ wsX3_walk_r2) ++ wsX30 ++ wsX10)
def wsX3_find_r1 : List Cond := [Cond.fieldLink RX3 43 "LieBridges$Ways" "goal" "I", Cond.fieldLink RX3 35 "LieBridges$Ways" "length" "I", Cond.fieldLink RX3 46 "LieBridges$Ways" "worth" "J", Cond.methodLink RX3 50 yX3_walk, Cond.instanceMethod yX3_walk, Cond.selects RX3 yX3_walk yX3_walk, Cond.initialized RX3, Cond.code yX3_walk cX3_walk 8 none, Cond.methodLink RX3 54 yX3_keepIfBetter, Cond.instanceMethod yX3_keepIfBetter, Cond.selects RX3 yX3_keepIfBetter yX3_keepIfBetter, Cond.code yX3_keepIfBetter cX3_keepIfBetter 4 none, Cond.fieldLink RX3 15 "LieBridges$Ways" "trodden" "[I", Cond.fieldLink RX3 18 "LieBridges$Ways" "best" "[I", Cond.methodLink RX3 70 yX3_found, Cond.instanceMethod yX3_found, Cond.selects RX3 yX3_found yX3_found, Cond.code yX3_found cX3_found 1 (some .boolean), Cond.static yX4_copy, Cond.initialized RX4, Cond.code yX4_copy cX4_copy 3 none, Cond.methodLink RX4 134 yX4_at, Cond.static yX4_at, Cond.code yX4_at cX4_at 2 (some .int)]
def wsX3_find_r2 : List Cond := [Cond.methodLink RX3 58 yX3_tread, Cond.instanceMethod yX3_tread, Cond.selects RX3 yX3_tread yX3_tread, Cond.code yX3_tread cX3_tread 12 none, Cond.fieldLink RX3 9 "LieBridges$Ways" "weights" "[I", Cond.fieldLink RX3 25 "LieBridges$Ways" "likeliest" "Z", Cond.constantLong RX3 68 (10), Cond.methodLink RX3 62 yX1_across, Cond.instanceMethod yX1_across, Cond.selects RX1 yX1_across yX1_across, Cond.initialized RX1, Cond.code yX1_across cX1_across 3 (some .int), Cond.fieldLink RX1 9 "LieBridges$Delta" "lessers" "[I", Cond.fieldLink RX1 15 "LieBridges$Delta" "greaters" "[I", Cond.static yX4_isPlank, Cond.code yX4_isPlank cX4_isPlank 1 (some .boolean), Cond.methodLink RX4 79 yX4_within, Cond.static yX4_within, Cond.code yX4_within cX4_within 3 (some .boolean), Cond.static yX4_put, Cond.code yX4_put cX4_put 3 none]
def wsX3_find : List Cond := .code yX3_find cX3_find 6 none :: ((wsX3_find_r1 ++ wsX3_find_r2) ++ wsX30 ++ wsX10)
def wsX3_findCheapest_r1 : List Cond := [Cond.fieldLink RX3 25 "LieBridges$Ways" "likeliest" "Z", Cond.methodLink RX3 29 yX3_find, Cond.instanceMethod yX3_find, Cond.selects RX3 yX3_find yX3_find, Cond.initialized RX3, Cond.code yX3_find cX3_find 6 none, Cond.fieldLink RX3 43 "LieBridges$Ways" "goal" "I", Cond.fieldLink RX3 35 "LieBridges$Ways" "length" "I", Cond.fieldLink RX3 46 "LieBridges$Ways" "worth" "J", Cond.methodLink RX3 50 yX3_walk, Cond.instanceMethod yX3_walk, Cond.selects RX3 yX3_walk yX3_walk, Cond.code yX3_walk cX3_walk 8 none, Cond.methodLink RX3 54 yX3_keepIfBetter, Cond.instanceMethod yX3_keepIfBetter, Cond.selects RX3 yX3_keepIfBetter yX3_keepIfBetter, Cond.code yX3_keepIfBetter cX3_keepIfBetter 4 none, Cond.fieldLink RX3 15 "LieBridges$Ways" "trodden" "[I", Cond.fieldLink RX3 18 "LieBridges$Ways" "best" "[I", Cond.methodLink RX3 70 yX3_found, Cond.instanceMethod yX3_found, Cond.selects RX3 yX3_found yX3_found, Cond.code yX3_found cX3_found 1 (some .boolean), Cond.static yX4_copy]
def wsX3_findCheapest_r2 : List Cond := [Cond.initialized RX4, Cond.code yX4_copy cX4_copy 3 none, Cond.methodLink RX4 134 yX4_at, Cond.static yX4_at, Cond.code yX4_at cX4_at 2 (some .int), Cond.methodLink RX3 58 yX3_tread, Cond.instanceMethod yX3_tread, Cond.selects RX3 yX3_tread yX3_tread, Cond.code yX3_tread cX3_tread 12 none, Cond.fieldLink RX3 9 "LieBridges$Ways" "weights" "[I", Cond.constantLong RX3 68 (10), Cond.methodLink RX3 62 yX1_across, Cond.instanceMethod yX1_across, Cond.selects RX1 yX1_across yX1_across, Cond.initialized RX1, Cond.code yX1_across cX1_across 3 (some .int), Cond.fieldLink RX1 9 "LieBridges$Delta" "lessers" "[I", Cond.fieldLink RX1 15 "LieBridges$Delta" "greaters" "[I", Cond.static yX4_isPlank, Cond.code yX4_isPlank cX4_isPlank 1 (some .boolean), Cond.methodLink RX4 79 yX4_within, Cond.static yX4_within, Cond.code yX4_within cX4_within 3 (some .boolean), Cond.static yX4_put]
def wsX3_findCheapest_r3 : List Cond := [Cond.code yX4_put cX4_put 3 none]
def wsX3_findCheapest : List Cond := .code yX3_findCheapest cX3_findCheapest 4 none :: ((wsX3_findCheapest_r1 ++ (wsX3_findCheapest_r2 ++ wsX3_findCheapest_r3)) ++ wsX30 ++ wsX10)
def wsX3_findLikeliest_r1 : List Cond := [Cond.fieldLink RX3 25 "LieBridges$Ways" "likeliest" "Z", Cond.constantLong RX3 33 (1000000), Cond.methodLink RX3 29 yX3_find, Cond.instanceMethod yX3_find, Cond.selects RX3 yX3_find yX3_find, Cond.initialized RX3, Cond.code yX3_find cX3_find 6 none, Cond.fieldLink RX3 43 "LieBridges$Ways" "goal" "I", Cond.fieldLink RX3 35 "LieBridges$Ways" "length" "I", Cond.fieldLink RX3 46 "LieBridges$Ways" "worth" "J", Cond.methodLink RX3 50 yX3_walk, Cond.instanceMethod yX3_walk, Cond.selects RX3 yX3_walk yX3_walk, Cond.code yX3_walk cX3_walk 8 none, Cond.methodLink RX3 54 yX3_keepIfBetter, Cond.instanceMethod yX3_keepIfBetter, Cond.selects RX3 yX3_keepIfBetter yX3_keepIfBetter, Cond.code yX3_keepIfBetter cX3_keepIfBetter 4 none, Cond.fieldLink RX3 15 "LieBridges$Ways" "trodden" "[I", Cond.fieldLink RX3 18 "LieBridges$Ways" "best" "[I", Cond.methodLink RX3 70 yX3_found, Cond.instanceMethod yX3_found, Cond.selects RX3 yX3_found yX3_found, Cond.code yX3_found cX3_found 1 (some .boolean)]
def wsX3_findLikeliest_r2 : List Cond := [Cond.static yX4_copy, Cond.initialized RX4, Cond.code yX4_copy cX4_copy 3 none, Cond.methodLink RX4 134 yX4_at, Cond.static yX4_at, Cond.code yX4_at cX4_at 2 (some .int), Cond.methodLink RX3 58 yX3_tread, Cond.instanceMethod yX3_tread, Cond.selects RX3 yX3_tread yX3_tread, Cond.code yX3_tread cX3_tread 12 none, Cond.fieldLink RX3 9 "LieBridges$Ways" "weights" "[I", Cond.constantLong RX3 68 (10), Cond.methodLink RX3 62 yX1_across, Cond.instanceMethod yX1_across, Cond.selects RX1 yX1_across yX1_across, Cond.initialized RX1, Cond.code yX1_across cX1_across 3 (some .int), Cond.fieldLink RX1 9 "LieBridges$Delta" "lessers" "[I", Cond.fieldLink RX1 15 "LieBridges$Delta" "greaters" "[I", Cond.static yX4_isPlank, Cond.code yX4_isPlank cX4_isPlank 1 (some .boolean), Cond.methodLink RX4 79 yX4_within, Cond.static yX4_within, Cond.code yX4_within cX4_within 3 (some .boolean)]
def wsX3_findLikeliest_r3 : List Cond := [Cond.static yX4_put, Cond.code yX4_put cX4_put 3 none]
def wsX3_findLikeliest : List Cond := .code yX3_findLikeliest cX3_findLikeliest 4 none :: ((wsX3_findLikeliest_r1 ++ (wsX3_findLikeliest_r2 ++ wsX3_findLikeliest_r3)) ++ wsX30 ++ wsX10)
def wsX3_step : List Cond := .code yX3_step cX3_step 2 (some .int) :: ([.fieldLink RX3 35 "LieBridges$Ways" "length" "I", .fieldLink RX3 18 "LieBridges$Ways" "best" "[I", .static yX4_at, .initialized RX4, .code yX4_at cX4_at 2 (some .int)] ++ wsX30)
def wsX4_init_r1 : List Cond := [Cond.methodLink RX4 1 objectInit, Cond.instanceMethod objectInit, Cond.code objectInit ⟨#[0xb1]⟩ 1 none, Cond.classLink RX4 7 RX1, Cond.instantiable RX1 11, Cond.initialized RX1, Cond.fieldLink RX4 10 "LieBridges" "now" "LLieBridges$Delta;", Cond.fieldLink RX4 16 "LieBridges" "images" "[LLieBridges$Delta;", Cond.classLink RX4 20 RX2, Cond.instantiable RX2 8, Cond.initialized RX2, Cond.fieldLink RX4 23 "LieBridges" "pad" "LLieBridges$Pad;", Cond.classLink RX4 27 RX3, Cond.instantiable RX3 7, Cond.initialized RX3, Cond.fieldLink RX4 30 "LieBridges" "ways" "LLieBridges$Ways;", Cond.classLink RX4 34 RX0, Cond.instantiable RX0 1, Cond.initialized RX0, Cond.fieldLink RX4 37 "LieBridges" "trial" "LLieBridges$Beliefs;", Cond.arrayClass .int, Cond.fieldLink RX4 41 "LieBridges" "guesses" "[I", Cond.fieldLink RX4 45 "LieBridges" "route" "[I", Cond.methodLink RX4 9 yX1_init]
def wsX4_init_r2 : List Cond := [Cond.instanceMethod yX1_init, Cond.code yX1_init cX1_init 2 none, Cond.methodLink RX1 3 objectInit, Cond.fieldLink RX1 9 "LieBridges$Delta" "lessers" "[I", Cond.fieldLink RX1 15 "LieBridges$Delta" "greaters" "[I", Cond.fieldLink RX1 18 "LieBridges$Delta" "layers" "[I", Cond.fieldLink RX1 21 "LieBridges$Delta" "holds" "[I", Cond.fieldLink RX1 24 "LieBridges$Delta" "trusted" "[I", Cond.fieldLink RX1 27 "LieBridges$Delta" "known" "[I", Cond.fieldLink RX1 30 "LieBridges$Delta" "sightPlanks" "[I", Cond.fieldLink RX1 33 "LieBridges$Delta" "sightLoads" "[I", Cond.classLink RX1 36 RX0, Cond.fieldLink RX1 39 "LieBridges$Delta" "beliefs" "LLieBridges$Beliefs;", Cond.fieldLink RX1 43 "LieBridges$Delta" "fadeDays" "I", Cond.instanceMethod yX0_init, Cond.code yX0_init cX0_init 1 none, Cond.methodLink RX0 3 objectInit, Cond.fieldLink RX0 9 "LieBridges$Beliefs" "days" "[I", Cond.methodLink RX1 47 yX1_lay, Cond.instanceMethod yX1_lay, Cond.selects RX1 yX1_lay yX1_lay, Cond.code yX1_lay cX1_lay 6 none, Cond.static yX4_put, Cond.initialized RX4]
def wsX4_init_r3 : List Cond := [Cond.code yX4_put cX4_put 3 none, Cond.methodLink RX1 55 yX0_set, Cond.instanceMethod yX0_set, Cond.selects RX0 yX0_set yX0_set, Cond.code yX0_set cX0_set 4 none, Cond.static yX4_putBit, Cond.code yX4_putBit cX4_putBit 5 none, Cond.methodLink RX4 134 yX4_at, Cond.static yX4_at, Cond.code yX4_at cX4_at 2 (some .int), Cond.methodLink RX4 189 yX4_put, Cond.instanceMethod yX2_init, Cond.code yX2_init cX2_init 1 none, Cond.methodLink RX2 3 objectInit, Cond.fieldLink RX2 9 "LieBridges$Pad" "signs" "[I", Cond.fieldLink RX2 15 "LieBridges$Pad" "kinds" "[I", Cond.fieldLink RX2 18 "LieBridges$Pad" "speakers" "[I", Cond.fieldLink RX2 21 "LieBridges$Pad" "hearers" "[I", Cond.fieldLink RX2 24 "LieBridges$Pad" "planks" "[I", Cond.instanceMethod yX3_init, Cond.code yX3_init cX3_init 1 none, Cond.methodLink RX3 3 objectInit, Cond.fieldLink RX3 9 "LieBridges$Ways" "weights" "[I", Cond.fieldLink RX3 15 "LieBridges$Ways" "trodden" "[I"]
def wsX4_init_r4 : List Cond := [Cond.fieldLink RX3 18 "LieBridges$Ways" "best" "[I"]
def wsX4_init : List Cond := .code yX4_init cX4_init 1 none :: ((wsX4_init_r1 ++ (wsX4_init_r2 ++ (wsX4_init_r3 ++ wsX4_init_r4))) ++ wsX10 ++ wsX40 ++ wsX20 ++ wsX30 ++ wsX00)
def wsX4_isIsland : List Cond := .code yX4_isIsland cX4_isIsland 1 (some .boolean) :: ([.methodLink RX4 79 yX4_within, .static yX4_within, .initialized RX4, .code yX4_within cX4_within 3 (some .boolean)])
def wsX4_plank_r1 : List Cond := [Cond.fieldLink RX4 10 "LieBridges" "now" "LLieBridges$Delta;", Cond.methodLink RX4 48 yX4_isPlank, Cond.static yX4_isPlank, Cond.initialized RX4, Cond.code yX4_isPlank cX4_isPlank 1 (some .boolean), Cond.methodLink RX4 79 yX4_within, Cond.static yX4_within, Cond.code yX4_within cX4_within 3 (some .boolean), Cond.methodLink RX4 52 yX4_isIsland, Cond.static yX4_isIsland, Cond.code yX4_isIsland cX4_isIsland 1 (some .boolean), Cond.methodLink RX4 55 yX4_isPerson, Cond.static yX4_isPerson, Cond.code yX4_isPerson cX4_isPerson 1 (some .boolean), Cond.methodLink RX4 58 yX1_lay, Cond.instanceMethod yX1_lay, Cond.selects RX1 yX1_lay yX1_lay, Cond.initialized RX1, Cond.code yX1_lay cX1_lay 6 none, Cond.fieldLink RX1 9 "LieBridges$Delta" "lessers" "[I", Cond.fieldLink RX1 15 "LieBridges$Delta" "greaters" "[I", Cond.fieldLink RX1 18 "LieBridges$Delta" "layers" "[I", Cond.fieldLink RX1 39 "LieBridges$Delta" "beliefs" "LLieBridges$Beliefs;", Cond.fieldLink RX1 27 "LieBridges$Delta" "known" "[I"]
def wsX4_plank_r2 : List Cond := [Cond.static yX4_put, Cond.code yX4_put cX4_put 3 none, Cond.methodLink RX1 55 yX0_set, Cond.instanceMethod yX0_set, Cond.selects RX0 yX0_set yX0_set, Cond.initialized RX0, Cond.code yX0_set cX0_set 4 none, Cond.fieldLink RX0 9 "LieBridges$Beliefs" "days" "[I", Cond.static yX4_putBit, Cond.code yX4_putBit cX4_putBit 5 none, Cond.methodLink RX4 134 yX4_at, Cond.static yX4_at, Cond.code yX4_at cX4_at 2 (some .int), Cond.methodLink RX4 189 yX4_put]
def wsX4_plank : List Cond := .code yX4_plank cX4_plank 5 (some .int) :: ((wsX4_plank_r1 ++ wsX4_plank_r2) ++ wsX40 ++ wsX10 ++ wsX00)
def wsX4_trust : List Cond := .code yX4_trust cX4_trust 4 (some .int) :: ([.fieldLink RX4 10 "LieBridges" "now" "LLieBridges$Delta;", .fieldLink RX4 62 "LieBridges$Delta" "trusted" "[I", .methodLink RX4 55 yX4_isPerson, .static yX4_isPerson, .initialized RX4, .code yX4_isPerson cX4_isPerson 1 (some .boolean), .methodLink RX4 79 yX4_within, .static yX4_within, .code yX4_within cX4_within 3 (some .boolean), .methodLink RX4 65 yX4_putBit, .static yX4_putBit, .code yX4_putBit cX4_putBit 5 none, .methodLink RX4 134 yX4_at, .static yX4_at, .code yX4_at cX4_at 2 (some .int), .methodLink RX4 189 yX4_put, .static yX4_put, .code yX4_put cX4_put 3 none] ++ wsX40 ++ wsX10)
def wsX4_know_r1 : List Cond := [Cond.fieldLink RX4 10 "LieBridges" "now" "LLieBridges$Delta;", Cond.fieldLink RX4 69 "LieBridges$Delta" "known" "[I", Cond.fieldLink RX4 72 "LieBridges$Delta" "beliefs" "LLieBridges$Beliefs;", Cond.methodLink RX4 55 yX4_isPerson, Cond.static yX4_isPerson, Cond.initialized RX4, Cond.code yX4_isPerson cX4_isPerson 1 (some .boolean), Cond.methodLink RX4 79 yX4_within, Cond.static yX4_within, Cond.code yX4_within cX4_within 3 (some .boolean), Cond.methodLink RX4 48 yX4_isPlank, Cond.static yX4_isPlank, Cond.code yX4_isPlank cX4_isPlank 1 (some .boolean), Cond.methodLink RX4 65 yX4_putBit, Cond.static yX4_putBit, Cond.code yX4_putBit cX4_putBit 5 none, Cond.methodLink RX4 134 yX4_at, Cond.static yX4_at, Cond.code yX4_at cX4_at 2 (some .int), Cond.methodLink RX4 189 yX4_put, Cond.static yX4_put, Cond.code yX4_put cX4_put 3 none, Cond.methodLink RX4 75 yX0_set, Cond.instanceMethod yX0_set]
def wsX4_know_r2 : List Cond := [Cond.selects RX0 yX0_set yX0_set, Cond.initialized RX0, Cond.code yX0_set cX0_set 4 none, Cond.fieldLink RX0 9 "LieBridges$Beliefs" "days" "[I"]
def wsX4_know : List Cond := .code yX4_know cX4_know 4 (some .int) :: ((wsX4_know_r1 ++ wsX4_know_r2) ++ wsX40 ++ wsX10 ++ wsX00)
def wsX4_fade : List Cond := .code yX4_fade cX4_fade 3 (some .int) :: ([.fieldLink RX4 10 "LieBridges" "now" "LLieBridges$Delta;", .fieldLink RX4 83 "LieBridges$Delta" "fadeDays" "I", .methodLink RX4 79 yX4_within, .static yX4_within, .initialized RX4, .code yX4_within cX4_within 3 (some .boolean)] ++ wsX40 ++ wsX10)
def wsX4_say : List Cond := .code yX4_say cX4_say 2 (some .int) :: ([.fieldLink RX4 23 "LieBridges" "pad" "LLieBridges$Pad;", .fieldLink RX4 90 "LieBridges$Pad" "many" "I", .methodLink RX4 79 yX4_within, .static yX4_within, .initialized RX4, .code yX4_within cX4_within 3 (some .boolean), .methodLink RX4 87 yX2_add, .instanceMethod yX2_add, .selects RX2 yX2_add yX2_add, .initialized RX2, .code yX2_add cX2_add 2 (some .boolean), .fieldLink RX2 27 "LieBridges$Pad" "many" "I", .fieldLink RX2 9 "LieBridges$Pad" "signs" "[I", .static yX4_put, .code yX4_put cX4_put 3 none] ++ wsX40 ++ wsX20)
def wsX4_wipe : List Cond := .code yX4_wipe cX4_wipe 2 (some .int) :: ([.fieldLink RX4 23 "LieBridges" "pad" "LLieBridges$Pad;", .fieldLink RX4 90 "LieBridges$Pad" "many" "I", .methodLink RX4 93 yX2_clear, .instanceMethod yX2_clear, .selects RX2 yX2_clear yX2_clear, .initialized RX2, .code yX2_clear cX2_clear 1 none, .fieldLink RX2 27 "LieBridges$Pad" "many" "I"] ++ wsX40 ++ wsX20)
def wsX4_fault_r1 : List Cond := [Cond.fieldLink RX4 23 "LieBridges" "pad" "LLieBridges$Pad;", Cond.methodLink RX4 96 yX2_read, Cond.instanceMethod yX2_read, Cond.selects RX2 yX2_read yX2_read, Cond.initialized RX2, Cond.code yX2_read cX2_read 3 (some .int), Cond.fieldLink RX2 35 "LieBridges$Pad" "parts" "I", Cond.fieldLink RX2 38 "LieBridges$Pad" "asked" "I", Cond.fieldLink RX2 27 "LieBridges$Pad" "many" "I", Cond.fieldLink RX2 9 "LieBridges$Pad" "signs" "[I", Cond.static yX4_at, Cond.initialized RX4, Cond.code yX4_at cX4_at 2 (some .int), Cond.methodLink RX2 45 yX2_take, Cond.instanceMethod yX2_take, Cond.selects RX2 yX2_take yX2_take, Cond.code yX2_take cX2_take 3 (some .int), Cond.methodLink RX2 49 yX2_takeDay, Cond.instanceMethod yX2_takeDay, Cond.selects RX2 yX2_takeDay yX2_takeDay, Cond.code yX2_takeDay cX2_takeDay 1 (some .int), Cond.fieldLink RX2 15 "LieBridges$Pad" "kinds" "[I", Cond.static yX4_put, Cond.code yX4_put cX4_put 3 none]
def wsX4_fault_r2 : List Cond := [Cond.methodLink RX2 53 yX2_takeSpeaker, Cond.instanceMethod yX2_takeSpeaker, Cond.selects RX2 yX2_takeSpeaker yX2_takeSpeaker, Cond.code yX2_takeSpeaker cX2_takeSpeaker 3 (some .int), Cond.fieldLink RX2 18 "LieBridges$Pad" "speakers" "[I", Cond.static yX4_isPerson, Cond.code yX4_isPerson cX4_isPerson 1 (some .boolean), Cond.methodLink RX4 79 yX4_within, Cond.static yX4_within, Cond.code yX4_within cX4_within 3 (some .boolean), Cond.methodLink RX2 57 yX2_takeHearer, Cond.instanceMethod yX2_takeHearer, Cond.selects RX2 yX2_takeHearer yX2_takeHearer, Cond.code yX2_takeHearer cX2_takeHearer 2 (some .int), Cond.fieldLink RX2 21 "LieBridges$Pad" "hearers" "[I", Cond.methodLink RX2 60 yX2_takeDenial, Cond.instanceMethod yX2_takeDenial, Cond.selects RX2 yX2_takeDenial yX2_takeDenial, Cond.code yX2_takeDenial cX2_takeDenial 1 (some .int), Cond.methodLink RX2 63 yX2_takePlank, Cond.instanceMethod yX2_takePlank, Cond.selects RX2 yX2_takePlank yX2_takePlank, Cond.code yX2_takePlank cX2_takePlank 2 (some .int), Cond.fieldLink RX2 24 "LieBridges$Pad" "planks" "[I"]
def wsX4_fault_r3 : List Cond := [Cond.static yX4_isPlank, Cond.code yX4_isPlank cX4_isPlank 1 (some .boolean)]
def wsX4_fault : List Cond := .code yX4_fault cX4_fault 1 (some .int) :: ((wsX4_fault_r1 ++ (wsX4_fault_r2 ++ wsX4_fault_r3)) ++ wsX40 ++ wsX20)
def wsX4_refusalOfText_r1 : List Cond := [Cond.fieldLink RX4 23 "LieBridges" "pad" "LLieBridges$Pad;", Cond.fieldLink RX4 215 "LieBridges$Pad" "asked" "I", Cond.methodLink RX4 96 yX2_read, Cond.instanceMethod yX2_read, Cond.selects RX2 yX2_read yX2_read, Cond.initialized RX2, Cond.code yX2_read cX2_read 3 (some .int), Cond.fieldLink RX2 35 "LieBridges$Pad" "parts" "I", Cond.fieldLink RX2 38 "LieBridges$Pad" "asked" "I", Cond.fieldLink RX2 27 "LieBridges$Pad" "many" "I", Cond.fieldLink RX2 9 "LieBridges$Pad" "signs" "[I", Cond.static yX4_at, Cond.initialized RX4, Cond.code yX4_at cX4_at 2 (some .int), Cond.methodLink RX2 45 yX2_take, Cond.instanceMethod yX2_take, Cond.selects RX2 yX2_take yX2_take, Cond.code yX2_take cX2_take 3 (some .int), Cond.methodLink RX2 49 yX2_takeDay, Cond.instanceMethod yX2_takeDay, Cond.selects RX2 yX2_takeDay yX2_takeDay, Cond.code yX2_takeDay cX2_takeDay 1 (some .int), Cond.fieldLink RX2 15 "LieBridges$Pad" "kinds" "[I", Cond.static yX4_put]
def wsX4_refusalOfText_r2 : List Cond := [Cond.code yX4_put cX4_put 3 none, Cond.methodLink RX2 53 yX2_takeSpeaker, Cond.instanceMethod yX2_takeSpeaker, Cond.selects RX2 yX2_takeSpeaker yX2_takeSpeaker, Cond.code yX2_takeSpeaker cX2_takeSpeaker 3 (some .int), Cond.fieldLink RX2 18 "LieBridges$Pad" "speakers" "[I", Cond.static yX4_isPerson, Cond.code yX4_isPerson cX4_isPerson 1 (some .boolean), Cond.methodLink RX4 79 yX4_within, Cond.static yX4_within, Cond.code yX4_within cX4_within 3 (some .boolean), Cond.methodLink RX2 57 yX2_takeHearer, Cond.instanceMethod yX2_takeHearer, Cond.selects RX2 yX2_takeHearer yX2_takeHearer, Cond.code yX2_takeHearer cX2_takeHearer 2 (some .int), Cond.fieldLink RX2 21 "LieBridges$Pad" "hearers" "[I", Cond.methodLink RX2 60 yX2_takeDenial, Cond.instanceMethod yX2_takeDenial, Cond.selects RX2 yX2_takeDenial yX2_takeDenial, Cond.code yX2_takeDenial cX2_takeDenial 1 (some .int), Cond.methodLink RX2 63 yX2_takePlank, Cond.instanceMethod yX2_takePlank, Cond.selects RX2 yX2_takePlank yX2_takePlank, Cond.code yX2_takePlank cX2_takePlank 2 (some .int)]
def wsX4_refusalOfText_r3 : List Cond := [Cond.fieldLink RX2 24 "LieBridges$Pad" "planks" "[I", Cond.static yX4_isPlank, Cond.code yX4_isPlank cX4_isPlank 1 (some .boolean)]
def wsX4_refusalOfText : List Cond := .code yX4_refusalOfText cX4_refusalOfText 1 (some .int) :: ((wsX4_refusalOfText_r1 ++ (wsX4_refusalOfText_r2 ++ wsX4_refusalOfText_r3)) ++ wsX40 ++ wsX20)
def wsX4_takesEffect_r1 : List Cond := [Cond.fieldLink RX4 23 "LieBridges" "pad" "LLieBridges$Pad;", Cond.fieldLink RX4 245 "LieBridges$Pad" "kinds" "[I", Cond.fieldLink RX4 248 "LieBridges$Pad" "speakers" "[I", Cond.fieldLink RX4 41 "LieBridges" "guesses" "[I", Cond.fieldLink RX4 251 "LieBridges$Pad" "hearers" "[I", Cond.fieldLink RX4 254 "LieBridges$Pad" "planks" "[I", Cond.fieldLink RX4 10 "LieBridges" "now" "LLieBridges$Delta;", Cond.methodLink RX4 134 yX4_at, Cond.static yX4_at, Cond.initialized RX4, Cond.code yX4_at cX4_at 2 (some .int), Cond.methodLink RX4 179 yX0_fadeADay, Cond.instanceMethod yX0_fadeADay, Cond.selects RX0 yX0_fadeADay yX0_fadeADay, Cond.initialized RX0, Cond.code yX0_fadeADay cX0_fadeADay 2 none, Cond.fieldLink RX0 9 "LieBridges$Beliefs" "days" "[I", Cond.methodLink RX4 226 yX1_tell, Cond.instanceMethod yX1_tell, Cond.selects RX1 yX1_tell yX1_tell, Cond.initialized RX1, Cond.code yX1_tell cX1_tell 6 (some .boolean), Cond.fieldLink RX1 24 "LieBridges$Delta" "trusted" "[I", Cond.fieldLink RX1 18 "LieBridges$Delta" "layers" "[I"]
def wsX4_takesEffect_r2 : List Cond := [Cond.fieldLink RX1 27 "LieBridges$Delta" "known" "[I", Cond.fieldLink RX1 43 "LieBridges$Delta" "fadeDays" "I", Cond.methodLink RX1 71 yX1_mayTell, Cond.instanceMethod yX1_mayTell, Cond.selects RX1 yX1_mayTell yX1_mayTell, Cond.code yX1_mayTell cX1_mayTell 4 (some .boolean), Cond.methodLink RX1 67 yX0_of, Cond.instanceMethod yX0_of, Cond.selects RX0 yX0_of yX0_of, Cond.code yX0_of cX0_of 4 (some .int), Cond.static yX4_hasBit, Cond.code yX4_hasBit cX4_hasBit 3 (some .boolean), Cond.methodLink RX1 55 yX0_set, Cond.instanceMethod yX0_set, Cond.selects RX0 yX0_set yX0_set, Cond.code yX0_set cX0_set 4 none, Cond.static yX4_put, Cond.code yX4_put cX4_put 3 none, Cond.methodLink RX4 257 yX1_deny, Cond.instanceMethod yX1_deny, Cond.selects RX1 yX1_deny yX1_deny, Cond.code yX1_deny cX1_deny 6 (some .boolean)]
def wsX4_takesEffect : List Cond := .code yX4_takesEffect cX4_takesEffect 7 (some .boolean) :: ((wsX4_takesEffect_r1 ++ wsX4_takesEffect_r2) ++ wsX40 ++ wsX20 ++ wsX00 ++ wsX10)
def wsX4_vain_r1 : List Cond := [Cond.fieldLink RX4 37 "LieBridges" "trial" "LLieBridges$Beliefs;", Cond.fieldLink RX4 10 "LieBridges" "now" "LLieBridges$Delta;", Cond.fieldLink RX4 72 "LieBridges$Delta" "beliefs" "LLieBridges$Beliefs;", Cond.fieldLink RX4 23 "LieBridges" "pad" "LLieBridges$Pad;", Cond.fieldLink RX4 107 "LieBridges$Pad" "parts" "I", Cond.methodLink RX4 100 yX4_refusalOfText, Cond.instanceMethod yX4_refusalOfText, Cond.selects RX4 yX4_refusalOfText yX4_refusalOfText, Cond.initialized RX4, Cond.code yX4_refusalOfText cX4_refusalOfText 1 (some .int), Cond.fieldLink RX4 215 "LieBridges$Pad" "asked" "I", Cond.methodLink RX4 96 yX2_read, Cond.instanceMethod yX2_read, Cond.selects RX2 yX2_read yX2_read, Cond.initialized RX2, Cond.code yX2_read cX2_read 3 (some .int), Cond.fieldLink RX2 35 "LieBridges$Pad" "parts" "I", Cond.fieldLink RX2 38 "LieBridges$Pad" "asked" "I", Cond.fieldLink RX2 27 "LieBridges$Pad" "many" "I", Cond.fieldLink RX2 9 "LieBridges$Pad" "signs" "[I", Cond.static yX4_at, Cond.code yX4_at cX4_at 2 (some .int), Cond.methodLink RX2 45 yX2_take, Cond.instanceMethod yX2_take]
def wsX4_vain_r2 : List Cond := [Cond.selects RX2 yX2_take yX2_take, Cond.code yX2_take cX2_take 3 (some .int), Cond.methodLink RX2 49 yX2_takeDay, Cond.instanceMethod yX2_takeDay, Cond.selects RX2 yX2_takeDay yX2_takeDay, Cond.code yX2_takeDay cX2_takeDay 1 (some .int), Cond.fieldLink RX2 15 "LieBridges$Pad" "kinds" "[I", Cond.static yX4_put, Cond.code yX4_put cX4_put 3 none, Cond.methodLink RX2 53 yX2_takeSpeaker, Cond.instanceMethod yX2_takeSpeaker, Cond.selects RX2 yX2_takeSpeaker yX2_takeSpeaker, Cond.code yX2_takeSpeaker cX2_takeSpeaker 3 (some .int), Cond.fieldLink RX2 18 "LieBridges$Pad" "speakers" "[I", Cond.static yX4_isPerson, Cond.code yX4_isPerson cX4_isPerson 1 (some .boolean), Cond.methodLink RX4 79 yX4_within, Cond.static yX4_within, Cond.code yX4_within cX4_within 3 (some .boolean), Cond.methodLink RX2 57 yX2_takeHearer, Cond.instanceMethod yX2_takeHearer, Cond.selects RX2 yX2_takeHearer yX2_takeHearer, Cond.code yX2_takeHearer cX2_takeHearer 2 (some .int), Cond.fieldLink RX2 21 "LieBridges$Pad" "hearers" "[I"]
def wsX4_vain_r3 : List Cond := [Cond.methodLink RX2 60 yX2_takeDenial, Cond.instanceMethod yX2_takeDenial, Cond.selects RX2 yX2_takeDenial yX2_takeDenial, Cond.code yX2_takeDenial cX2_takeDenial 1 (some .int), Cond.methodLink RX2 63 yX2_takePlank, Cond.instanceMethod yX2_takePlank, Cond.selects RX2 yX2_takePlank yX2_takePlank, Cond.code yX2_takePlank cX2_takePlank 2 (some .int), Cond.fieldLink RX2 24 "LieBridges$Pad" "planks" "[I", Cond.static yX4_isPlank, Cond.code yX4_isPlank cX4_isPlank 1 (some .boolean), Cond.methodLink RX4 103 yX0_become, Cond.instanceMethod yX0_become, Cond.selects RX0 yX0_become yX0_become, Cond.initialized RX0, Cond.code yX0_become cX0_become 2 none, Cond.fieldLink RX0 9 "LieBridges$Beliefs" "days" "[I", Cond.static yX4_copy, Cond.code yX4_copy cX4_copy 3 none, Cond.methodLink RX4 134 yX4_at, Cond.methodLink RX4 110 yX4_takesEffect, Cond.instanceMethod yX4_takesEffect, Cond.selects RX4 yX4_takesEffect yX4_takesEffect, Cond.code yX4_takesEffect cX4_takesEffect 7 (some .boolean)]
def wsX4_vain_r4 : List Cond := [Cond.fieldLink RX4 245 "LieBridges$Pad" "kinds" "[I", Cond.fieldLink RX4 248 "LieBridges$Pad" "speakers" "[I", Cond.fieldLink RX4 41 "LieBridges" "guesses" "[I", Cond.fieldLink RX4 251 "LieBridges$Pad" "hearers" "[I", Cond.fieldLink RX4 254 "LieBridges$Pad" "planks" "[I", Cond.methodLink RX4 179 yX0_fadeADay, Cond.instanceMethod yX0_fadeADay, Cond.selects RX0 yX0_fadeADay yX0_fadeADay, Cond.code yX0_fadeADay cX0_fadeADay 2 none, Cond.methodLink RX4 226 yX1_tell, Cond.instanceMethod yX1_tell, Cond.selects RX1 yX1_tell yX1_tell, Cond.initialized RX1, Cond.code yX1_tell cX1_tell 6 (some .boolean), Cond.fieldLink RX1 24 "LieBridges$Delta" "trusted" "[I", Cond.fieldLink RX1 18 "LieBridges$Delta" "layers" "[I", Cond.fieldLink RX1 27 "LieBridges$Delta" "known" "[I", Cond.fieldLink RX1 43 "LieBridges$Delta" "fadeDays" "I", Cond.methodLink RX1 71 yX1_mayTell, Cond.instanceMethod yX1_mayTell, Cond.selects RX1 yX1_mayTell yX1_mayTell, Cond.code yX1_mayTell cX1_mayTell 4 (some .boolean), Cond.methodLink RX1 67 yX0_of, Cond.instanceMethod yX0_of]
def wsX4_vain_r5 : List Cond := [Cond.selects RX0 yX0_of yX0_of, Cond.code yX0_of cX0_of 4 (some .int), Cond.static yX4_hasBit, Cond.code yX4_hasBit cX4_hasBit 3 (some .boolean), Cond.methodLink RX1 55 yX0_set, Cond.instanceMethod yX0_set, Cond.selects RX0 yX0_set yX0_set, Cond.code yX0_set cX0_set 4 none, Cond.methodLink RX4 257 yX1_deny, Cond.instanceMethod yX1_deny, Cond.selects RX1 yX1_deny yX1_deny, Cond.code yX1_deny cX1_deny 6 (some .boolean)]
def wsX4_vain : List Cond := .code yX4_vain cX4_vain 6 (some .int) :: ((wsX4_vain_r1 ++ (wsX4_vain_r2 ++ (wsX4_vain_r3 ++ (wsX4_vain_r4 ++ wsX4_vain_r5)))) ++ wsX40 ++ wsX10 ++ wsX20 ++ wsX00)
def wsX4_play_r1 : List Cond := [Cond.fieldLink RX4 23 "LieBridges" "pad" "LLieBridges$Pad;", Cond.fieldLink RX4 107 "LieBridges$Pad" "parts" "I", Cond.methodLink RX4 110 yX4_takesEffect, Cond.instanceMethod yX4_takesEffect, Cond.selects RX4 yX4_takesEffect yX4_takesEffect, Cond.initialized RX4, Cond.code yX4_takesEffect cX4_takesEffect 7 (some .boolean), Cond.fieldLink RX4 245 "LieBridges$Pad" "kinds" "[I", Cond.fieldLink RX4 248 "LieBridges$Pad" "speakers" "[I", Cond.fieldLink RX4 41 "LieBridges" "guesses" "[I", Cond.fieldLink RX4 251 "LieBridges$Pad" "hearers" "[I", Cond.fieldLink RX4 254 "LieBridges$Pad" "planks" "[I", Cond.fieldLink RX4 10 "LieBridges" "now" "LLieBridges$Delta;", Cond.methodLink RX4 134 yX4_at, Cond.static yX4_at, Cond.code yX4_at cX4_at 2 (some .int), Cond.methodLink RX4 179 yX0_fadeADay, Cond.instanceMethod yX0_fadeADay, Cond.selects RX0 yX0_fadeADay yX0_fadeADay, Cond.initialized RX0, Cond.code yX0_fadeADay cX0_fadeADay 2 none, Cond.fieldLink RX0 9 "LieBridges$Beliefs" "days" "[I", Cond.methodLink RX4 226 yX1_tell, Cond.instanceMethod yX1_tell]
def wsX4_play_r2 : List Cond := [Cond.selects RX1 yX1_tell yX1_tell, Cond.initialized RX1, Cond.code yX1_tell cX1_tell 6 (some .boolean), Cond.fieldLink RX1 24 "LieBridges$Delta" "trusted" "[I", Cond.fieldLink RX1 18 "LieBridges$Delta" "layers" "[I", Cond.fieldLink RX1 27 "LieBridges$Delta" "known" "[I", Cond.fieldLink RX1 43 "LieBridges$Delta" "fadeDays" "I", Cond.methodLink RX1 71 yX1_mayTell, Cond.instanceMethod yX1_mayTell, Cond.selects RX1 yX1_mayTell yX1_mayTell, Cond.code yX1_mayTell cX1_mayTell 4 (some .boolean), Cond.methodLink RX1 67 yX0_of, Cond.instanceMethod yX0_of, Cond.selects RX0 yX0_of yX0_of, Cond.code yX0_of cX0_of 4 (some .int), Cond.static yX4_hasBit, Cond.code yX4_hasBit cX4_hasBit 3 (some .boolean), Cond.methodLink RX1 55 yX0_set, Cond.instanceMethod yX0_set, Cond.selects RX0 yX0_set yX0_set, Cond.code yX0_set cX0_set 4 none, Cond.static yX4_put, Cond.code yX4_put cX4_put 3 none, Cond.methodLink RX4 257 yX1_deny]
def wsX4_play_r3 : List Cond := [Cond.instanceMethod yX1_deny, Cond.selects RX1 yX1_deny yX1_deny, Cond.code yX1_deny cX1_deny 6 (some .boolean)]
def wsX4_play : List Cond := .code yX4_play cX4_play 3 none :: ((wsX4_play_r1 ++ (wsX4_play_r2 ++ wsX4_play_r3)) ++ wsX40 ++ wsX20 ++ wsX00 ++ wsX10)
def wsX4_done_r1 : List Cond := [Cond.fieldLink RX4 10 "LieBridges" "now" "LLieBridges$Delta;", Cond.fieldLink RX4 72 "LieBridges$Delta" "beliefs" "LLieBridges$Beliefs;", Cond.fieldLink RX4 23 "LieBridges" "pad" "LLieBridges$Pad;", Cond.fieldLink RX4 107 "LieBridges$Pad" "parts" "I", Cond.methodLink RX4 100 yX4_refusalOfText, Cond.instanceMethod yX4_refusalOfText, Cond.selects RX4 yX4_refusalOfText yX4_refusalOfText, Cond.initialized RX4, Cond.code yX4_refusalOfText cX4_refusalOfText 1 (some .int), Cond.fieldLink RX4 215 "LieBridges$Pad" "asked" "I", Cond.methodLink RX4 96 yX2_read, Cond.instanceMethod yX2_read, Cond.selects RX2 yX2_read yX2_read, Cond.initialized RX2, Cond.code yX2_read cX2_read 3 (some .int), Cond.fieldLink RX2 35 "LieBridges$Pad" "parts" "I", Cond.fieldLink RX2 38 "LieBridges$Pad" "asked" "I", Cond.fieldLink RX2 27 "LieBridges$Pad" "many" "I", Cond.fieldLink RX2 9 "LieBridges$Pad" "signs" "[I", Cond.static yX4_at, Cond.code yX4_at cX4_at 2 (some .int), Cond.methodLink RX2 45 yX2_take, Cond.instanceMethod yX2_take, Cond.selects RX2 yX2_take yX2_take]
def wsX4_done_r2 : List Cond := [Cond.code yX2_take cX2_take 3 (some .int), Cond.methodLink RX2 49 yX2_takeDay, Cond.instanceMethod yX2_takeDay, Cond.selects RX2 yX2_takeDay yX2_takeDay, Cond.code yX2_takeDay cX2_takeDay 1 (some .int), Cond.fieldLink RX2 15 "LieBridges$Pad" "kinds" "[I", Cond.static yX4_put, Cond.code yX4_put cX4_put 3 none, Cond.methodLink RX2 53 yX2_takeSpeaker, Cond.instanceMethod yX2_takeSpeaker, Cond.selects RX2 yX2_takeSpeaker yX2_takeSpeaker, Cond.code yX2_takeSpeaker cX2_takeSpeaker 3 (some .int), Cond.fieldLink RX2 18 "LieBridges$Pad" "speakers" "[I", Cond.static yX4_isPerson, Cond.code yX4_isPerson cX4_isPerson 1 (some .boolean), Cond.methodLink RX4 79 yX4_within, Cond.static yX4_within, Cond.code yX4_within cX4_within 3 (some .boolean), Cond.methodLink RX2 57 yX2_takeHearer, Cond.instanceMethod yX2_takeHearer, Cond.selects RX2 yX2_takeHearer yX2_takeHearer, Cond.code yX2_takeHearer cX2_takeHearer 2 (some .int), Cond.fieldLink RX2 21 "LieBridges$Pad" "hearers" "[I", Cond.methodLink RX2 60 yX2_takeDenial]
def wsX4_done_r3 : List Cond := [Cond.instanceMethod yX2_takeDenial, Cond.selects RX2 yX2_takeDenial yX2_takeDenial, Cond.code yX2_takeDenial cX2_takeDenial 1 (some .int), Cond.methodLink RX2 63 yX2_takePlank, Cond.instanceMethod yX2_takePlank, Cond.selects RX2 yX2_takePlank yX2_takePlank, Cond.code yX2_takePlank cX2_takePlank 2 (some .int), Cond.fieldLink RX2 24 "LieBridges$Pad" "planks" "[I", Cond.static yX4_isPlank, Cond.code yX4_isPlank cX4_isPlank 1 (some .boolean), Cond.methodLink RX4 114 yX4_play, Cond.instanceMethod yX4_play, Cond.selects RX4 yX4_play yX4_play, Cond.code yX4_play cX4_play 3 none, Cond.methodLink RX4 110 yX4_takesEffect, Cond.instanceMethod yX4_takesEffect, Cond.selects RX4 yX4_takesEffect yX4_takesEffect, Cond.code yX4_takesEffect cX4_takesEffect 7 (some .boolean), Cond.fieldLink RX4 245 "LieBridges$Pad" "kinds" "[I", Cond.fieldLink RX4 248 "LieBridges$Pad" "speakers" "[I", Cond.fieldLink RX4 41 "LieBridges" "guesses" "[I", Cond.fieldLink RX4 251 "LieBridges$Pad" "hearers" "[I", Cond.fieldLink RX4 254 "LieBridges$Pad" "planks" "[I", Cond.methodLink RX4 134 yX4_at]
def wsX4_done_r4 : List Cond := [Cond.methodLink RX4 179 yX0_fadeADay, Cond.instanceMethod yX0_fadeADay, Cond.selects RX0 yX0_fadeADay yX0_fadeADay, Cond.initialized RX0, Cond.code yX0_fadeADay cX0_fadeADay 2 none, Cond.fieldLink RX0 9 "LieBridges$Beliefs" "days" "[I", Cond.methodLink RX4 226 yX1_tell, Cond.instanceMethod yX1_tell, Cond.selects RX1 yX1_tell yX1_tell, Cond.initialized RX1, Cond.code yX1_tell cX1_tell 6 (some .boolean), Cond.fieldLink RX1 24 "LieBridges$Delta" "trusted" "[I", Cond.fieldLink RX1 18 "LieBridges$Delta" "layers" "[I", Cond.fieldLink RX1 27 "LieBridges$Delta" "known" "[I", Cond.fieldLink RX1 43 "LieBridges$Delta" "fadeDays" "I", Cond.methodLink RX1 71 yX1_mayTell, Cond.instanceMethod yX1_mayTell, Cond.selects RX1 yX1_mayTell yX1_mayTell, Cond.code yX1_mayTell cX1_mayTell 4 (some .boolean), Cond.methodLink RX1 67 yX0_of, Cond.instanceMethod yX0_of, Cond.selects RX0 yX0_of yX0_of, Cond.code yX0_of cX0_of 4 (some .int), Cond.static yX4_hasBit]
def wsX4_done_r5 : List Cond := [Cond.code yX4_hasBit cX4_hasBit 3 (some .boolean), Cond.methodLink RX1 55 yX0_set, Cond.instanceMethod yX0_set, Cond.selects RX0 yX0_set yX0_set, Cond.code yX0_set cX0_set 4 none, Cond.methodLink RX4 257 yX1_deny, Cond.instanceMethod yX1_deny, Cond.selects RX1 yX1_deny yX1_deny, Cond.code yX1_deny cX1_deny 6 (some .boolean), Cond.methodLink RX4 93 yX2_clear, Cond.instanceMethod yX2_clear, Cond.selects RX2 yX2_clear yX2_clear, Cond.code yX2_clear cX2_clear 1 none]
def wsX4_done : List Cond := .code yX4_done cX4_done 3 (some .int) :: ((wsX4_done_r1 ++ (wsX4_done_r2 ++ (wsX4_done_r3 ++ (wsX4_done_r4 ++ wsX4_done_r5)))) ++ wsX40 ++ wsX10 ++ wsX20 ++ wsX00)
def wsX4_isPersonOrAll : List Cond := .code yX4_isPersonOrAll cX4_isPersonOrAll 1 (some .boolean) :: ([.methodLink RX4 55 yX4_isPerson, .static yX4_isPerson, .initialized RX4, .code yX4_isPerson cX4_isPerson 1 (some .boolean), .methodLink RX4 79 yX4_within, .static yX4_within, .code yX4_within cX4_within 3 (some .boolean)])
def wsX4_beliefOrLoad : List Cond := .code yX4_beliefOrLoad cX4_beliefOrLoad 3 (some .int) :: ([.methodLink RX4 142 yX0_load, .instanceMethod yX0_load, .selects RX0 yX0_load yX0_load, .initialized RX0, .code yX0_load cX0_load 5 (some .int), .methodLink RX0 19 yX0_of, .instanceMethod yX0_of, .selects RX0 yX0_of yX0_of, .code yX0_of cX0_of 4 (some .int), .fieldLink RX0 9 "LieBridges$Beliefs" "days" "[I", .methodLink RX4 242 yX0_of] ++ wsX00)
def wsX4_bears_r1 : List Cond := [Cond.fieldLink RX4 10 "LieBridges" "now" "LLieBridges$Delta;", Cond.fieldLink RX4 72 "LieBridges$Delta" "beliefs" "LLieBridges$Beliefs;", Cond.methodLink RX4 48 yX4_isPlank, Cond.static yX4_isPlank, Cond.initialized RX4, Cond.code yX4_isPlank cX4_isPlank 1 (some .boolean), Cond.methodLink RX4 79 yX4_within, Cond.static yX4_within, Cond.code yX4_within cX4_within 3 (some .boolean), Cond.methodLink RX4 117 yX4_isPersonOrAll, Cond.static yX4_isPersonOrAll, Cond.code yX4_isPersonOrAll cX4_isPersonOrAll 1 (some .boolean), Cond.methodLink RX4 55 yX4_isPerson, Cond.static yX4_isPerson, Cond.code yX4_isPerson cX4_isPerson 1 (some .boolean), Cond.methodLink RX4 120 yX4_beliefOrLoad, Cond.static yX4_beliefOrLoad, Cond.code yX4_beliefOrLoad cX4_beliefOrLoad 3 (some .int), Cond.methodLink RX4 142 yX0_load, Cond.instanceMethod yX0_load, Cond.selects RX0 yX0_load yX0_load, Cond.initialized RX0, Cond.code yX0_load cX0_load 5 (some .int), Cond.methodLink RX0 19 yX0_of]
def wsX4_bears_r2 : List Cond := [Cond.instanceMethod yX0_of, Cond.selects RX0 yX0_of yX0_of, Cond.code yX0_of cX0_of 4 (some .int), Cond.fieldLink RX0 9 "LieBridges$Beliefs" "days" "[I", Cond.methodLink RX4 242 yX0_of]
def wsX4_bears : List Cond := .code yX4_bears cX4_bears 3 (some .int) :: ((wsX4_bears_r1 ++ wsX4_bears_r2) ++ wsX40 ++ wsX10 ++ wsX00)
def wsX4_behind_r1 : List Cond := [Cond.fieldLink RX4 37 "LieBridges" "trial" "LLieBridges$Beliefs;", Cond.fieldLink RX4 10 "LieBridges" "now" "LLieBridges$Delta;", Cond.fieldLink RX4 72 "LieBridges$Delta" "beliefs" "LLieBridges$Beliefs;", Cond.methodLink RX4 48 yX4_isPlank, Cond.static yX4_isPlank, Cond.initialized RX4, Cond.code yX4_isPlank cX4_isPlank 1 (some .boolean), Cond.methodLink RX4 79 yX4_within, Cond.static yX4_within, Cond.code yX4_within cX4_within 3 (some .boolean), Cond.methodLink RX4 117 yX4_isPersonOrAll, Cond.static yX4_isPersonOrAll, Cond.code yX4_isPersonOrAll cX4_isPersonOrAll 1 (some .boolean), Cond.methodLink RX4 55 yX4_isPerson, Cond.static yX4_isPerson, Cond.code yX4_isPerson cX4_isPerson 1 (some .boolean), Cond.methodLink RX4 100 yX4_refusalOfText, Cond.instanceMethod yX4_refusalOfText, Cond.selects RX4 yX4_refusalOfText yX4_refusalOfText, Cond.code yX4_refusalOfText cX4_refusalOfText 1 (some .int), Cond.fieldLink RX4 23 "LieBridges" "pad" "LLieBridges$Pad;", Cond.fieldLink RX4 215 "LieBridges$Pad" "asked" "I", Cond.methodLink RX4 96 yX2_read, Cond.instanceMethod yX2_read]
def wsX4_behind_r2 : List Cond := [Cond.selects RX2 yX2_read yX2_read, Cond.initialized RX2, Cond.code yX2_read cX2_read 3 (some .int), Cond.fieldLink RX2 35 "LieBridges$Pad" "parts" "I", Cond.fieldLink RX2 38 "LieBridges$Pad" "asked" "I", Cond.fieldLink RX2 27 "LieBridges$Pad" "many" "I", Cond.fieldLink RX2 9 "LieBridges$Pad" "signs" "[I", Cond.static yX4_at, Cond.code yX4_at cX4_at 2 (some .int), Cond.methodLink RX2 45 yX2_take, Cond.instanceMethod yX2_take, Cond.selects RX2 yX2_take yX2_take, Cond.code yX2_take cX2_take 3 (some .int), Cond.methodLink RX2 49 yX2_takeDay, Cond.instanceMethod yX2_takeDay, Cond.selects RX2 yX2_takeDay yX2_takeDay, Cond.code yX2_takeDay cX2_takeDay 1 (some .int), Cond.fieldLink RX2 15 "LieBridges$Pad" "kinds" "[I", Cond.static yX4_put, Cond.code yX4_put cX4_put 3 none, Cond.methodLink RX2 53 yX2_takeSpeaker, Cond.instanceMethod yX2_takeSpeaker, Cond.selects RX2 yX2_takeSpeaker yX2_takeSpeaker, Cond.code yX2_takeSpeaker cX2_takeSpeaker 3 (some .int)]
def wsX4_behind_r3 : List Cond := [Cond.fieldLink RX2 18 "LieBridges$Pad" "speakers" "[I", Cond.methodLink RX2 57 yX2_takeHearer, Cond.instanceMethod yX2_takeHearer, Cond.selects RX2 yX2_takeHearer yX2_takeHearer, Cond.code yX2_takeHearer cX2_takeHearer 2 (some .int), Cond.fieldLink RX2 21 "LieBridges$Pad" "hearers" "[I", Cond.methodLink RX2 60 yX2_takeDenial, Cond.instanceMethod yX2_takeDenial, Cond.selects RX2 yX2_takeDenial yX2_takeDenial, Cond.code yX2_takeDenial cX2_takeDenial 1 (some .int), Cond.methodLink RX2 63 yX2_takePlank, Cond.instanceMethod yX2_takePlank, Cond.selects RX2 yX2_takePlank yX2_takePlank, Cond.code yX2_takePlank cX2_takePlank 2 (some .int), Cond.fieldLink RX2 24 "LieBridges$Pad" "planks" "[I", Cond.methodLink RX4 103 yX0_become, Cond.instanceMethod yX0_become, Cond.selects RX0 yX0_become yX0_become, Cond.initialized RX0, Cond.code yX0_become cX0_become 2 none, Cond.fieldLink RX0 9 "LieBridges$Beliefs" "days" "[I", Cond.static yX4_copy, Cond.code yX4_copy cX4_copy 3 none, Cond.methodLink RX4 134 yX4_at]
def wsX4_behind_r4 : List Cond := [Cond.methodLink RX4 114 yX4_play, Cond.instanceMethod yX4_play, Cond.selects RX4 yX4_play yX4_play, Cond.code yX4_play cX4_play 3 none, Cond.fieldLink RX4 107 "LieBridges$Pad" "parts" "I", Cond.methodLink RX4 110 yX4_takesEffect, Cond.instanceMethod yX4_takesEffect, Cond.selects RX4 yX4_takesEffect yX4_takesEffect, Cond.code yX4_takesEffect cX4_takesEffect 7 (some .boolean), Cond.fieldLink RX4 245 "LieBridges$Pad" "kinds" "[I", Cond.fieldLink RX4 248 "LieBridges$Pad" "speakers" "[I", Cond.fieldLink RX4 41 "LieBridges" "guesses" "[I", Cond.fieldLink RX4 251 "LieBridges$Pad" "hearers" "[I", Cond.fieldLink RX4 254 "LieBridges$Pad" "planks" "[I", Cond.methodLink RX4 179 yX0_fadeADay, Cond.instanceMethod yX0_fadeADay, Cond.selects RX0 yX0_fadeADay yX0_fadeADay, Cond.code yX0_fadeADay cX0_fadeADay 2 none, Cond.methodLink RX4 226 yX1_tell, Cond.instanceMethod yX1_tell, Cond.selects RX1 yX1_tell yX1_tell, Cond.initialized RX1, Cond.code yX1_tell cX1_tell 6 (some .boolean), Cond.fieldLink RX1 24 "LieBridges$Delta" "trusted" "[I"]
def wsX4_behind_r5 : List Cond := [Cond.fieldLink RX1 18 "LieBridges$Delta" "layers" "[I", Cond.fieldLink RX1 27 "LieBridges$Delta" "known" "[I", Cond.fieldLink RX1 43 "LieBridges$Delta" "fadeDays" "I", Cond.methodLink RX1 71 yX1_mayTell, Cond.instanceMethod yX1_mayTell, Cond.selects RX1 yX1_mayTell yX1_mayTell, Cond.code yX1_mayTell cX1_mayTell 4 (some .boolean), Cond.methodLink RX1 67 yX0_of, Cond.instanceMethod yX0_of, Cond.selects RX0 yX0_of yX0_of, Cond.code yX0_of cX0_of 4 (some .int), Cond.static yX4_hasBit, Cond.code yX4_hasBit cX4_hasBit 3 (some .boolean), Cond.methodLink RX1 55 yX0_set, Cond.instanceMethod yX0_set, Cond.selects RX0 yX0_set yX0_set, Cond.code yX0_set cX0_set 4 none, Cond.methodLink RX4 257 yX1_deny, Cond.instanceMethod yX1_deny, Cond.selects RX1 yX1_deny yX1_deny, Cond.code yX1_deny cX1_deny 6 (some .boolean), Cond.methodLink RX4 120 yX4_beliefOrLoad, Cond.static yX4_beliefOrLoad, Cond.code yX4_beliefOrLoad cX4_beliefOrLoad 3 (some .int)]
def wsX4_behind_r6 : List Cond := [Cond.methodLink RX4 142 yX0_load, Cond.instanceMethod yX0_load, Cond.selects RX0 yX0_load yX0_load, Cond.code yX0_load cX0_load 5 (some .int), Cond.methodLink RX0 19 yX0_of, Cond.methodLink RX4 242 yX0_of]
def wsX4_behind : List Cond := .code yX4_behind cX4_behind 4 (some .int) :: ((wsX4_behind_r1 ++ (wsX4_behind_r2 ++ (wsX4_behind_r3 ++ (wsX4_behind_r4 ++ (wsX4_behind_r5 ++ wsX4_behind_r6))))) ++ wsX40 ++ wsX10 ++ wsX20 ++ wsX00)
def wsX4_isParty : List Cond := .code yX4_isParty cX4_isParty 1 (some .boolean) :: ([.methodLink RX4 79 yX4_within, .static yX4_within, .initialized RX4, .code yX4_within cX4_within 3 (some .boolean)])
def wsX4_isChoice : List Cond := .code yX4_isChoice cX4_isChoice 1 (some .boolean) :: ([])
def wsX4_splitRoute : List Cond := .code yX4_splitRoute cX4_splitRoute 5 (some .boolean) :: ([.fieldLink RX4 45 "LieBridges" "route" "[I", .methodLink RX4 189 yX4_put, .static yX4_put, .initialized RX4, .code yX4_put cX4_put 3 none] ++ wsX40)
def wsX4_falls_r1 : List Cond := [Cond.fieldLink RX4 45 "LieBridges" "route" "[I", Cond.fieldLink RX4 10 "LieBridges" "now" "LLieBridges$Delta;", Cond.fieldLink RX4 72 "LieBridges$Delta" "beliefs" "LLieBridges$Beliefs;", Cond.methodLink RX4 52 yX4_isIsland, Cond.static yX4_isIsland, Cond.initialized RX4, Cond.code yX4_isIsland cX4_isIsland 1 (some .boolean), Cond.methodLink RX4 79 yX4_within, Cond.static yX4_within, Cond.code yX4_within cX4_within 3 (some .boolean), Cond.methodLink RX4 124 yX4_isParty, Cond.static yX4_isParty, Cond.code yX4_isParty cX4_isParty 1 (some .boolean), Cond.methodLink RX4 127 yX4_isChoice, Cond.static yX4_isChoice, Cond.code yX4_isChoice cX4_isChoice 1 (some .boolean), Cond.methodLink RX4 130 yX4_splitRoute, Cond.instanceMethod yX4_splitRoute, Cond.selects RX4 yX4_splitRoute yX4_splitRoute, Cond.code yX4_splitRoute cX4_splitRoute 5 (some .boolean), Cond.methodLink RX4 189 yX4_put, Cond.static yX4_put, Cond.code yX4_put cX4_put 3 none, Cond.methodLink RX4 134 yX4_at]
def wsX4_falls_r2 : List Cond := [Cond.static yX4_at, Cond.code yX4_at cX4_at 2 (some .int), Cond.methodLink RX4 138 yX1_across, Cond.instanceMethod yX1_across, Cond.selects RX1 yX1_across yX1_across, Cond.initialized RX1, Cond.code yX1_across cX1_across 3 (some .int), Cond.fieldLink RX1 9 "LieBridges$Delta" "lessers" "[I", Cond.fieldLink RX1 15 "LieBridges$Delta" "greaters" "[I", Cond.static yX4_isPlank, Cond.code yX4_isPlank cX4_isPlank 1 (some .boolean), Cond.methodLink RX4 142 yX0_load, Cond.instanceMethod yX0_load, Cond.selects RX0 yX0_load yX0_load, Cond.initialized RX0, Cond.code yX0_load cX0_load 5 (some .int), Cond.methodLink RX0 19 yX0_of, Cond.instanceMethod yX0_of, Cond.selects RX0 yX0_of yX0_of, Cond.code yX0_of cX0_of 4 (some .int), Cond.fieldLink RX0 9 "LieBridges$Beliefs" "days" "[I"]
def wsX4_falls : List Cond := .code yX4_falls cX4_falls 12 (some .int) :: ((wsX4_falls_r1 ++ wsX4_falls_r2) ++ wsX40 ++ wsX10 ++ wsX00)
def wsX4_tellToAll_r1 : List Cond := [Cond.fieldLink RX4 10 "LieBridges" "now" "LLieBridges$Delta;", Cond.methodLink RX4 226 yX1_tell, Cond.instanceMethod yX1_tell, Cond.selects RX1 yX1_tell yX1_tell, Cond.initialized RX1, Cond.code yX1_tell cX1_tell 6 (some .boolean), Cond.fieldLink RX1 24 "LieBridges$Delta" "trusted" "[I", Cond.fieldLink RX1 18 "LieBridges$Delta" "layers" "[I", Cond.fieldLink RX1 27 "LieBridges$Delta" "known" "[I", Cond.fieldLink RX1 43 "LieBridges$Delta" "fadeDays" "I", Cond.methodLink RX1 71 yX1_mayTell, Cond.instanceMethod yX1_mayTell, Cond.selects RX1 yX1_mayTell yX1_mayTell, Cond.code yX1_mayTell cX1_mayTell 4 (some .boolean), Cond.static yX4_at, Cond.initialized RX4, Cond.code yX4_at cX4_at 2 (some .int), Cond.methodLink RX1 67 yX0_of, Cond.instanceMethod yX0_of, Cond.selects RX0 yX0_of yX0_of, Cond.initialized RX0, Cond.code yX0_of cX0_of 4 (some .int), Cond.fieldLink RX0 9 "LieBridges$Beliefs" "days" "[I", Cond.static yX4_hasBit]
def wsX4_tellToAll_r2 : List Cond := [Cond.code yX4_hasBit cX4_hasBit 3 (some .boolean), Cond.methodLink RX4 134 yX4_at, Cond.methodLink RX1 55 yX0_set, Cond.instanceMethod yX0_set, Cond.selects RX0 yX0_set yX0_set, Cond.code yX0_set cX0_set 4 none, Cond.static yX4_put, Cond.code yX4_put cX4_put 3 none]
def wsX4_tellToAll : List Cond := .code yX4_tellToAll cX4_tellToAll 5 none :: ((wsX4_tellToAll_r1 ++ wsX4_tellToAll_r2) ++ wsX40 ++ wsX10 ++ wsX00)
def wsX4_spread_r1 : List Cond := [Cond.fieldLink RX4 10 "LieBridges" "now" "LLieBridges$Delta;", Cond.methodLink RX4 260 yX1_mayTell, Cond.instanceMethod yX1_mayTell, Cond.selects RX1 yX1_mayTell yX1_mayTell, Cond.initialized RX1, Cond.code yX1_mayTell cX1_mayTell 4 (some .boolean), Cond.fieldLink RX1 18 "LieBridges$Delta" "layers" "[I", Cond.static yX4_at, Cond.initialized RX4, Cond.code yX4_at cX4_at 2 (some .int), Cond.methodLink RX1 67 yX0_of, Cond.instanceMethod yX0_of, Cond.selects RX0 yX0_of yX0_of, Cond.initialized RX0, Cond.code yX0_of cX0_of 4 (some .int), Cond.fieldLink RX0 9 "LieBridges$Beliefs" "days" "[I", Cond.methodLink RX4 182 yX4_tellToAll, Cond.instanceMethod yX4_tellToAll, Cond.selects RX4 yX4_tellToAll yX4_tellToAll, Cond.code yX4_tellToAll cX4_tellToAll 5 none, Cond.methodLink RX4 226 yX1_tell, Cond.instanceMethod yX1_tell, Cond.selects RX1 yX1_tell yX1_tell, Cond.code yX1_tell cX1_tell 6 (some .boolean)]
def wsX4_spread_r2 : List Cond := [Cond.fieldLink RX1 24 "LieBridges$Delta" "trusted" "[I", Cond.fieldLink RX1 27 "LieBridges$Delta" "known" "[I", Cond.fieldLink RX1 43 "LieBridges$Delta" "fadeDays" "I", Cond.methodLink RX1 71 yX1_mayTell, Cond.static yX4_hasBit, Cond.code yX4_hasBit cX4_hasBit 3 (some .boolean), Cond.methodLink RX4 134 yX4_at, Cond.methodLink RX1 55 yX0_set, Cond.instanceMethod yX0_set, Cond.selects RX0 yX0_set yX0_set, Cond.code yX0_set cX0_set 4 none, Cond.static yX4_put, Cond.code yX4_put cX4_put 3 none]
def wsX4_spread : List Cond := .code yX4_spread cX4_spread 5 none :: ((wsX4_spread_r1 ++ wsX4_spread_r2) ++ wsX40 ++ wsX10 ++ wsX00)
def wsX4_tellingsFor_r1 : List Cond := [Cond.fieldLink RX4 37 "LieBridges" "trial" "LLieBridges$Beliefs;", Cond.fieldLink RX4 10 "LieBridges" "now" "LLieBridges$Delta;", Cond.fieldLink RX4 72 "LieBridges$Delta" "beliefs" "LLieBridges$Beliefs;", Cond.methodLink RX4 103 yX0_become, Cond.instanceMethod yX0_become, Cond.selects RX0 yX0_become yX0_become, Cond.initialized RX0, Cond.code yX0_become cX0_become 2 none, Cond.fieldLink RX0 9 "LieBridges$Beliefs" "days" "[I", Cond.static yX4_copy, Cond.initialized RX4, Cond.code yX4_copy cX4_copy 3 none, Cond.methodLink RX4 134 yX4_at, Cond.static yX4_at, Cond.code yX4_at cX4_at 2 (some .int), Cond.methodLink RX4 142 yX0_load, Cond.instanceMethod yX0_load, Cond.selects RX0 yX0_load yX0_load, Cond.code yX0_load cX0_load 5 (some .int), Cond.methodLink RX0 19 yX0_of, Cond.instanceMethod yX0_of, Cond.selects RX0 yX0_of yX0_of, Cond.code yX0_of cX0_of 4 (some .int), Cond.methodLink RX4 175 yX4_spread]
def wsX4_tellingsFor_r2 : List Cond := [Cond.instanceMethod yX4_spread, Cond.selects RX4 yX4_spread yX4_spread, Cond.code yX4_spread cX4_spread 5 none, Cond.methodLink RX4 260 yX1_mayTell, Cond.instanceMethod yX1_mayTell, Cond.selects RX1 yX1_mayTell yX1_mayTell, Cond.initialized RX1, Cond.code yX1_mayTell cX1_mayTell 4 (some .boolean), Cond.fieldLink RX1 18 "LieBridges$Delta" "layers" "[I", Cond.methodLink RX1 67 yX0_of, Cond.methodLink RX4 182 yX4_tellToAll, Cond.instanceMethod yX4_tellToAll, Cond.selects RX4 yX4_tellToAll yX4_tellToAll, Cond.code yX4_tellToAll cX4_tellToAll 5 none, Cond.methodLink RX4 226 yX1_tell, Cond.instanceMethod yX1_tell, Cond.selects RX1 yX1_tell yX1_tell, Cond.code yX1_tell cX1_tell 6 (some .boolean), Cond.fieldLink RX1 24 "LieBridges$Delta" "trusted" "[I", Cond.fieldLink RX1 27 "LieBridges$Delta" "known" "[I", Cond.fieldLink RX1 43 "LieBridges$Delta" "fadeDays" "I", Cond.methodLink RX1 71 yX1_mayTell, Cond.static yX4_hasBit, Cond.code yX4_hasBit cX4_hasBit 3 (some .boolean)]
def wsX4_tellingsFor_r3 : List Cond := [Cond.methodLink RX1 55 yX0_set, Cond.instanceMethod yX0_set, Cond.selects RX0 yX0_set yX0_set, Cond.code yX0_set cX0_set 4 none, Cond.static yX4_put, Cond.code yX4_put cX4_put 3 none]
def wsX4_tellingsFor : List Cond := .code yX4_tellingsFor cX4_tellingsFor 5 (some .int) :: ((wsX4_tellingsFor_r1 ++ (wsX4_tellingsFor_r2 ++ wsX4_tellingsFor_r3)) ++ wsX40 ++ wsX10 ++ wsX00)
def wsX4_tellings_r1 : List Cond := [Cond.fieldLink RX4 30 "LieBridges" "ways" "LLieBridges$Ways;", Cond.fieldLink RX4 10 "LieBridges" "now" "LLieBridges$Delta;", Cond.fieldLink RX4 160 "LieBridges$Ways" "worth" "J", Cond.methodLink RX4 52 yX4_isIsland, Cond.static yX4_isIsland, Cond.initialized RX4, Cond.code yX4_isIsland cX4_isIsland 1 (some .boolean), Cond.methodLink RX4 79 yX4_within, Cond.static yX4_within, Cond.code yX4_within cX4_within 3 (some .boolean), Cond.methodLink RX4 124 yX4_isParty, Cond.static yX4_isParty, Cond.code yX4_isParty cX4_isParty 1 (some .boolean), Cond.methodLink RX4 145 yX4_tellingsFor, Cond.instanceMethod yX4_tellingsFor, Cond.selects RX4 yX4_tellingsFor yX4_tellingsFor, Cond.code yX4_tellingsFor cX4_tellingsFor 5 (some .int), Cond.fieldLink RX4 37 "LieBridges" "trial" "LLieBridges$Beliefs;", Cond.fieldLink RX4 72 "LieBridges$Delta" "beliefs" "LLieBridges$Beliefs;", Cond.methodLink RX4 103 yX0_become, Cond.instanceMethod yX0_become, Cond.selects RX0 yX0_become yX0_become, Cond.initialized RX0, Cond.code yX0_become cX0_become 2 none]
def wsX4_tellings_r2 : List Cond := [Cond.fieldLink RX0 9 "LieBridges$Beliefs" "days" "[I", Cond.static yX4_copy, Cond.code yX4_copy cX4_copy 3 none, Cond.methodLink RX4 134 yX4_at, Cond.static yX4_at, Cond.code yX4_at cX4_at 2 (some .int), Cond.methodLink RX4 142 yX0_load, Cond.instanceMethod yX0_load, Cond.selects RX0 yX0_load yX0_load, Cond.code yX0_load cX0_load 5 (some .int), Cond.methodLink RX0 19 yX0_of, Cond.instanceMethod yX0_of, Cond.selects RX0 yX0_of yX0_of, Cond.code yX0_of cX0_of 4 (some .int), Cond.methodLink RX4 175 yX4_spread, Cond.instanceMethod yX4_spread, Cond.selects RX4 yX4_spread yX4_spread, Cond.code yX4_spread cX4_spread 5 none, Cond.methodLink RX4 260 yX1_mayTell, Cond.instanceMethod yX1_mayTell, Cond.selects RX1 yX1_mayTell yX1_mayTell, Cond.initialized RX1, Cond.code yX1_mayTell cX1_mayTell 4 (some .boolean), Cond.fieldLink RX1 18 "LieBridges$Delta" "layers" "[I"]
def wsX4_tellings_r3 : List Cond := [Cond.methodLink RX1 67 yX0_of, Cond.methodLink RX4 182 yX4_tellToAll, Cond.instanceMethod yX4_tellToAll, Cond.selects RX4 yX4_tellToAll yX4_tellToAll, Cond.code yX4_tellToAll cX4_tellToAll 5 none, Cond.methodLink RX4 226 yX1_tell, Cond.instanceMethod yX1_tell, Cond.selects RX1 yX1_tell yX1_tell, Cond.code yX1_tell cX1_tell 6 (some .boolean), Cond.fieldLink RX1 24 "LieBridges$Delta" "trusted" "[I", Cond.fieldLink RX1 27 "LieBridges$Delta" "known" "[I", Cond.fieldLink RX1 43 "LieBridges$Delta" "fadeDays" "I", Cond.methodLink RX1 71 yX1_mayTell, Cond.static yX4_hasBit, Cond.code yX4_hasBit cX4_hasBit 3 (some .boolean), Cond.methodLink RX1 55 yX0_set, Cond.instanceMethod yX0_set, Cond.selects RX0 yX0_set yX0_set, Cond.code yX0_set cX0_set 4 none, Cond.static yX4_put, Cond.code yX4_put cX4_put 3 none, Cond.methodLink RX4 148 yX3_weigh, Cond.instanceMethod yX3_weigh, Cond.selects RX3 yX3_weigh yX3_weigh]
def wsX4_tellings_r4 : List Cond := [Cond.initialized RX3, Cond.code yX3_weigh cX3_weigh 3 none, Cond.fieldLink RX3 9 "LieBridges$Ways" "weights" "[I", Cond.methodLink RX4 152 yX3_findCheapest, Cond.instanceMethod yX3_findCheapest, Cond.selects RX3 yX3_findCheapest yX3_findCheapest, Cond.code yX3_findCheapest cX3_findCheapest 4 none, Cond.fieldLink RX3 25 "LieBridges$Ways" "likeliest" "Z", Cond.methodLink RX3 29 yX3_find, Cond.instanceMethod yX3_find, Cond.selects RX3 yX3_find yX3_find, Cond.code yX3_find cX3_find 6 none, Cond.fieldLink RX3 43 "LieBridges$Ways" "goal" "I", Cond.fieldLink RX3 35 "LieBridges$Ways" "length" "I", Cond.fieldLink RX3 46 "LieBridges$Ways" "worth" "J", Cond.methodLink RX3 50 yX3_walk, Cond.instanceMethod yX3_walk, Cond.selects RX3 yX3_walk yX3_walk, Cond.code yX3_walk cX3_walk 8 none, Cond.methodLink RX3 54 yX3_keepIfBetter, Cond.instanceMethod yX3_keepIfBetter, Cond.selects RX3 yX3_keepIfBetter yX3_keepIfBetter, Cond.code yX3_keepIfBetter cX3_keepIfBetter 4 none, Cond.fieldLink RX3 15 "LieBridges$Ways" "trodden" "[I"]
def wsX4_tellings_r5 : List Cond := [Cond.fieldLink RX3 18 "LieBridges$Ways" "best" "[I", Cond.methodLink RX3 70 yX3_found, Cond.instanceMethod yX3_found, Cond.selects RX3 yX3_found yX3_found, Cond.code yX3_found cX3_found 1 (some .boolean), Cond.methodLink RX3 58 yX3_tread, Cond.instanceMethod yX3_tread, Cond.selects RX3 yX3_tread yX3_tread, Cond.code yX3_tread cX3_tread 12 none, Cond.constantLong RX3 68 (10), Cond.methodLink RX3 62 yX1_across, Cond.instanceMethod yX1_across, Cond.selects RX1 yX1_across yX1_across, Cond.code yX1_across cX1_across 3 (some .int), Cond.fieldLink RX1 9 "LieBridges$Delta" "lessers" "[I", Cond.fieldLink RX1 15 "LieBridges$Delta" "greaters" "[I", Cond.static yX4_isPlank, Cond.code yX4_isPlank cX4_isPlank 1 (some .boolean), Cond.methodLink RX4 156 yX3_found, Cond.methodLink RX4 164 yX3_step, Cond.instanceMethod yX3_step, Cond.selects RX3 yX3_step yX3_step, Cond.code yX3_step cX3_step 2 (some .int)]
def wsX4_tellings : List Cond := .code yX4_tellings cX4_tellings 6 (some .int) :: ((wsX4_tellings_r1 ++ (wsX4_tellings_r2 ++ (wsX4_tellings_r3 ++ (wsX4_tellings_r4 ++ wsX4_tellings_r5)))) ++ wsX40 ++ wsX30 ++ wsX10 ++ wsX00)
def wsX4_standsBehind_r1 : List Cond := [Cond.fieldLink RX4 30 "LieBridges" "ways" "LLieBridges$Ways;", Cond.fieldLink RX4 10 "LieBridges" "now" "LLieBridges$Delta;", Cond.fieldLink RX4 72 "LieBridges$Delta" "beliefs" "LLieBridges$Beliefs;", Cond.methodLink RX4 142 yX0_load, Cond.instanceMethod yX0_load, Cond.selects RX0 yX0_load yX0_load, Cond.initialized RX0, Cond.code yX0_load cX0_load 5 (some .int), Cond.methodLink RX0 19 yX0_of, Cond.instanceMethod yX0_of, Cond.selects RX0 yX0_of yX0_of, Cond.code yX0_of cX0_of 4 (some .int), Cond.fieldLink RX0 9 "LieBridges$Beliefs" "days" "[I", Cond.methodLink RX4 148 yX3_weigh, Cond.instanceMethod yX3_weigh, Cond.selects RX3 yX3_weigh yX3_weigh, Cond.initialized RX3, Cond.code yX3_weigh cX3_weigh 3 none, Cond.fieldLink RX3 9 "LieBridges$Ways" "weights" "[I", Cond.static yX4_put, Cond.initialized RX4, Cond.code yX4_put cX4_put 3 none, Cond.methodLink RX4 152 yX3_findCheapest, Cond.instanceMethod yX3_findCheapest]
def wsX4_standsBehind_r2 : List Cond := [Cond.selects RX3 yX3_findCheapest yX3_findCheapest, Cond.code yX3_findCheapest cX3_findCheapest 4 none, Cond.fieldLink RX3 25 "LieBridges$Ways" "likeliest" "Z", Cond.methodLink RX3 29 yX3_find, Cond.instanceMethod yX3_find, Cond.selects RX3 yX3_find yX3_find, Cond.code yX3_find cX3_find 6 none, Cond.fieldLink RX3 43 "LieBridges$Ways" "goal" "I", Cond.fieldLink RX3 35 "LieBridges$Ways" "length" "I", Cond.fieldLink RX3 46 "LieBridges$Ways" "worth" "J", Cond.methodLink RX3 50 yX3_walk, Cond.instanceMethod yX3_walk, Cond.selects RX3 yX3_walk yX3_walk, Cond.code yX3_walk cX3_walk 8 none, Cond.methodLink RX3 54 yX3_keepIfBetter, Cond.instanceMethod yX3_keepIfBetter, Cond.selects RX3 yX3_keepIfBetter yX3_keepIfBetter, Cond.code yX3_keepIfBetter cX3_keepIfBetter 4 none, Cond.fieldLink RX3 15 "LieBridges$Ways" "trodden" "[I", Cond.fieldLink RX3 18 "LieBridges$Ways" "best" "[I", Cond.methodLink RX3 70 yX3_found, Cond.instanceMethod yX3_found, Cond.selects RX3 yX3_found yX3_found, Cond.code yX3_found cX3_found 1 (some .boolean)]
def wsX4_standsBehind_r3 : List Cond := [Cond.static yX4_copy, Cond.code yX4_copy cX4_copy 3 none, Cond.methodLink RX4 134 yX4_at, Cond.static yX4_at, Cond.code yX4_at cX4_at 2 (some .int), Cond.methodLink RX3 58 yX3_tread, Cond.instanceMethod yX3_tread, Cond.selects RX3 yX3_tread yX3_tread, Cond.code yX3_tread cX3_tread 12 none, Cond.constantLong RX3 68 (10), Cond.methodLink RX3 62 yX1_across, Cond.instanceMethod yX1_across, Cond.selects RX1 yX1_across yX1_across, Cond.initialized RX1, Cond.code yX1_across cX1_across 3 (some .int), Cond.fieldLink RX1 9 "LieBridges$Delta" "lessers" "[I", Cond.fieldLink RX1 15 "LieBridges$Delta" "greaters" "[I", Cond.static yX4_isPlank, Cond.code yX4_isPlank cX4_isPlank 1 (some .boolean), Cond.methodLink RX4 79 yX4_within, Cond.static yX4_within, Cond.code yX4_within cX4_within 3 (some .boolean), Cond.methodLink RX4 156 yX3_found]
def wsX4_standsBehind : List Cond := .code yX4_standsBehind cX4_standsBehind 6 (some .boolean) :: ((wsX4_standsBehind_r1 ++ (wsX4_standsBehind_r2 ++ wsX4_standsBehind_r3)) ++ wsX40 ++ wsX10 ++ wsX00 ++ wsX30)
def wsX4_stands_r1 : List Cond := [Cond.methodLink RX4 52 yX4_isIsland, Cond.static yX4_isIsland, Cond.initialized RX4, Cond.code yX4_isIsland cX4_isIsland 1 (some .boolean), Cond.methodLink RX4 79 yX4_within, Cond.static yX4_within, Cond.code yX4_within cX4_within 3 (some .boolean), Cond.methodLink RX4 124 yX4_isParty, Cond.static yX4_isParty, Cond.code yX4_isParty cX4_isParty 1 (some .boolean), Cond.methodLink RX4 168 yX4_standsBehind, Cond.instanceMethod yX4_standsBehind, Cond.selects RX4 yX4_standsBehind yX4_standsBehind, Cond.code yX4_standsBehind cX4_standsBehind 6 (some .boolean), Cond.fieldLink RX4 30 "LieBridges" "ways" "LLieBridges$Ways;", Cond.fieldLink RX4 10 "LieBridges" "now" "LLieBridges$Delta;", Cond.fieldLink RX4 72 "LieBridges$Delta" "beliefs" "LLieBridges$Beliefs;", Cond.methodLink RX4 142 yX0_load, Cond.instanceMethod yX0_load, Cond.selects RX0 yX0_load yX0_load, Cond.initialized RX0, Cond.code yX0_load cX0_load 5 (some .int), Cond.methodLink RX0 19 yX0_of, Cond.instanceMethod yX0_of]
def wsX4_stands_r2 : List Cond := [Cond.selects RX0 yX0_of yX0_of, Cond.code yX0_of cX0_of 4 (some .int), Cond.fieldLink RX0 9 "LieBridges$Beliefs" "days" "[I", Cond.methodLink RX4 148 yX3_weigh, Cond.instanceMethod yX3_weigh, Cond.selects RX3 yX3_weigh yX3_weigh, Cond.initialized RX3, Cond.code yX3_weigh cX3_weigh 3 none, Cond.fieldLink RX3 9 "LieBridges$Ways" "weights" "[I", Cond.static yX4_put, Cond.code yX4_put cX4_put 3 none, Cond.methodLink RX4 152 yX3_findCheapest, Cond.instanceMethod yX3_findCheapest, Cond.selects RX3 yX3_findCheapest yX3_findCheapest, Cond.code yX3_findCheapest cX3_findCheapest 4 none, Cond.fieldLink RX3 25 "LieBridges$Ways" "likeliest" "Z", Cond.methodLink RX3 29 yX3_find, Cond.instanceMethod yX3_find, Cond.selects RX3 yX3_find yX3_find, Cond.code yX3_find cX3_find 6 none, Cond.fieldLink RX3 43 "LieBridges$Ways" "goal" "I", Cond.fieldLink RX3 35 "LieBridges$Ways" "length" "I", Cond.fieldLink RX3 46 "LieBridges$Ways" "worth" "J", Cond.methodLink RX3 50 yX3_walk]
def wsX4_stands_r3 : List Cond := [Cond.instanceMethod yX3_walk, Cond.selects RX3 yX3_walk yX3_walk, Cond.code yX3_walk cX3_walk 8 none, Cond.methodLink RX3 54 yX3_keepIfBetter, Cond.instanceMethod yX3_keepIfBetter, Cond.selects RX3 yX3_keepIfBetter yX3_keepIfBetter, Cond.code yX3_keepIfBetter cX3_keepIfBetter 4 none, Cond.fieldLink RX3 15 "LieBridges$Ways" "trodden" "[I", Cond.fieldLink RX3 18 "LieBridges$Ways" "best" "[I", Cond.methodLink RX3 70 yX3_found, Cond.instanceMethod yX3_found, Cond.selects RX3 yX3_found yX3_found, Cond.code yX3_found cX3_found 1 (some .boolean), Cond.static yX4_copy, Cond.code yX4_copy cX4_copy 3 none, Cond.methodLink RX4 134 yX4_at, Cond.static yX4_at, Cond.code yX4_at cX4_at 2 (some .int), Cond.methodLink RX3 58 yX3_tread, Cond.instanceMethod yX3_tread, Cond.selects RX3 yX3_tread yX3_tread, Cond.code yX3_tread cX3_tread 12 none, Cond.constantLong RX3 68 (10), Cond.methodLink RX3 62 yX1_across]
def wsX4_stands_r4 : List Cond := [Cond.instanceMethod yX1_across, Cond.selects RX1 yX1_across yX1_across, Cond.initialized RX1, Cond.code yX1_across cX1_across 3 (some .int), Cond.fieldLink RX1 9 "LieBridges$Delta" "lessers" "[I", Cond.fieldLink RX1 15 "LieBridges$Delta" "greaters" "[I", Cond.static yX4_isPlank, Cond.code yX4_isPlank cX4_isPlank 1 (some .boolean), Cond.methodLink RX4 156 yX3_found]
def wsX4_stands : List Cond := .code yX4_stands cX4_stands 5 (some .int) :: ((wsX4_stands_r1 ++ (wsX4_stands_r2 ++ (wsX4_stands_r3 ++ wsX4_stands_r4))) ++ wsX40 ++ wsX10 ++ wsX00 ++ wsX30)
def wsX4_denyToAll_r1 : List Cond := [Cond.fieldLink RX4 10 "LieBridges" "now" "LLieBridges$Delta;", Cond.methodLink RX4 257 yX1_deny, Cond.instanceMethod yX1_deny, Cond.selects RX1 yX1_deny yX1_deny, Cond.initialized RX1, Cond.code yX1_deny cX1_deny 6 (some .boolean), Cond.fieldLink RX1 24 "LieBridges$Delta" "trusted" "[I", Cond.static yX4_hasBit, Cond.initialized RX4, Cond.code yX4_hasBit cX4_hasBit 3 (some .boolean), Cond.methodLink RX4 134 yX4_at, Cond.static yX4_at, Cond.code yX4_at cX4_at 2 (some .int), Cond.methodLink RX1 67 yX0_of, Cond.instanceMethod yX0_of, Cond.selects RX0 yX0_of yX0_of, Cond.initialized RX0, Cond.code yX0_of cX0_of 4 (some .int), Cond.fieldLink RX0 9 "LieBridges$Beliefs" "days" "[I", Cond.methodLink RX1 55 yX0_set, Cond.instanceMethod yX0_set, Cond.selects RX0 yX0_set yX0_set, Cond.code yX0_set cX0_set 4 none, Cond.static yX4_put]
def wsX4_denyToAll_r2 : List Cond := [Cond.code yX4_put cX4_put 3 none]
def wsX4_denyToAll : List Cond := .code yX4_denyToAll cX4_denyToAll 6 (some .int) :: ((wsX4_denyToAll_r1 ++ wsX4_denyToAll_r2) ++ wsX40 ++ wsX10 ++ wsX00)
def wsX4_word_r1 : List Cond := [Cond.fieldLink RX4 37 "LieBridges" "trial" "LLieBridges$Beliefs;", Cond.fieldLink RX4 10 "LieBridges" "now" "LLieBridges$Delta;", Cond.fieldLink RX4 72 "LieBridges$Delta" "beliefs" "LLieBridges$Beliefs;", Cond.methodLink RX4 127 yX4_isChoice, Cond.static yX4_isChoice, Cond.initialized RX4, Cond.code yX4_isChoice cX4_isChoice 1 (some .boolean), Cond.methodLink RX4 103 yX0_become, Cond.instanceMethod yX0_become, Cond.selects RX0 yX0_become yX0_become, Cond.initialized RX0, Cond.code yX0_become cX0_become 2 none, Cond.fieldLink RX0 9 "LieBridges$Beliefs" "days" "[I", Cond.static yX4_copy, Cond.code yX4_copy cX4_copy 3 none, Cond.methodLink RX4 134 yX4_at, Cond.static yX4_at, Cond.code yX4_at cX4_at 2 (some .int), Cond.methodLink RX4 172 yX4_denyToAll, Cond.instanceMethod yX4_denyToAll, Cond.selects RX4 yX4_denyToAll yX4_denyToAll, Cond.code yX4_denyToAll cX4_denyToAll 6 (some .int), Cond.methodLink RX4 257 yX1_deny, Cond.instanceMethod yX1_deny]
def wsX4_word_r2 : List Cond := [Cond.selects RX1 yX1_deny yX1_deny, Cond.initialized RX1, Cond.code yX1_deny cX1_deny 6 (some .boolean), Cond.fieldLink RX1 24 "LieBridges$Delta" "trusted" "[I", Cond.static yX4_hasBit, Cond.code yX4_hasBit cX4_hasBit 3 (some .boolean), Cond.methodLink RX1 67 yX0_of, Cond.instanceMethod yX0_of, Cond.selects RX0 yX0_of yX0_of, Cond.code yX0_of cX0_of 4 (some .int), Cond.methodLink RX1 55 yX0_set, Cond.instanceMethod yX0_set, Cond.selects RX0 yX0_set yX0_set, Cond.code yX0_set cX0_set 4 none, Cond.static yX4_put, Cond.code yX4_put cX4_put 3 none]
def wsX4_word : List Cond := .code yX4_word cX4_word 7 (some .int) :: ((wsX4_word_r1 ++ wsX4_word_r2) ++ wsX40 ++ wsX10 ++ wsX00)
def wsX4_rumour_r1 : List Cond := [Cond.fieldLink RX4 37 "LieBridges" "trial" "LLieBridges$Beliefs;", Cond.fieldLink RX4 10 "LieBridges" "now" "LLieBridges$Delta;", Cond.fieldLink RX4 72 "LieBridges$Delta" "beliefs" "LLieBridges$Beliefs;", Cond.methodLink RX4 48 yX4_isPlank, Cond.static yX4_isPlank, Cond.initialized RX4, Cond.code yX4_isPlank cX4_isPlank 1 (some .boolean), Cond.methodLink RX4 79 yX4_within, Cond.static yX4_within, Cond.code yX4_within cX4_within 3 (some .boolean), Cond.methodLink RX4 124 yX4_isParty, Cond.static yX4_isParty, Cond.code yX4_isParty cX4_isParty 1 (some .boolean), Cond.methodLink RX4 103 yX0_become, Cond.instanceMethod yX0_become, Cond.selects RX0 yX0_become yX0_become, Cond.initialized RX0, Cond.code yX0_become cX0_become 2 none, Cond.fieldLink RX0 9 "LieBridges$Beliefs" "days" "[I", Cond.static yX4_copy, Cond.code yX4_copy cX4_copy 3 none, Cond.methodLink RX4 134 yX4_at, Cond.static yX4_at, Cond.code yX4_at cX4_at 2 (some .int)]
def wsX4_rumour_r2 : List Cond := [Cond.methodLink RX4 142 yX0_load, Cond.instanceMethod yX0_load, Cond.selects RX0 yX0_load yX0_load, Cond.code yX0_load cX0_load 5 (some .int), Cond.methodLink RX0 19 yX0_of, Cond.instanceMethod yX0_of, Cond.selects RX0 yX0_of yX0_of, Cond.code yX0_of cX0_of 4 (some .int), Cond.methodLink RX4 175 yX4_spread, Cond.instanceMethod yX4_spread, Cond.selects RX4 yX4_spread yX4_spread, Cond.code yX4_spread cX4_spread 5 none, Cond.methodLink RX4 260 yX1_mayTell, Cond.instanceMethod yX1_mayTell, Cond.selects RX1 yX1_mayTell yX1_mayTell, Cond.initialized RX1, Cond.code yX1_mayTell cX1_mayTell 4 (some .boolean), Cond.fieldLink RX1 18 "LieBridges$Delta" "layers" "[I", Cond.methodLink RX1 67 yX0_of, Cond.methodLink RX4 182 yX4_tellToAll, Cond.instanceMethod yX4_tellToAll, Cond.selects RX4 yX4_tellToAll yX4_tellToAll, Cond.code yX4_tellToAll cX4_tellToAll 5 none, Cond.methodLink RX4 226 yX1_tell]
def wsX4_rumour_r3 : List Cond := [Cond.instanceMethod yX1_tell, Cond.selects RX1 yX1_tell yX1_tell, Cond.code yX1_tell cX1_tell 6 (some .boolean), Cond.fieldLink RX1 24 "LieBridges$Delta" "trusted" "[I", Cond.fieldLink RX1 27 "LieBridges$Delta" "known" "[I", Cond.fieldLink RX1 43 "LieBridges$Delta" "fadeDays" "I", Cond.methodLink RX1 71 yX1_mayTell, Cond.static yX4_hasBit, Cond.code yX4_hasBit cX4_hasBit 3 (some .boolean), Cond.methodLink RX1 55 yX0_set, Cond.instanceMethod yX0_set, Cond.selects RX0 yX0_set yX0_set, Cond.code yX0_set cX0_set 4 none, Cond.static yX4_put, Cond.code yX4_put cX4_put 3 none, Cond.methodLink RX4 179 yX0_fadeADay, Cond.instanceMethod yX0_fadeADay, Cond.selects RX0 yX0_fadeADay yX0_fadeADay, Cond.code yX0_fadeADay cX0_fadeADay 2 none]
def wsX4_rumour : List Cond := .code yX4_rumour cX4_rumour 4 (some .int) :: ((wsX4_rumour_r1 ++ (wsX4_rumour_r2 ++ wsX4_rumour_r3)) ++ wsX40 ++ wsX10 ++ wsX00)
def wsX4_odds_r1 : List Cond := [Cond.fieldLink RX4 37 "LieBridges" "trial" "LLieBridges$Beliefs;", Cond.fieldLink RX4 10 "LieBridges" "now" "LLieBridges$Delta;", Cond.fieldLink RX4 72 "LieBridges$Delta" "beliefs" "LLieBridges$Beliefs;", Cond.methodLink RX4 48 yX4_isPlank, Cond.static yX4_isPlank, Cond.initialized RX4, Cond.code yX4_isPlank cX4_isPlank 1 (some .boolean), Cond.methodLink RX4 79 yX4_within, Cond.static yX4_within, Cond.code yX4_within cX4_within 3 (some .boolean), Cond.methodLink RX4 55 yX4_isPerson, Cond.static yX4_isPerson, Cond.code yX4_isPerson cX4_isPerson 1 (some .boolean), Cond.methodLink RX4 127 yX4_isChoice, Cond.static yX4_isChoice, Cond.code yX4_isChoice cX4_isChoice 1 (some .boolean), Cond.methodLink RX4 103 yX0_become, Cond.instanceMethod yX0_become, Cond.selects RX0 yX0_become yX0_become, Cond.initialized RX0, Cond.code yX0_become cX0_become 2 none, Cond.fieldLink RX0 9 "LieBridges$Beliefs" "days" "[I", Cond.static yX4_copy, Cond.code yX4_copy cX4_copy 3 none]
def wsX4_odds_r2 : List Cond := [Cond.methodLink RX4 134 yX4_at, Cond.static yX4_at, Cond.code yX4_at cX4_at 2 (some .int), Cond.methodLink RX4 182 yX4_tellToAll, Cond.instanceMethod yX4_tellToAll, Cond.selects RX4 yX4_tellToAll yX4_tellToAll, Cond.code yX4_tellToAll cX4_tellToAll 5 none, Cond.methodLink RX4 226 yX1_tell, Cond.instanceMethod yX1_tell, Cond.selects RX1 yX1_tell yX1_tell, Cond.initialized RX1, Cond.code yX1_tell cX1_tell 6 (some .boolean), Cond.fieldLink RX1 24 "LieBridges$Delta" "trusted" "[I", Cond.fieldLink RX1 18 "LieBridges$Delta" "layers" "[I", Cond.fieldLink RX1 27 "LieBridges$Delta" "known" "[I", Cond.fieldLink RX1 43 "LieBridges$Delta" "fadeDays" "I", Cond.methodLink RX1 71 yX1_mayTell, Cond.instanceMethod yX1_mayTell, Cond.selects RX1 yX1_mayTell yX1_mayTell, Cond.code yX1_mayTell cX1_mayTell 4 (some .boolean), Cond.methodLink RX1 67 yX0_of, Cond.instanceMethod yX0_of, Cond.selects RX0 yX0_of yX0_of, Cond.code yX0_of cX0_of 4 (some .int)]
def wsX4_odds_r3 : List Cond := [Cond.static yX4_hasBit, Cond.code yX4_hasBit cX4_hasBit 3 (some .boolean), Cond.methodLink RX1 55 yX0_set, Cond.instanceMethod yX0_set, Cond.selects RX0 yX0_set yX0_set, Cond.code yX0_set cX0_set 4 none, Cond.static yX4_put, Cond.code yX4_put cX4_put 3 none, Cond.methodLink RX4 172 yX4_denyToAll, Cond.instanceMethod yX4_denyToAll, Cond.selects RX4 yX4_denyToAll yX4_denyToAll, Cond.code yX4_denyToAll cX4_denyToAll 6 (some .int), Cond.methodLink RX4 257 yX1_deny, Cond.instanceMethod yX1_deny, Cond.selects RX1 yX1_deny yX1_deny, Cond.code yX1_deny cX1_deny 6 (some .boolean), Cond.methodLink RX4 142 yX0_load, Cond.instanceMethod yX0_load, Cond.selects RX0 yX0_load yX0_load, Cond.code yX0_load cX0_load 5 (some .int), Cond.methodLink RX0 19 yX0_of]
def wsX4_odds : List Cond := .code yX4_odds cX4_odds 5 (some .int) :: ((wsX4_odds_r1 ++ (wsX4_odds_r2 ++ wsX4_odds_r3)) ++ wsX40 ++ wsX10 ++ wsX00)
def wsX4_tenths : List Cond := .code yX4_tenths cX4_tenths 4 (some .int) :: ([.fieldLink RX4 10 "LieBridges" "now" "LLieBridges$Delta;", .fieldLink RX4 186 "LieBridges$Delta" "holds" "[I", .methodLink RX4 48 yX4_isPlank, .static yX4_isPlank, .initialized RX4, .code yX4_isPlank cX4_isPlank 1 (some .boolean), .methodLink RX4 79 yX4_within, .static yX4_within, .code yX4_within cX4_within 3 (some .boolean), .methodLink RX4 134 yX4_at, .static yX4_at, .code yX4_at cX4_at 2 (some .int), .methodLink RX4 189 yX4_put, .static yX4_put, .code yX4_put cX4_put 3 none] ++ wsX40 ++ wsX10)
def wsX4_findSafest_r1 : List Cond := [Cond.fieldLink RX4 30 "LieBridges" "ways" "LLieBridges$Ways;", Cond.fieldLink RX4 10 "LieBridges" "now" "LLieBridges$Delta;", Cond.fieldLink RX4 186 "LieBridges$Delta" "holds" "[I", Cond.methodLink RX4 134 yX4_at, Cond.static yX4_at, Cond.initialized RX4, Cond.code yX4_at cX4_at 2 (some .int), Cond.methodLink RX4 148 yX3_weigh, Cond.instanceMethod yX3_weigh, Cond.selects RX3 yX3_weigh yX3_weigh, Cond.initialized RX3, Cond.code yX3_weigh cX3_weigh 3 none, Cond.fieldLink RX3 9 "LieBridges$Ways" "weights" "[I", Cond.static yX4_put, Cond.code yX4_put cX4_put 3 none, Cond.methodLink RX4 264 yX3_findLikeliest, Cond.instanceMethod yX3_findLikeliest, Cond.selects RX3 yX3_findLikeliest yX3_findLikeliest, Cond.code yX3_findLikeliest cX3_findLikeliest 4 none, Cond.fieldLink RX3 25 "LieBridges$Ways" "likeliest" "Z", Cond.constantLong RX3 33 (1000000), Cond.methodLink RX3 29 yX3_find, Cond.instanceMethod yX3_find, Cond.selects RX3 yX3_find yX3_find]
def wsX4_findSafest_r2 : List Cond := [Cond.code yX3_find cX3_find 6 none, Cond.fieldLink RX3 43 "LieBridges$Ways" "goal" "I", Cond.fieldLink RX3 35 "LieBridges$Ways" "length" "I", Cond.fieldLink RX3 46 "LieBridges$Ways" "worth" "J", Cond.methodLink RX3 50 yX3_walk, Cond.instanceMethod yX3_walk, Cond.selects RX3 yX3_walk yX3_walk, Cond.code yX3_walk cX3_walk 8 none, Cond.methodLink RX3 54 yX3_keepIfBetter, Cond.instanceMethod yX3_keepIfBetter, Cond.selects RX3 yX3_keepIfBetter yX3_keepIfBetter, Cond.code yX3_keepIfBetter cX3_keepIfBetter 4 none, Cond.fieldLink RX3 15 "LieBridges$Ways" "trodden" "[I", Cond.fieldLink RX3 18 "LieBridges$Ways" "best" "[I", Cond.methodLink RX3 70 yX3_found, Cond.instanceMethod yX3_found, Cond.selects RX3 yX3_found yX3_found, Cond.code yX3_found cX3_found 1 (some .boolean), Cond.static yX4_copy, Cond.code yX4_copy cX4_copy 3 none, Cond.methodLink RX3 58 yX3_tread, Cond.instanceMethod yX3_tread, Cond.selects RX3 yX3_tread yX3_tread, Cond.code yX3_tread cX3_tread 12 none]
def wsX4_findSafest_r3 : List Cond := [Cond.constantLong RX3 68 (10), Cond.methodLink RX3 62 yX1_across, Cond.instanceMethod yX1_across, Cond.selects RX1 yX1_across yX1_across, Cond.initialized RX1, Cond.code yX1_across cX1_across 3 (some .int), Cond.fieldLink RX1 9 "LieBridges$Delta" "lessers" "[I", Cond.fieldLink RX1 15 "LieBridges$Delta" "greaters" "[I", Cond.static yX4_isPlank, Cond.code yX4_isPlank cX4_isPlank 1 (some .boolean), Cond.methodLink RX4 79 yX4_within, Cond.static yX4_within, Cond.code yX4_within cX4_within 3 (some .boolean)]
def wsX4_findSafest : List Cond := .code yX4_findSafest cX4_findSafest 4 none :: ((wsX4_findSafest_r1 ++ (wsX4_findSafest_r2 ++ wsX4_findSafest_r3)) ++ wsX40 ++ wsX10 ++ wsX30)
def wsX4_safe_r1 : List Cond := [Cond.fieldLink RX4 30 "LieBridges" "ways" "LLieBridges$Ways;", Cond.methodLink RX4 52 yX4_isIsland, Cond.static yX4_isIsland, Cond.initialized RX4, Cond.code yX4_isIsland cX4_isIsland 1 (some .boolean), Cond.methodLink RX4 79 yX4_within, Cond.static yX4_within, Cond.code yX4_within cX4_within 3 (some .boolean), Cond.methodLink RX4 193 yX4_findSafest, Cond.instanceMethod yX4_findSafest, Cond.selects RX4 yX4_findSafest yX4_findSafest, Cond.code yX4_findSafest cX4_findSafest 4 none, Cond.fieldLink RX4 10 "LieBridges" "now" "LLieBridges$Delta;", Cond.fieldLink RX4 186 "LieBridges$Delta" "holds" "[I", Cond.methodLink RX4 134 yX4_at, Cond.static yX4_at, Cond.code yX4_at cX4_at 2 (some .int), Cond.methodLink RX4 148 yX3_weigh, Cond.instanceMethod yX3_weigh, Cond.selects RX3 yX3_weigh yX3_weigh, Cond.initialized RX3, Cond.code yX3_weigh cX3_weigh 3 none, Cond.fieldLink RX3 9 "LieBridges$Ways" "weights" "[I", Cond.static yX4_put]
def wsX4_safe_r2 : List Cond := [Cond.code yX4_put cX4_put 3 none, Cond.methodLink RX4 264 yX3_findLikeliest, Cond.instanceMethod yX3_findLikeliest, Cond.selects RX3 yX3_findLikeliest yX3_findLikeliest, Cond.code yX3_findLikeliest cX3_findLikeliest 4 none, Cond.fieldLink RX3 25 "LieBridges$Ways" "likeliest" "Z", Cond.constantLong RX3 33 (1000000), Cond.methodLink RX3 29 yX3_find, Cond.instanceMethod yX3_find, Cond.selects RX3 yX3_find yX3_find, Cond.code yX3_find cX3_find 6 none, Cond.fieldLink RX3 43 "LieBridges$Ways" "goal" "I", Cond.fieldLink RX3 35 "LieBridges$Ways" "length" "I", Cond.fieldLink RX3 46 "LieBridges$Ways" "worth" "J", Cond.methodLink RX3 50 yX3_walk, Cond.instanceMethod yX3_walk, Cond.selects RX3 yX3_walk yX3_walk, Cond.code yX3_walk cX3_walk 8 none, Cond.methodLink RX3 54 yX3_keepIfBetter, Cond.instanceMethod yX3_keepIfBetter, Cond.selects RX3 yX3_keepIfBetter yX3_keepIfBetter, Cond.code yX3_keepIfBetter cX3_keepIfBetter 4 none, Cond.fieldLink RX3 15 "LieBridges$Ways" "trodden" "[I", Cond.fieldLink RX3 18 "LieBridges$Ways" "best" "[I"]
def wsX4_safe_r3 : List Cond := [Cond.methodLink RX3 70 yX3_found, Cond.instanceMethod yX3_found, Cond.selects RX3 yX3_found yX3_found, Cond.code yX3_found cX3_found 1 (some .boolean), Cond.static yX4_copy, Cond.code yX4_copy cX4_copy 3 none, Cond.methodLink RX3 58 yX3_tread, Cond.instanceMethod yX3_tread, Cond.selects RX3 yX3_tread yX3_tread, Cond.code yX3_tread cX3_tread 12 none, Cond.constantLong RX3 68 (10), Cond.methodLink RX3 62 yX1_across, Cond.instanceMethod yX1_across, Cond.selects RX1 yX1_across yX1_across, Cond.initialized RX1, Cond.code yX1_across cX1_across 3 (some .int), Cond.fieldLink RX1 9 "LieBridges$Delta" "lessers" "[I", Cond.fieldLink RX1 15 "LieBridges$Delta" "greaters" "[I", Cond.static yX4_isPlank, Cond.code yX4_isPlank cX4_isPlank 1 (some .boolean), Cond.methodLink RX4 164 yX3_step, Cond.instanceMethod yX3_step, Cond.selects RX3 yX3_step yX3_step, Cond.code yX3_step cX3_step 2 (some .int)]
def wsX4_safe : List Cond := .code yX4_safe cX4_safe 4 (some .int) :: ((wsX4_safe_r1 ++ (wsX4_safe_r2 ++ wsX4_safe_r3)) ++ wsX40 ++ wsX10 ++ wsX30)
def wsX4_sharedDivisor : List Cond := .code yX4_sharedDivisor cX4_sharedDivisor 11 (some .long) :: ([])
def wsX4_chance_r1 : List Cond := [Cond.constantLong RX4 196 (-1000000000000000001), Cond.constantLong RX4 198 (-1000000000000000002), Cond.fieldLink RX4 30 "LieBridges" "ways" "LLieBridges$Ways;", Cond.fieldLink RX4 160 "LieBridges$Ways" "worth" "J", Cond.constantLong RX4 200 (1000000), Cond.methodLink RX4 52 yX4_isIsland, Cond.static yX4_isIsland, Cond.initialized RX4, Cond.code yX4_isIsland cX4_isIsland 1 (some .boolean), Cond.methodLink RX4 79 yX4_within, Cond.static yX4_within, Cond.code yX4_within cX4_within 3 (some .boolean), Cond.methodLink RX4 127 yX4_isChoice, Cond.static yX4_isChoice, Cond.code yX4_isChoice cX4_isChoice 1 (some .boolean), Cond.methodLink RX4 193 yX4_findSafest, Cond.instanceMethod yX4_findSafest, Cond.selects RX4 yX4_findSafest yX4_findSafest, Cond.code yX4_findSafest cX4_findSafest 4 none, Cond.fieldLink RX4 10 "LieBridges" "now" "LLieBridges$Delta;", Cond.fieldLink RX4 186 "LieBridges$Delta" "holds" "[I", Cond.methodLink RX4 134 yX4_at, Cond.static yX4_at, Cond.code yX4_at cX4_at 2 (some .int)]
def wsX4_chance_r2 : List Cond := [Cond.methodLink RX4 148 yX3_weigh, Cond.instanceMethod yX3_weigh, Cond.selects RX3 yX3_weigh yX3_weigh, Cond.initialized RX3, Cond.code yX3_weigh cX3_weigh 3 none, Cond.fieldLink RX3 9 "LieBridges$Ways" "weights" "[I", Cond.static yX4_put, Cond.code yX4_put cX4_put 3 none, Cond.methodLink RX4 264 yX3_findLikeliest, Cond.instanceMethod yX3_findLikeliest, Cond.selects RX3 yX3_findLikeliest yX3_findLikeliest, Cond.code yX3_findLikeliest cX3_findLikeliest 4 none, Cond.fieldLink RX3 25 "LieBridges$Ways" "likeliest" "Z", Cond.constantLong RX3 33 (1000000), Cond.methodLink RX3 29 yX3_find, Cond.instanceMethod yX3_find, Cond.selects RX3 yX3_find yX3_find, Cond.code yX3_find cX3_find 6 none, Cond.fieldLink RX3 43 "LieBridges$Ways" "goal" "I", Cond.fieldLink RX3 35 "LieBridges$Ways" "length" "I", Cond.fieldLink RX3 46 "LieBridges$Ways" "worth" "J", Cond.methodLink RX3 50 yX3_walk, Cond.instanceMethod yX3_walk, Cond.selects RX3 yX3_walk yX3_walk]
def wsX4_chance_r3 : List Cond := [Cond.code yX3_walk cX3_walk 8 none, Cond.methodLink RX3 54 yX3_keepIfBetter, Cond.instanceMethod yX3_keepIfBetter, Cond.selects RX3 yX3_keepIfBetter yX3_keepIfBetter, Cond.code yX3_keepIfBetter cX3_keepIfBetter 4 none, Cond.fieldLink RX3 15 "LieBridges$Ways" "trodden" "[I", Cond.fieldLink RX3 18 "LieBridges$Ways" "best" "[I", Cond.methodLink RX3 70 yX3_found, Cond.instanceMethod yX3_found, Cond.selects RX3 yX3_found yX3_found, Cond.code yX3_found cX3_found 1 (some .boolean), Cond.static yX4_copy, Cond.code yX4_copy cX4_copy 3 none, Cond.methodLink RX3 58 yX3_tread, Cond.instanceMethod yX3_tread, Cond.selects RX3 yX3_tread yX3_tread, Cond.code yX3_tread cX3_tread 12 none, Cond.constantLong RX3 68 (10), Cond.methodLink RX3 62 yX1_across, Cond.instanceMethod yX1_across, Cond.selects RX1 yX1_across yX1_across, Cond.initialized RX1, Cond.code yX1_across cX1_across 3 (some .int), Cond.fieldLink RX1 9 "LieBridges$Delta" "lessers" "[I"]
def wsX4_chance_r4 : List Cond := [Cond.fieldLink RX1 15 "LieBridges$Delta" "greaters" "[I", Cond.static yX4_isPlank, Cond.code yX4_isPlank cX4_isPlank 1 (some .boolean), Cond.methodLink RX4 156 yX3_found, Cond.methodLink RX4 202 yX4_sharedDivisor, Cond.static yX4_sharedDivisor, Cond.code yX4_sharedDivisor cX4_sharedDivisor 11 (some .long)]
def wsX4_chance : List Cond := .code yX4_chance cX4_chance 8 (some .long) :: ((wsX4_chance_r1 ++ (wsX4_chance_r2 ++ (wsX4_chance_r3 ++ wsX4_chance_r4))) ++ wsX40 ++ wsX30 ++ wsX10)
def wsX4_seen : List Cond := .code yX4_seen cX4_seen 3 (some .int) :: ([.fieldLink RX4 10 "LieBridges" "now" "LLieBridges$Delta;", .fieldLink RX4 206 "LieBridges$Delta" "sights" "I", .fieldLink RX4 209 "LieBridges$Delta" "sightPlanks" "[I", .fieldLink RX4 212 "LieBridges$Delta" "sightLoads" "[I", .methodLink RX4 48 yX4_isPlank, .static yX4_isPlank, .initialized RX4, .code yX4_isPlank cX4_isPlank 1 (some .boolean), .methodLink RX4 79 yX4_within, .static yX4_within, .code yX4_within cX4_within 3 (some .boolean), .methodLink RX4 189 yX4_put, .static yX4_put, .code yX4_put cX4_put 3 none] ++ wsX40 ++ wsX10)
def wsX4_forget : List Cond := .code yX4_forget cX4_forget 2 (some .int) :: ([.fieldLink RX4 10 "LieBridges" "now" "LLieBridges$Delta;", .fieldLink RX4 206 "LieBridges$Delta" "sights" "I"] ++ wsX40 ++ wsX10)
def wsX4_guess : List Cond := .code yX4_guess cX4_guess 4 none :: ([.fieldLink RX4 23 "LieBridges" "pad" "LLieBridges$Pad;", .fieldLink RX4 215 "LieBridges$Pad" "asked" "I", .fieldLink RX4 41 "LieBridges" "guesses" "[I", .methodLink RX4 189 yX4_put, .static yX4_put, .initialized RX4, .code yX4_put cX4_put 3 none] ++ wsX40 ++ wsX20)
def wsX4_fits_r1 : List Cond := [Cond.fieldLink RX4 37 "LieBridges" "trial" "LLieBridges$Beliefs;", Cond.fieldLink RX4 10 "LieBridges" "now" "LLieBridges$Delta;", Cond.fieldLink RX4 72 "LieBridges$Delta" "beliefs" "LLieBridges$Beliefs;", Cond.fieldLink RX4 23 "LieBridges" "pad" "LLieBridges$Pad;", Cond.fieldLink RX4 107 "LieBridges$Pad" "parts" "I", Cond.fieldLink RX4 206 "LieBridges$Delta" "sights" "I", Cond.fieldLink RX4 209 "LieBridges$Delta" "sightPlanks" "[I", Cond.fieldLink RX4 212 "LieBridges$Delta" "sightLoads" "[I", Cond.methodLink RX4 103 yX0_become, Cond.instanceMethod yX0_become, Cond.selects RX0 yX0_become yX0_become, Cond.initialized RX0, Cond.code yX0_become cX0_become 2 none, Cond.fieldLink RX0 9 "LieBridges$Beliefs" "days" "[I", Cond.static yX4_copy, Cond.initialized RX4, Cond.code yX4_copy cX4_copy 3 none, Cond.methodLink RX4 134 yX4_at, Cond.static yX4_at, Cond.code yX4_at cX4_at 2 (some .int), Cond.methodLink RX4 110 yX4_takesEffect, Cond.instanceMethod yX4_takesEffect, Cond.selects RX4 yX4_takesEffect yX4_takesEffect, Cond.code yX4_takesEffect cX4_takesEffect 7 (some .boolean)]
def wsX4_fits_r2 : List Cond := [Cond.fieldLink RX4 245 "LieBridges$Pad" "kinds" "[I", Cond.fieldLink RX4 248 "LieBridges$Pad" "speakers" "[I", Cond.fieldLink RX4 41 "LieBridges" "guesses" "[I", Cond.fieldLink RX4 251 "LieBridges$Pad" "hearers" "[I", Cond.fieldLink RX4 254 "LieBridges$Pad" "planks" "[I", Cond.methodLink RX4 179 yX0_fadeADay, Cond.instanceMethod yX0_fadeADay, Cond.selects RX0 yX0_fadeADay yX0_fadeADay, Cond.code yX0_fadeADay cX0_fadeADay 2 none, Cond.methodLink RX4 226 yX1_tell, Cond.instanceMethod yX1_tell, Cond.selects RX1 yX1_tell yX1_tell, Cond.initialized RX1, Cond.code yX1_tell cX1_tell 6 (some .boolean), Cond.fieldLink RX1 24 "LieBridges$Delta" "trusted" "[I", Cond.fieldLink RX1 18 "LieBridges$Delta" "layers" "[I", Cond.fieldLink RX1 27 "LieBridges$Delta" "known" "[I", Cond.fieldLink RX1 43 "LieBridges$Delta" "fadeDays" "I", Cond.methodLink RX1 71 yX1_mayTell, Cond.instanceMethod yX1_mayTell, Cond.selects RX1 yX1_mayTell yX1_mayTell, Cond.code yX1_mayTell cX1_mayTell 4 (some .boolean), Cond.methodLink RX1 67 yX0_of, Cond.instanceMethod yX0_of]
def wsX4_fits_r3 : List Cond := [Cond.selects RX0 yX0_of yX0_of, Cond.code yX0_of cX0_of 4 (some .int), Cond.static yX4_hasBit, Cond.code yX4_hasBit cX4_hasBit 3 (some .boolean), Cond.methodLink RX1 55 yX0_set, Cond.instanceMethod yX0_set, Cond.selects RX0 yX0_set yX0_set, Cond.code yX0_set cX0_set 4 none, Cond.static yX4_put, Cond.code yX4_put cX4_put 3 none, Cond.methodLink RX4 257 yX1_deny, Cond.instanceMethod yX1_deny, Cond.selects RX1 yX1_deny yX1_deny, Cond.code yX1_deny cX1_deny 6 (some .boolean), Cond.methodLink RX4 142 yX0_load, Cond.instanceMethod yX0_load, Cond.selects RX0 yX0_load yX0_load, Cond.code yX0_load cX0_load 5 (some .int), Cond.methodLink RX0 19 yX0_of]
def wsX4_fits : List Cond := .code yX4_fits cX4_fits 2 (some .boolean) :: ((wsX4_fits_r1 ++ (wsX4_fits_r2 ++ wsX4_fits_r3)) ++ wsX40 ++ wsX10 ++ wsX20 ++ wsX00)
def wsX4_filled_r1 : List Cond := [Cond.fieldLink RX4 23 "LieBridges" "pad" "LLieBridges$Pad;", Cond.fieldLink RX4 215 "LieBridges$Pad" "asked" "I", Cond.fieldLink RX4 41 "LieBridges" "guesses" "[I", Cond.methodLink RX4 96 yX2_read, Cond.instanceMethod yX2_read, Cond.selects RX2 yX2_read yX2_read, Cond.initialized RX2, Cond.code yX2_read cX2_read 3 (some .int), Cond.fieldLink RX2 35 "LieBridges$Pad" "parts" "I", Cond.fieldLink RX2 38 "LieBridges$Pad" "asked" "I", Cond.fieldLink RX2 27 "LieBridges$Pad" "many" "I", Cond.fieldLink RX2 9 "LieBridges$Pad" "signs" "[I", Cond.static yX4_at, Cond.initialized RX4, Cond.code yX4_at cX4_at 2 (some .int), Cond.methodLink RX2 45 yX2_take, Cond.instanceMethod yX2_take, Cond.selects RX2 yX2_take yX2_take, Cond.code yX2_take cX2_take 3 (some .int), Cond.methodLink RX2 49 yX2_takeDay, Cond.instanceMethod yX2_takeDay, Cond.selects RX2 yX2_takeDay yX2_takeDay, Cond.code yX2_takeDay cX2_takeDay 1 (some .int), Cond.fieldLink RX2 15 "LieBridges$Pad" "kinds" "[I"]
def wsX4_filled_r2 : List Cond := [Cond.static yX4_put, Cond.code yX4_put cX4_put 3 none, Cond.methodLink RX2 53 yX2_takeSpeaker, Cond.instanceMethod yX2_takeSpeaker, Cond.selects RX2 yX2_takeSpeaker yX2_takeSpeaker, Cond.code yX2_takeSpeaker cX2_takeSpeaker 3 (some .int), Cond.fieldLink RX2 18 "LieBridges$Pad" "speakers" "[I", Cond.static yX4_isPerson, Cond.code yX4_isPerson cX4_isPerson 1 (some .boolean), Cond.methodLink RX4 79 yX4_within, Cond.static yX4_within, Cond.code yX4_within cX4_within 3 (some .boolean), Cond.methodLink RX2 57 yX2_takeHearer, Cond.instanceMethod yX2_takeHearer, Cond.selects RX2 yX2_takeHearer yX2_takeHearer, Cond.code yX2_takeHearer cX2_takeHearer 2 (some .int), Cond.fieldLink RX2 21 "LieBridges$Pad" "hearers" "[I", Cond.methodLink RX2 60 yX2_takeDenial, Cond.instanceMethod yX2_takeDenial, Cond.selects RX2 yX2_takeDenial yX2_takeDenial, Cond.code yX2_takeDenial cX2_takeDenial 1 (some .int), Cond.methodLink RX2 63 yX2_takePlank, Cond.instanceMethod yX2_takePlank, Cond.selects RX2 yX2_takePlank yX2_takePlank]
def wsX4_filled_r3 : List Cond := [Cond.code yX2_takePlank cX2_takePlank 2 (some .int), Cond.fieldLink RX2 24 "LieBridges$Pad" "planks" "[I", Cond.static yX4_isPlank, Cond.code yX4_isPlank cX4_isPlank 1 (some .boolean), Cond.methodLink RX4 218 yX4_guess, Cond.instanceMethod yX4_guess, Cond.selects RX4 yX4_guess yX4_guess, Cond.code yX4_guess cX4_guess 4 none, Cond.methodLink RX4 189 yX4_put, Cond.methodLink RX4 222 yX4_fits, Cond.instanceMethod yX4_fits, Cond.selects RX4 yX4_fits yX4_fits, Cond.code yX4_fits cX4_fits 2 (some .boolean), Cond.fieldLink RX4 37 "LieBridges" "trial" "LLieBridges$Beliefs;", Cond.fieldLink RX4 10 "LieBridges" "now" "LLieBridges$Delta;", Cond.fieldLink RX4 72 "LieBridges$Delta" "beliefs" "LLieBridges$Beliefs;", Cond.fieldLink RX4 107 "LieBridges$Pad" "parts" "I", Cond.fieldLink RX4 206 "LieBridges$Delta" "sights" "I", Cond.fieldLink RX4 209 "LieBridges$Delta" "sightPlanks" "[I", Cond.fieldLink RX4 212 "LieBridges$Delta" "sightLoads" "[I", Cond.methodLink RX4 103 yX0_become, Cond.instanceMethod yX0_become, Cond.selects RX0 yX0_become yX0_become, Cond.initialized RX0]
def wsX4_filled_r4 : List Cond := [Cond.code yX0_become cX0_become 2 none, Cond.fieldLink RX0 9 "LieBridges$Beliefs" "days" "[I", Cond.static yX4_copy, Cond.code yX4_copy cX4_copy 3 none, Cond.methodLink RX4 134 yX4_at, Cond.methodLink RX4 110 yX4_takesEffect, Cond.instanceMethod yX4_takesEffect, Cond.selects RX4 yX4_takesEffect yX4_takesEffect, Cond.code yX4_takesEffect cX4_takesEffect 7 (some .boolean), Cond.fieldLink RX4 245 "LieBridges$Pad" "kinds" "[I", Cond.fieldLink RX4 248 "LieBridges$Pad" "speakers" "[I", Cond.fieldLink RX4 251 "LieBridges$Pad" "hearers" "[I", Cond.fieldLink RX4 254 "LieBridges$Pad" "planks" "[I", Cond.methodLink RX4 179 yX0_fadeADay, Cond.instanceMethod yX0_fadeADay, Cond.selects RX0 yX0_fadeADay yX0_fadeADay, Cond.code yX0_fadeADay cX0_fadeADay 2 none, Cond.methodLink RX4 226 yX1_tell, Cond.instanceMethod yX1_tell, Cond.selects RX1 yX1_tell yX1_tell, Cond.initialized RX1, Cond.code yX1_tell cX1_tell 6 (some .boolean), Cond.fieldLink RX1 24 "LieBridges$Delta" "trusted" "[I", Cond.fieldLink RX1 18 "LieBridges$Delta" "layers" "[I"]
def wsX4_filled_r5 : List Cond := [Cond.fieldLink RX1 27 "LieBridges$Delta" "known" "[I", Cond.fieldLink RX1 43 "LieBridges$Delta" "fadeDays" "I", Cond.methodLink RX1 71 yX1_mayTell, Cond.instanceMethod yX1_mayTell, Cond.selects RX1 yX1_mayTell yX1_mayTell, Cond.code yX1_mayTell cX1_mayTell 4 (some .boolean), Cond.methodLink RX1 67 yX0_of, Cond.instanceMethod yX0_of, Cond.selects RX0 yX0_of yX0_of, Cond.code yX0_of cX0_of 4 (some .int), Cond.static yX4_hasBit, Cond.code yX4_hasBit cX4_hasBit 3 (some .boolean), Cond.methodLink RX1 55 yX0_set, Cond.instanceMethod yX0_set, Cond.selects RX0 yX0_set yX0_set, Cond.code yX0_set cX0_set 4 none, Cond.methodLink RX4 257 yX1_deny, Cond.instanceMethod yX1_deny, Cond.selects RX1 yX1_deny yX1_deny, Cond.code yX1_deny cX1_deny 6 (some .boolean), Cond.methodLink RX4 142 yX0_load, Cond.instanceMethod yX0_load, Cond.selects RX0 yX0_load yX0_load, Cond.code yX0_load cX0_load 5 (some .int)]
def wsX4_filled_r6 : List Cond := [Cond.methodLink RX0 19 yX0_of]
def wsX4_filled : List Cond := .code yX4_filled cX4_filled 6 (some .int) :: ((wsX4_filled_r1 ++ (wsX4_filled_r2 ++ (wsX4_filled_r3 ++ (wsX4_filled_r4 ++ (wsX4_filled_r5 ++ wsX4_filled_r6))))) ++ wsX40 ++ wsX20 ++ wsX10 ++ wsX00)
def wsX4_year_r1 : List Cond := [Cond.fieldLink RX4 37 "LieBridges" "trial" "LLieBridges$Beliefs;", Cond.fieldLink RX4 10 "LieBridges" "now" "LLieBridges$Delta;", Cond.fieldLink RX4 72 "LieBridges$Delta" "beliefs" "LLieBridges$Beliefs;", Cond.constant RX4 225 (65537), Cond.methodLink RX4 48 yX4_isPlank, Cond.static yX4_isPlank, Cond.initialized RX4, Cond.code yX4_isPlank cX4_isPlank 1 (some .boolean), Cond.methodLink RX4 79 yX4_within, Cond.static yX4_within, Cond.code yX4_within cX4_within 3 (some .boolean), Cond.methodLink RX4 103 yX0_become, Cond.instanceMethod yX0_become, Cond.selects RX0 yX0_become yX0_become, Cond.initialized RX0, Cond.code yX0_become cX0_become 2 none, Cond.fieldLink RX0 9 "LieBridges$Beliefs" "days" "[I", Cond.static yX4_copy, Cond.code yX4_copy cX4_copy 3 none, Cond.methodLink RX4 134 yX4_at, Cond.static yX4_at, Cond.code yX4_at cX4_at 2 (some .int), Cond.methodLink RX4 226 yX1_tell, Cond.instanceMethod yX1_tell]
def wsX4_year_r2 : List Cond := [Cond.selects RX1 yX1_tell yX1_tell, Cond.initialized RX1, Cond.code yX1_tell cX1_tell 6 (some .boolean), Cond.fieldLink RX1 24 "LieBridges$Delta" "trusted" "[I", Cond.fieldLink RX1 18 "LieBridges$Delta" "layers" "[I", Cond.fieldLink RX1 27 "LieBridges$Delta" "known" "[I", Cond.fieldLink RX1 43 "LieBridges$Delta" "fadeDays" "I", Cond.methodLink RX1 71 yX1_mayTell, Cond.instanceMethod yX1_mayTell, Cond.selects RX1 yX1_mayTell yX1_mayTell, Cond.code yX1_mayTell cX1_mayTell 4 (some .boolean), Cond.methodLink RX1 67 yX0_of, Cond.instanceMethod yX0_of, Cond.selects RX0 yX0_of yX0_of, Cond.code yX0_of cX0_of 4 (some .int), Cond.static yX4_hasBit, Cond.code yX4_hasBit cX4_hasBit 3 (some .boolean), Cond.methodLink RX1 55 yX0_set, Cond.instanceMethod yX0_set, Cond.selects RX0 yX0_set yX0_set, Cond.code yX0_set cX0_set 4 none, Cond.static yX4_put, Cond.code yX4_put cX4_put 3 none, Cond.methodLink RX4 179 yX0_fadeADay]
def wsX4_year_r3 : List Cond := [Cond.instanceMethod yX0_fadeADay, Cond.selects RX0 yX0_fadeADay yX0_fadeADay, Cond.code yX0_fadeADay cX0_fadeADay 2 none, Cond.methodLink RX4 142 yX0_load, Cond.instanceMethod yX0_load, Cond.selects RX0 yX0_load yX0_load, Cond.code yX0_load cX0_load 5 (some .int), Cond.methodLink RX0 19 yX0_of]
def wsX4_year : List Cond := .code yX4_year cX4_year 7 (some .int) :: ((wsX4_year_r1 ++ (wsX4_year_r2 ++ wsX4_year_r3)) ++ wsX40 ++ wsX10 ++ wsX00)
def wsX4_image_r1 : List Cond := [Cond.fieldLink RX4 16 "LieBridges" "images" "[LLieBridges$Delta;", Cond.classLink RX4 7 RX1, Cond.instantiable RX1 11, Cond.initialized RX1, Cond.fieldLink RX4 10 "LieBridges" "now" "LLieBridges$Delta;", Cond.methodLink RX4 9 yX1_init, Cond.instanceMethod yX1_init, Cond.code yX1_init cX1_init 2 none, Cond.methodLink RX1 3 objectInit, Cond.instanceMethod objectInit, Cond.code objectInit ⟨#[0xb1]⟩ 1 none, Cond.arrayClass .int, Cond.fieldLink RX1 9 "LieBridges$Delta" "lessers" "[I", Cond.fieldLink RX1 15 "LieBridges$Delta" "greaters" "[I", Cond.fieldLink RX1 18 "LieBridges$Delta" "layers" "[I", Cond.fieldLink RX1 21 "LieBridges$Delta" "holds" "[I", Cond.fieldLink RX1 24 "LieBridges$Delta" "trusted" "[I", Cond.fieldLink RX1 27 "LieBridges$Delta" "known" "[I", Cond.fieldLink RX1 30 "LieBridges$Delta" "sightPlanks" "[I", Cond.fieldLink RX1 33 "LieBridges$Delta" "sightLoads" "[I", Cond.classLink RX1 36 RX0, Cond.instantiable RX0 1, Cond.initialized RX0, Cond.fieldLink RX1 39 "LieBridges$Delta" "beliefs" "LLieBridges$Beliefs;"]
def wsX4_image_r2 : List Cond := [Cond.fieldLink RX1 43 "LieBridges$Delta" "fadeDays" "I", Cond.instanceMethod yX0_init, Cond.code yX0_init cX0_init 1 none, Cond.methodLink RX0 3 objectInit, Cond.fieldLink RX0 9 "LieBridges$Beliefs" "days" "[I", Cond.methodLink RX1 47 yX1_lay, Cond.instanceMethod yX1_lay, Cond.selects RX1 yX1_lay yX1_lay, Cond.code yX1_lay cX1_lay 6 none, Cond.static yX4_put, Cond.initialized RX4, Cond.code yX4_put cX4_put 3 none, Cond.methodLink RX1 55 yX0_set, Cond.instanceMethod yX0_set, Cond.selects RX0 yX0_set yX0_set, Cond.code yX0_set cX0_set 4 none, Cond.static yX4_putBit, Cond.code yX4_putBit cX4_putBit 5 none, Cond.methodLink RX4 134 yX4_at, Cond.static yX4_at, Cond.code yX4_at cX4_at 2 (some .int), Cond.methodLink RX4 189 yX4_put, Cond.methodLink RX4 230 yX1_become, Cond.instanceMethod yX1_become]
def wsX4_image_r3 : List Cond := [Cond.selects RX1 yX1_become yX1_become, Cond.code yX1_become cX1_become 2 none, Cond.fieldLink RX1 91 "LieBridges$Delta" "sights" "I", Cond.static yX4_copy, Cond.code yX4_copy cX4_copy 3 none, Cond.methodLink RX1 87 yX0_become, Cond.instanceMethod yX0_become, Cond.selects RX0 yX0_become yX0_become, Cond.code yX0_become cX0_become 2 none]
def wsX4_image : List Cond := .code yX4_image cX4_image 3 (some .int) :: ((wsX4_image_r1 ++ (wsX4_image_r2 ++ wsX4_image_r3)) ++ wsX40 ++ wsX10 ++ wsX00)
def wsX4_restore_r1 : List Cond := [Cond.fieldLink RX4 16 "LieBridges" "images" "[LLieBridges$Delta;", Cond.fieldLink RX4 10 "LieBridges" "now" "LLieBridges$Delta;", Cond.methodLink RX4 230 yX1_become, Cond.instanceMethod yX1_become, Cond.selects RX1 yX1_become yX1_become, Cond.initialized RX1, Cond.code yX1_become cX1_become 2 none, Cond.fieldLink RX1 9 "LieBridges$Delta" "lessers" "[I", Cond.fieldLink RX1 15 "LieBridges$Delta" "greaters" "[I", Cond.fieldLink RX1 18 "LieBridges$Delta" "layers" "[I", Cond.fieldLink RX1 21 "LieBridges$Delta" "holds" "[I", Cond.fieldLink RX1 24 "LieBridges$Delta" "trusted" "[I", Cond.fieldLink RX1 27 "LieBridges$Delta" "known" "[I", Cond.fieldLink RX1 30 "LieBridges$Delta" "sightPlanks" "[I", Cond.fieldLink RX1 33 "LieBridges$Delta" "sightLoads" "[I", Cond.fieldLink RX1 39 "LieBridges$Delta" "beliefs" "LLieBridges$Beliefs;", Cond.fieldLink RX1 43 "LieBridges$Delta" "fadeDays" "I", Cond.fieldLink RX1 91 "LieBridges$Delta" "sights" "I", Cond.static yX4_copy, Cond.initialized RX4, Cond.code yX4_copy cX4_copy 3 none, Cond.methodLink RX4 134 yX4_at, Cond.static yX4_at, Cond.code yX4_at cX4_at 2 (some .int)]
def wsX4_restore_r2 : List Cond := [Cond.methodLink RX1 87 yX0_become, Cond.instanceMethod yX0_become, Cond.selects RX0 yX0_become yX0_become, Cond.initialized RX0, Cond.code yX0_become cX0_become 2 none, Cond.fieldLink RX0 9 "LieBridges$Beliefs" "days" "[I"]
def wsX4_restore : List Cond := .code yX4_restore cX4_restore 3 (some .int) :: ((wsX4_restore_r1 ++ wsX4_restore_r2) ++ wsX40 ++ wsX10 ++ wsX00)
def wsX4_told : List Cond := .code yX4_told cX4_told 3 (some .int) :: ([.fieldLink RX4 23 "LieBridges" "pad" "LLieBridges$Pad;", .fieldLink RX4 90 "LieBridges$Pad" "many" "I", .fieldLink RX4 10 "LieBridges" "now" "LLieBridges$Delta;", .fieldLink RX4 83 "LieBridges$Delta" "fadeDays" "I", .fieldLink RX4 206 "LieBridges$Delta" "sights" "I", .fieldLink RX4 62 "LieBridges$Delta" "trusted" "[I", .fieldLink RX4 69 "LieBridges$Delta" "known" "[I", .fieldLink RX4 233 "LieBridges$Delta" "layers" "[I", .fieldLink RX4 236 "LieBridges$Delta" "lessers" "[I", .fieldLink RX4 239 "LieBridges$Delta" "greaters" "[I", .fieldLink RX4 186 "LieBridges$Delta" "holds" "[I", .methodLink RX4 134 yX4_at, .static yX4_at, .initialized RX4, .code yX4_at cX4_at 2 (some .int)] ++ wsX40 ++ wsX20 ++ wsX10)
def wsX5_init : List Cond := .code yX5_init cX5_init 2 none :: ([.methodLink RX5 1 objectInit, .instanceMethod objectInit, .code objectInit ⟨#[0xb1]⟩ 1 none, .arrayClass .int, .fieldLink RX5 7 "LieBridgesModel" "one" "[I", .fieldLink RX5 13 "LieBridgesModel" "two" "[I", .fieldLink RX5 16 "LieBridgesModel" "owner" "[I", .fieldLink RX5 19 "LieBridgesModel" "trusts" "[I", .fieldLink RX5 22 "LieBridgesModel" "knows" "[I", .fieldLink RX5 25 "LieBridgesModel" "days" "[I", .fieldLink RX5 28 "LieBridgesModel" "safety" "[I", .fieldLink RX5 31 "LieBridgesModel" "fade" "I", .fieldLink RX5 35 "LieBridgesModel" "sight" "[I", .fieldLink RX5 38 "LieBridgesModel" "pad" "[I", .fieldLink RX5 41 "LieBridgesModel" "now" "[I", .fieldLink RX5 44 "LieBridgesModel" "cost" "[I", .fieldLink RX5 47 "LieBridgesModel" "image" "[I", .arrayClass .boolean, .fieldLink RX5 50 "LieBridgesModel" "isKept" "[Z"] ++ wsX50)
def wsX5_in : List Cond := .code yX5_in cX5_in 3 (some .boolean) :: ([])
def wsX5_has : List Cond := .code yX5_has cX5_has 2 (some .boolean) :: ([])
def wsX5_is6 : List Cond := .code yX5_is6 cX5_is6 1 (some .boolean) :: ([.methodLink RX5 54 yX5_in, .static yX5_in, .initialized RX5, .code yX5_in cX5_in 3 (some .boolean)])
def wsX5_plank : List Cond := .code yX5_plank cX5_plank 6 (some .int) :: ([.fieldLink RX5 7 "LieBridgesModel" "one" "[I", .fieldLink RX5 13 "LieBridgesModel" "two" "[I", .fieldLink RX5 16 "LieBridgesModel" "owner" "[I", .fieldLink RX5 25 "LieBridgesModel" "days" "[I", .fieldLink RX5 22 "LieBridgesModel" "knows" "[I", .methodLink RX5 58 yX5_is6, .static yX5_is6, .initialized RX5, .code yX5_is6 cX5_is6 1 (some .boolean), .methodLink RX5 54 yX5_in, .static yX5_in, .code yX5_in cX5_in 3 (some .boolean)] ++ wsX50)
def wsX5_trust : List Cond := .code yX5_trust cX5_trust 4 (some .int) :: ([.fieldLink RX5 19 "LieBridgesModel" "trusts" "[I", .methodLink RX5 58 yX5_is6, .static yX5_is6, .initialized RX5, .code yX5_is6 cX5_is6 1 (some .boolean), .methodLink RX5 54 yX5_in, .static yX5_in, .code yX5_in cX5_in 3 (some .boolean)] ++ wsX50)
def wsX5_know : List Cond := .code yX5_know cX5_know 4 (some .int) :: ([.fieldLink RX5 22 "LieBridgesModel" "knows" "[I", .fieldLink RX5 25 "LieBridgesModel" "days" "[I", .methodLink RX5 58 yX5_is6, .static yX5_is6, .initialized RX5, .code yX5_is6 cX5_is6 1 (some .boolean), .methodLink RX5 54 yX5_in, .static yX5_in, .code yX5_in cX5_in 3 (some .boolean)] ++ wsX50)
def wsX5_fade : List Cond := .code yX5_fade cX5_fade 3 (some .int) :: ([.fieldLink RX5 31 "LieBridgesModel" "fade" "I", .methodLink RX5 54 yX5_in, .static yX5_in, .initialized RX5, .code yX5_in cX5_in 3 (some .boolean)] ++ wsX50)
def wsX5_say : List Cond := .code yX5_say cX5_say 2 (some .int) :: ([.fieldLink RX5 62 "LieBridgesModel" "signs" "I", .fieldLink RX5 38 "LieBridgesModel" "pad" "[I", .methodLink RX5 54 yX5_in, .static yX5_in, .initialized RX5, .code yX5_in cX5_in 3 (some .boolean)] ++ wsX50)
def wsX5_wipe : List Cond := .code yX5_wipe cX5_wipe 2 (some .int) :: ([.fieldLink RX5 62 "LieBridgesModel" "signs" "I"] ++ wsX50)
def wsX5_faultOf : List Cond := .code yX5_faultOf cX5_faultOf 6 (some .int) :: ([.fieldLink RX5 62 "LieBridgesModel" "signs" "I", .fieldLink RX5 38 "LieBridgesModel" "pad" "[I", .methodLink RX5 54 yX5_in, .static yX5_in, .initialized RX5, .code yX5_in cX5_in 3 (some .boolean)] ++ wsX50)
def wsX5_fault : List Cond := .code yX5_fault cX5_fault 1 (some .int) :: ([.methodLink RX5 65 yX5_faultOf, .instanceMethod yX5_faultOf, .selects RX5 yX5_faultOf yX5_faultOf, .initialized RX5, .code yX5_faultOf cX5_faultOf 6 (some .int), .fieldLink RX5 62 "LieBridgesModel" "signs" "I", .fieldLink RX5 38 "LieBridgesModel" "pad" "[I", .methodLink RX5 54 yX5_in, .static yX5_in, .code yX5_in cX5_in 3 (some .boolean)] ++ wsX50)
def wsX5_opens : List Cond := .code yX5_opens cX5_opens 3 (some .int) :: ([.fieldLink RX5 62 "LieBridgesModel" "signs" "I", .fieldLink RX5 38 "LieBridgesModel" "pad" "[I"] ++ wsX50)
def wsX5_asNow : List Cond := .code yX5_asNow cX5_asNow 2 none :: ([.fieldLink RX5 41 "LieBridgesModel" "now" "[I", .fieldLink RX5 25 "LieBridgesModel" "days" "[I"] ++ wsX50)
def wsX5_tells : List Cond := .code yX5_tells cX5_tells 5 (some .boolean) :: ([.fieldLink RX5 16 "LieBridgesModel" "owner" "[I", .fieldLink RX5 41 "LieBridgesModel" "now" "[I", .fieldLink RX5 19 "LieBridgesModel" "trusts" "[I", .fieldLink RX5 22 "LieBridgesModel" "knows" "[I", .fieldLink RX5 31 "LieBridgesModel" "fade" "I", .methodLink RX5 69 yX5_has, .static yX5_has, .initialized RX5, .code yX5_has cX5_has 2 (some .boolean)] ++ wsX50)
def wsX5_denies : List Cond := .code yX5_denies cX5_denies 5 (some .boolean) :: ([.fieldLink RX5 19 "LieBridgesModel" "trusts" "[I", .fieldLink RX5 41 "LieBridgesModel" "now" "[I", .methodLink RX5 69 yX5_has, .static yX5_has, .initialized RX5, .code yX5_has cX5_has 2 (some .boolean)] ++ wsX50)
def wsX5_pass : List Cond := .code yX5_pass cX5_pass 2 none :: ([.fieldLink RX5 41 "LieBridgesModel" "now" "[I"] ++ wsX50)
def wsX5_bornBy : List Cond := .code yX5_bornBy cX5_bornBy 4 (some .int) :: ([.fieldLink RX5 41 "LieBridgesModel" "now" "[I"] ++ wsX50)
def wsX5_goText_r1 : List Cond := [Cond.fieldLink RX5 79 "LieBridgesModel" "parts" "I", Cond.fieldLink RX5 82 "LieBridgesModel" "vainAt" "I", Cond.fieldLink RX5 62 "LieBridgesModel" "signs" "I", Cond.fieldLink RX5 38 "LieBridgesModel" "pad" "[I", Cond.methodLink RX5 73 yX5_asNow, Cond.instanceMethod yX5_asNow, Cond.selects RX5 yX5_asNow yX5_asNow, Cond.initialized RX5, Cond.code yX5_asNow cX5_asNow 2 none, Cond.fieldLink RX5 41 "LieBridgesModel" "now" "[I", Cond.fieldLink RX5 25 "LieBridgesModel" "days" "[I", Cond.methodLink RX5 76 yX5_opens, Cond.instanceMethod yX5_opens, Cond.selects RX5 yX5_opens yX5_opens, Cond.code yX5_opens cX5_opens 3 (some .int), Cond.methodLink RX5 85 yX5_pass, Cond.instanceMethod yX5_pass, Cond.selects RX5 yX5_pass yX5_pass, Cond.code yX5_pass cX5_pass 2 none, Cond.methodLink RX5 88 yX5_denies, Cond.instanceMethod yX5_denies, Cond.selects RX5 yX5_denies yX5_denies, Cond.code yX5_denies cX5_denies 5 (some .boolean), Cond.fieldLink RX5 19 "LieBridgesModel" "trusts" "[I"]
def wsX5_goText_r2 : List Cond := [Cond.methodLink RX5 69 yX5_has, Cond.static yX5_has, Cond.code yX5_has cX5_has 2 (some .boolean), Cond.methodLink RX5 91 yX5_tells, Cond.instanceMethod yX5_tells, Cond.selects RX5 yX5_tells yX5_tells, Cond.code yX5_tells cX5_tells 5 (some .boolean), Cond.fieldLink RX5 16 "LieBridgesModel" "owner" "[I", Cond.fieldLink RX5 22 "LieBridgesModel" "knows" "[I", Cond.fieldLink RX5 31 "LieBridgesModel" "fade" "I"]
def wsX5_goText : List Cond := .code yX5_goText cX5_goText 11 (some .int) :: ((wsX5_goText_r1 ++ wsX5_goText_r2) ++ wsX50)
def wsX5_barOfText : List Cond := .code yX5_barOfText cX5_barOfText 1 (some .int) :: ([.methodLink RX5 65 yX5_faultOf, .instanceMethod yX5_faultOf, .selects RX5 yX5_faultOf yX5_faultOf, .initialized RX5, .code yX5_faultOf cX5_faultOf 6 (some .int), .fieldLink RX5 62 "LieBridgesModel" "signs" "I", .fieldLink RX5 38 "LieBridgesModel" "pad" "[I", .methodLink RX5 54 yX5_in, .static yX5_in, .code yX5_in cX5_in 3 (some .boolean), .methodLink RX5 76 yX5_opens, .instanceMethod yX5_opens, .selects RX5 yX5_opens yX5_opens, .code yX5_opens cX5_opens 3 (some .int)] ++ wsX50)
def wsX5_vain_r1 : List Cond := [Cond.fieldLink RX5 82 "LieBridgesModel" "vainAt" "I", Cond.methodLink RX5 94 yX5_barOfText, Cond.instanceMethod yX5_barOfText, Cond.selects RX5 yX5_barOfText yX5_barOfText, Cond.initialized RX5, Cond.code yX5_barOfText cX5_barOfText 1 (some .int), Cond.methodLink RX5 65 yX5_faultOf, Cond.instanceMethod yX5_faultOf, Cond.selects RX5 yX5_faultOf yX5_faultOf, Cond.code yX5_faultOf cX5_faultOf 6 (some .int), Cond.fieldLink RX5 62 "LieBridgesModel" "signs" "I", Cond.fieldLink RX5 38 "LieBridgesModel" "pad" "[I", Cond.methodLink RX5 54 yX5_in, Cond.static yX5_in, Cond.code yX5_in cX5_in 3 (some .boolean), Cond.methodLink RX5 76 yX5_opens, Cond.instanceMethod yX5_opens, Cond.selects RX5 yX5_opens yX5_opens, Cond.code yX5_opens cX5_opens 3 (some .int), Cond.methodLink RX5 97 yX5_goText, Cond.instanceMethod yX5_goText, Cond.selects RX5 yX5_goText yX5_goText, Cond.code yX5_goText cX5_goText 11 (some .int), Cond.fieldLink RX5 79 "LieBridgesModel" "parts" "I"]
def wsX5_vain_r2 : List Cond := [Cond.methodLink RX5 73 yX5_asNow, Cond.instanceMethod yX5_asNow, Cond.selects RX5 yX5_asNow yX5_asNow, Cond.code yX5_asNow cX5_asNow 2 none, Cond.fieldLink RX5 41 "LieBridgesModel" "now" "[I", Cond.fieldLink RX5 25 "LieBridgesModel" "days" "[I", Cond.methodLink RX5 85 yX5_pass, Cond.instanceMethod yX5_pass, Cond.selects RX5 yX5_pass yX5_pass, Cond.code yX5_pass cX5_pass 2 none, Cond.methodLink RX5 88 yX5_denies, Cond.instanceMethod yX5_denies, Cond.selects RX5 yX5_denies yX5_denies, Cond.code yX5_denies cX5_denies 5 (some .boolean), Cond.fieldLink RX5 19 "LieBridgesModel" "trusts" "[I", Cond.methodLink RX5 69 yX5_has, Cond.static yX5_has, Cond.code yX5_has cX5_has 2 (some .boolean), Cond.methodLink RX5 91 yX5_tells, Cond.instanceMethod yX5_tells, Cond.selects RX5 yX5_tells yX5_tells, Cond.code yX5_tells cX5_tells 5 (some .boolean), Cond.fieldLink RX5 16 "LieBridgesModel" "owner" "[I", Cond.fieldLink RX5 22 "LieBridgesModel" "knows" "[I"]
def wsX5_vain_r3 : List Cond := [Cond.fieldLink RX5 31 "LieBridgesModel" "fade" "I"]
def wsX5_vain : List Cond := .code yX5_vain cX5_vain 4 (some .int) :: ((wsX5_vain_r1 ++ (wsX5_vain_r2 ++ wsX5_vain_r3)) ++ wsX50)
def wsX5_done_r1 : List Cond := [Cond.fieldLink RX5 25 "LieBridgesModel" "days" "[I", Cond.fieldLink RX5 41 "LieBridgesModel" "now" "[I", Cond.fieldLink RX5 62 "LieBridgesModel" "signs" "I", Cond.fieldLink RX5 79 "LieBridgesModel" "parts" "I", Cond.methodLink RX5 94 yX5_barOfText, Cond.instanceMethod yX5_barOfText, Cond.selects RX5 yX5_barOfText yX5_barOfText, Cond.initialized RX5, Cond.code yX5_barOfText cX5_barOfText 1 (some .int), Cond.methodLink RX5 65 yX5_faultOf, Cond.instanceMethod yX5_faultOf, Cond.selects RX5 yX5_faultOf yX5_faultOf, Cond.code yX5_faultOf cX5_faultOf 6 (some .int), Cond.fieldLink RX5 38 "LieBridgesModel" "pad" "[I", Cond.methodLink RX5 54 yX5_in, Cond.static yX5_in, Cond.code yX5_in cX5_in 3 (some .boolean), Cond.methodLink RX5 76 yX5_opens, Cond.instanceMethod yX5_opens, Cond.selects RX5 yX5_opens yX5_opens, Cond.code yX5_opens cX5_opens 3 (some .int), Cond.methodLink RX5 97 yX5_goText, Cond.instanceMethod yX5_goText, Cond.selects RX5 yX5_goText yX5_goText]
def wsX5_done_r2 : List Cond := [Cond.code yX5_goText cX5_goText 11 (some .int), Cond.fieldLink RX5 82 "LieBridgesModel" "vainAt" "I", Cond.methodLink RX5 73 yX5_asNow, Cond.instanceMethod yX5_asNow, Cond.selects RX5 yX5_asNow yX5_asNow, Cond.code yX5_asNow cX5_asNow 2 none, Cond.methodLink RX5 85 yX5_pass, Cond.instanceMethod yX5_pass, Cond.selects RX5 yX5_pass yX5_pass, Cond.code yX5_pass cX5_pass 2 none, Cond.methodLink RX5 88 yX5_denies, Cond.instanceMethod yX5_denies, Cond.selects RX5 yX5_denies yX5_denies, Cond.code yX5_denies cX5_denies 5 (some .boolean), Cond.fieldLink RX5 19 "LieBridgesModel" "trusts" "[I", Cond.methodLink RX5 69 yX5_has, Cond.static yX5_has, Cond.code yX5_has cX5_has 2 (some .boolean), Cond.methodLink RX5 91 yX5_tells, Cond.instanceMethod yX5_tells, Cond.selects RX5 yX5_tells yX5_tells, Cond.code yX5_tells cX5_tells 5 (some .boolean), Cond.fieldLink RX5 16 "LieBridgesModel" "owner" "[I", Cond.fieldLink RX5 22 "LieBridgesModel" "knows" "[I"]
def wsX5_done_r3 : List Cond := [Cond.fieldLink RX5 31 "LieBridgesModel" "fade" "I"]
def wsX5_done : List Cond := .code yX5_done cX5_done 3 (some .int) :: ((wsX5_done_r1 ++ (wsX5_done_r2 ++ wsX5_done_r3)) ++ wsX50)
def wsX5_beliefOf : List Cond := .code yX5_beliefOf cX5_beliefOf 4 (some .int) :: ([.fieldLink RX5 41 "LieBridgesModel" "now" "[I", .methodLink RX5 101 yX5_bornBy, .instanceMethod yX5_bornBy, .selects RX5 yX5_bornBy yX5_bornBy, .initialized RX5, .code yX5_bornBy cX5_bornBy 4 (some .int)] ++ wsX50)
def wsX5_bears : List Cond := .code yX5_bears cX5_bears 3 (some .int) :: ([.methodLink RX5 58 yX5_is6, .static yX5_is6, .initialized RX5, .code yX5_is6 cX5_is6 1 (some .boolean), .methodLink RX5 54 yX5_in, .static yX5_in, .code yX5_in cX5_in 3 (some .boolean), .methodLink RX5 73 yX5_asNow, .instanceMethod yX5_asNow, .selects RX5 yX5_asNow yX5_asNow, .code yX5_asNow cX5_asNow 2 none, .fieldLink RX5 41 "LieBridgesModel" "now" "[I", .fieldLink RX5 25 "LieBridgesModel" "days" "[I", .methodLink RX5 105 yX5_beliefOf, .instanceMethod yX5_beliefOf, .selects RX5 yX5_beliefOf yX5_beliefOf, .code yX5_beliefOf cX5_beliefOf 4 (some .int), .methodLink RX5 101 yX5_bornBy, .instanceMethod yX5_bornBy, .selects RX5 yX5_bornBy yX5_bornBy, .code yX5_bornBy cX5_bornBy 4 (some .int)] ++ wsX50)
def wsX5_behind_r1 : List Cond := [Cond.methodLink RX5 58 yX5_is6, Cond.static yX5_is6, Cond.initialized RX5, Cond.code yX5_is6 cX5_is6 1 (some .boolean), Cond.methodLink RX5 54 yX5_in, Cond.static yX5_in, Cond.code yX5_in cX5_in 3 (some .boolean), Cond.methodLink RX5 94 yX5_barOfText, Cond.instanceMethod yX5_barOfText, Cond.selects RX5 yX5_barOfText yX5_barOfText, Cond.code yX5_barOfText cX5_barOfText 1 (some .int), Cond.methodLink RX5 65 yX5_faultOf, Cond.instanceMethod yX5_faultOf, Cond.selects RX5 yX5_faultOf yX5_faultOf, Cond.code yX5_faultOf cX5_faultOf 6 (some .int), Cond.fieldLink RX5 62 "LieBridgesModel" "signs" "I", Cond.fieldLink RX5 38 "LieBridgesModel" "pad" "[I", Cond.methodLink RX5 76 yX5_opens, Cond.instanceMethod yX5_opens, Cond.selects RX5 yX5_opens yX5_opens, Cond.code yX5_opens cX5_opens 3 (some .int), Cond.methodLink RX5 97 yX5_goText, Cond.instanceMethod yX5_goText, Cond.selects RX5 yX5_goText yX5_goText]
def wsX5_behind_r2 : List Cond := [Cond.code yX5_goText cX5_goText 11 (some .int), Cond.fieldLink RX5 79 "LieBridgesModel" "parts" "I", Cond.fieldLink RX5 82 "LieBridgesModel" "vainAt" "I", Cond.methodLink RX5 73 yX5_asNow, Cond.instanceMethod yX5_asNow, Cond.selects RX5 yX5_asNow yX5_asNow, Cond.code yX5_asNow cX5_asNow 2 none, Cond.fieldLink RX5 41 "LieBridgesModel" "now" "[I", Cond.fieldLink RX5 25 "LieBridgesModel" "days" "[I", Cond.methodLink RX5 85 yX5_pass, Cond.instanceMethod yX5_pass, Cond.selects RX5 yX5_pass yX5_pass, Cond.code yX5_pass cX5_pass 2 none, Cond.methodLink RX5 88 yX5_denies, Cond.instanceMethod yX5_denies, Cond.selects RX5 yX5_denies yX5_denies, Cond.code yX5_denies cX5_denies 5 (some .boolean), Cond.fieldLink RX5 19 "LieBridgesModel" "trusts" "[I", Cond.methodLink RX5 69 yX5_has, Cond.static yX5_has, Cond.code yX5_has cX5_has 2 (some .boolean), Cond.methodLink RX5 91 yX5_tells, Cond.instanceMethod yX5_tells, Cond.selects RX5 yX5_tells yX5_tells]
def wsX5_behind_r3 : List Cond := [Cond.code yX5_tells cX5_tells 5 (some .boolean), Cond.fieldLink RX5 16 "LieBridgesModel" "owner" "[I", Cond.fieldLink RX5 22 "LieBridgesModel" "knows" "[I", Cond.fieldLink RX5 31 "LieBridgesModel" "fade" "I", Cond.methodLink RX5 105 yX5_beliefOf, Cond.instanceMethod yX5_beliefOf, Cond.selects RX5 yX5_beliefOf yX5_beliefOf, Cond.code yX5_beliefOf cX5_beliefOf 4 (some .int), Cond.methodLink RX5 101 yX5_bornBy, Cond.instanceMethod yX5_bornBy, Cond.selects RX5 yX5_bornBy yX5_bornBy, Cond.code yX5_bornBy cX5_bornBy 4 (some .int)]
def wsX5_behind : List Cond := .code yX5_behind cX5_behind 4 (some .int) :: ((wsX5_behind_r1 ++ (wsX5_behind_r2 ++ wsX5_behind_r3)) ++ wsX50)
def wsX5_powerOf : List Cond := .code yX5_powerOf cX5_powerOf 4 (some .int) :: ([])
def wsX5_over : List Cond := .code yX5_over cX5_over 3 (some .int) :: ([.fieldLink RX5 7 "LieBridgesModel" "one" "[I", .fieldLink RX5 13 "LieBridgesModel" "two" "[I"] ++ wsX50)
def wsX5_falls_r1 : List Cond := [Cond.methodLink RX5 58 yX5_is6, Cond.static yX5_is6, Cond.initialized RX5, Cond.code yX5_is6 cX5_is6 1 (some .boolean), Cond.methodLink RX5 54 yX5_in, Cond.static yX5_in, Cond.code yX5_in cX5_in 3 (some .boolean), Cond.methodLink RX5 109 yX5_powerOf, Cond.static yX5_powerOf, Cond.code yX5_powerOf cX5_powerOf 4 (some .int), Cond.methodLink RX5 73 yX5_asNow, Cond.instanceMethod yX5_asNow, Cond.selects RX5 yX5_asNow yX5_asNow, Cond.code yX5_asNow cX5_asNow 2 none, Cond.fieldLink RX5 41 "LieBridgesModel" "now" "[I", Cond.fieldLink RX5 25 "LieBridgesModel" "days" "[I", Cond.methodLink RX5 112 yX5_over, Cond.instanceMethod yX5_over, Cond.selects RX5 yX5_over yX5_over, Cond.code yX5_over cX5_over 3 (some .int), Cond.fieldLink RX5 7 "LieBridgesModel" "one" "[I", Cond.fieldLink RX5 13 "LieBridgesModel" "two" "[I", Cond.methodLink RX5 101 yX5_bornBy, Cond.instanceMethod yX5_bornBy]
def wsX5_falls_r2 : List Cond := [Cond.selects RX5 yX5_bornBy yX5_bornBy, Cond.code yX5_bornBy cX5_bornBy 4 (some .int)]
def wsX5_falls : List Cond := .code yX5_falls cX5_falls 11 (some .int) :: ((wsX5_falls_r1 ++ wsX5_falls_r2) ++ wsX50)
def wsX5_plankOf : List Cond := .code yX5_plankOf cX5_plankOf 4 (some .int) :: ([.methodLink RX5 109 yX5_powerOf, .static yX5_powerOf, .initialized RX5, .code yX5_powerOf cX5_powerOf 4 (some .int)])
def wsX5_layWay : List Cond := .code yX5_layWay cX5_layWay 9 (some .boolean) :: ([.constant RX5 115 (1000000), .fieldLink RX5 116 "LieBridgesModel" "bestCost" "I", .fieldLink RX5 119 "LieBridgesModel" "bestMany" "I", .fieldLink RX5 122 "LieBridgesModel" "bestCode" "I", .fieldLink RX5 44 "LieBridgesModel" "cost" "[I", .methodLink RX5 109 yX5_powerOf, .static yX5_powerOf, .initialized RX5, .code yX5_powerOf cX5_powerOf 4 (some .int), .methodLink RX5 125 yX5_plankOf, .instanceMethod yX5_plankOf, .selects RX5 yX5_plankOf yX5_plankOf, .code yX5_plankOf cX5_plankOf 4 (some .int), .methodLink RX5 112 yX5_over, .instanceMethod yX5_over, .selects RX5 yX5_over yX5_over, .code yX5_over cX5_over 3 (some .int), .fieldLink RX5 7 "LieBridgesModel" "one" "[I", .fieldLink RX5 13 "LieBridgesModel" "two" "[I"] ++ wsX50)
def wsX5_reached : List Cond := .code yX5_reached cX5_reached 6 (some .int) :: ([.fieldLink RX5 41 "LieBridgesModel" "now" "[I", .fieldLink RX5 16 "LieBridgesModel" "owner" "[I", .fieldLink RX5 22 "LieBridgesModel" "knows" "[I", .fieldLink RX5 19 "LieBridgesModel" "trusts" "[I", .methodLink RX5 69 yX5_has, .static yX5_has, .initialized RX5, .code yX5_has cX5_has 2 (some .boolean)] ++ wsX50)
def wsX5_layCosts : List Cond := .code yX5_layCosts cX5_layCosts 4 none :: ([.fieldLink RX5 44 "LieBridgesModel" "cost" "[I", .constant RX5 115 (1000000), .methodLink RX5 101 yX5_bornBy, .instanceMethod yX5_bornBy, .selects RX5 yX5_bornBy yX5_bornBy, .initialized RX5, .code yX5_bornBy cX5_bornBy 4 (some .int), .fieldLink RX5 41 "LieBridgesModel" "now" "[I", .methodLink RX5 128 yX5_reached, .instanceMethod yX5_reached, .selects RX5 yX5_reached yX5_reached, .code yX5_reached cX5_reached 6 (some .int), .fieldLink RX5 16 "LieBridgesModel" "owner" "[I", .fieldLink RX5 22 "LieBridgesModel" "knows" "[I", .fieldLink RX5 19 "LieBridgesModel" "trusts" "[I", .methodLink RX5 69 yX5_has, .static yX5_has, .code yX5_has cX5_has 2 (some .boolean)] ++ wsX50)
def wsX5_tellings_r1 : List Cond := [Cond.fieldLink RX5 116 "LieBridgesModel" "bestCost" "I", Cond.fieldLink RX5 119 "LieBridgesModel" "bestMany" "I", Cond.fieldLink RX5 122 "LieBridgesModel" "bestCode" "I", Cond.methodLink RX5 58 yX5_is6, Cond.static yX5_is6, Cond.initialized RX5, Cond.code yX5_is6 cX5_is6 1 (some .boolean), Cond.methodLink RX5 54 yX5_in, Cond.static yX5_in, Cond.code yX5_in cX5_in 3 (some .boolean), Cond.methodLink RX5 73 yX5_asNow, Cond.instanceMethod yX5_asNow, Cond.selects RX5 yX5_asNow yX5_asNow, Cond.code yX5_asNow cX5_asNow 2 none, Cond.fieldLink RX5 41 "LieBridgesModel" "now" "[I", Cond.fieldLink RX5 25 "LieBridgesModel" "days" "[I", Cond.methodLink RX5 131 yX5_layCosts, Cond.instanceMethod yX5_layCosts, Cond.selects RX5 yX5_layCosts yX5_layCosts, Cond.code yX5_layCosts cX5_layCosts 4 none, Cond.fieldLink RX5 44 "LieBridgesModel" "cost" "[I", Cond.constant RX5 115 (1000000), Cond.methodLink RX5 101 yX5_bornBy, Cond.instanceMethod yX5_bornBy]
def wsX5_tellings_r2 : List Cond := [Cond.selects RX5 yX5_bornBy yX5_bornBy, Cond.code yX5_bornBy cX5_bornBy 4 (some .int), Cond.methodLink RX5 128 yX5_reached, Cond.instanceMethod yX5_reached, Cond.selects RX5 yX5_reached yX5_reached, Cond.code yX5_reached cX5_reached 6 (some .int), Cond.fieldLink RX5 16 "LieBridgesModel" "owner" "[I", Cond.fieldLink RX5 22 "LieBridgesModel" "knows" "[I", Cond.fieldLink RX5 19 "LieBridgesModel" "trusts" "[I", Cond.methodLink RX5 69 yX5_has, Cond.static yX5_has, Cond.code yX5_has cX5_has 2 (some .boolean), Cond.methodLink RX5 135 yX5_layWay, Cond.instanceMethod yX5_layWay, Cond.selects RX5 yX5_layWay yX5_layWay, Cond.code yX5_layWay cX5_layWay 9 (some .boolean), Cond.methodLink RX5 109 yX5_powerOf, Cond.static yX5_powerOf, Cond.code yX5_powerOf cX5_powerOf 4 (some .int), Cond.methodLink RX5 125 yX5_plankOf, Cond.instanceMethod yX5_plankOf, Cond.selects RX5 yX5_plankOf yX5_plankOf, Cond.code yX5_plankOf cX5_plankOf 4 (some .int), Cond.methodLink RX5 112 yX5_over]
def wsX5_tellings_r3 : List Cond := [Cond.instanceMethod yX5_over, Cond.selects RX5 yX5_over yX5_over, Cond.code yX5_over cX5_over 3 (some .int), Cond.fieldLink RX5 7 "LieBridgesModel" "one" "[I", Cond.fieldLink RX5 13 "LieBridgesModel" "two" "[I"]
def wsX5_tellings : List Cond := .code yX5_tellings cX5_tellings 5 (some .int) :: ((wsX5_tellings_r1 ++ (wsX5_tellings_r2 ++ wsX5_tellings_r3)) ++ wsX50)
def wsX5_stands_r1 : List Cond := [Cond.fieldLink RX5 44 "LieBridgesModel" "cost" "[I", Cond.constant RX5 115 (1000000), Cond.methodLink RX5 58 yX5_is6, Cond.static yX5_is6, Cond.initialized RX5, Cond.code yX5_is6 cX5_is6 1 (some .boolean), Cond.methodLink RX5 54 yX5_in, Cond.static yX5_in, Cond.code yX5_in cX5_in 3 (some .boolean), Cond.methodLink RX5 73 yX5_asNow, Cond.instanceMethod yX5_asNow, Cond.selects RX5 yX5_asNow yX5_asNow, Cond.code yX5_asNow cX5_asNow 2 none, Cond.fieldLink RX5 41 "LieBridgesModel" "now" "[I", Cond.fieldLink RX5 25 "LieBridgesModel" "days" "[I", Cond.methodLink RX5 101 yX5_bornBy, Cond.instanceMethod yX5_bornBy, Cond.selects RX5 yX5_bornBy yX5_bornBy, Cond.code yX5_bornBy cX5_bornBy 4 (some .int), Cond.methodLink RX5 135 yX5_layWay, Cond.instanceMethod yX5_layWay, Cond.selects RX5 yX5_layWay yX5_layWay, Cond.code yX5_layWay cX5_layWay 9 (some .boolean), Cond.fieldLink RX5 116 "LieBridgesModel" "bestCost" "I"]
def wsX5_stands_r2 : List Cond := [Cond.fieldLink RX5 119 "LieBridgesModel" "bestMany" "I", Cond.fieldLink RX5 122 "LieBridgesModel" "bestCode" "I", Cond.methodLink RX5 109 yX5_powerOf, Cond.static yX5_powerOf, Cond.code yX5_powerOf cX5_powerOf 4 (some .int), Cond.methodLink RX5 125 yX5_plankOf, Cond.instanceMethod yX5_plankOf, Cond.selects RX5 yX5_plankOf yX5_plankOf, Cond.code yX5_plankOf cX5_plankOf 4 (some .int), Cond.methodLink RX5 112 yX5_over, Cond.instanceMethod yX5_over, Cond.selects RX5 yX5_over yX5_over, Cond.code yX5_over cX5_over 3 (some .int), Cond.fieldLink RX5 7 "LieBridgesModel" "one" "[I", Cond.fieldLink RX5 13 "LieBridgesModel" "two" "[I", Cond.methodLink RX5 85 yX5_pass, Cond.instanceMethod yX5_pass, Cond.selects RX5 yX5_pass yX5_pass, Cond.code yX5_pass cX5_pass 2 none]
def wsX5_stands : List Cond := .code yX5_stands cX5_stands 7 (some .int) :: ((wsX5_stands_r1 ++ wsX5_stands_r2) ++ wsX50)
def wsX5_word : List Cond := .code yX5_word cX5_word 8 (some .int) :: ([.methodLink RX5 54 yX5_in, .static yX5_in, .initialized RX5, .code yX5_in cX5_in 3 (some .boolean), .methodLink RX5 73 yX5_asNow, .instanceMethod yX5_asNow, .selects RX5 yX5_asNow yX5_asNow, .code yX5_asNow cX5_asNow 2 none, .fieldLink RX5 41 "LieBridgesModel" "now" "[I", .fieldLink RX5 25 "LieBridgesModel" "days" "[I", .methodLink RX5 88 yX5_denies, .instanceMethod yX5_denies, .selects RX5 yX5_denies yX5_denies, .code yX5_denies cX5_denies 5 (some .boolean), .fieldLink RX5 19 "LieBridgesModel" "trusts" "[I", .methodLink RX5 69 yX5_has, .static yX5_has, .code yX5_has cX5_has 2 (some .boolean)] ++ wsX50)
def wsX5_rumour_r1 : List Cond := [Cond.fieldLink RX5 16 "LieBridgesModel" "owner" "[I", Cond.fieldLink RX5 41 "LieBridgesModel" "now" "[I", Cond.fieldLink RX5 79 "LieBridgesModel" "parts" "I", Cond.methodLink RX5 58 yX5_is6, Cond.static yX5_is6, Cond.initialized RX5, Cond.code yX5_is6 cX5_is6 1 (some .boolean), Cond.methodLink RX5 54 yX5_in, Cond.static yX5_in, Cond.code yX5_in cX5_in 3 (some .boolean), Cond.methodLink RX5 73 yX5_asNow, Cond.instanceMethod yX5_asNow, Cond.selects RX5 yX5_asNow yX5_asNow, Cond.code yX5_asNow cX5_asNow 2 none, Cond.fieldLink RX5 25 "LieBridgesModel" "days" "[I", Cond.methodLink RX5 101 yX5_bornBy, Cond.instanceMethod yX5_bornBy, Cond.selects RX5 yX5_bornBy yX5_bornBy, Cond.code yX5_bornBy cX5_bornBy 4 (some .int), Cond.methodLink RX5 69 yX5_has, Cond.static yX5_has, Cond.code yX5_has cX5_has 2 (some .boolean), Cond.methodLink RX5 91 yX5_tells, Cond.instanceMethod yX5_tells]
def wsX5_rumour_r2 : List Cond := [Cond.selects RX5 yX5_tells yX5_tells, Cond.code yX5_tells cX5_tells 5 (some .boolean), Cond.fieldLink RX5 19 "LieBridgesModel" "trusts" "[I", Cond.fieldLink RX5 22 "LieBridgesModel" "knows" "[I", Cond.fieldLink RX5 31 "LieBridgesModel" "fade" "I", Cond.methodLink RX5 85 yX5_pass, Cond.instanceMethod yX5_pass, Cond.selects RX5 yX5_pass yX5_pass, Cond.code yX5_pass cX5_pass 2 none]
def wsX5_rumour : List Cond := .code yX5_rumour cX5_rumour 8 (some .int) :: ((wsX5_rumour_r1 ++ wsX5_rumour_r2) ++ wsX50)
def wsX5_toAll : List Cond := .code yX5_toAll cX5_toAll 6 none :: ([.fieldLink RX5 79 "LieBridgesModel" "parts" "I", .methodLink RX5 88 yX5_denies, .instanceMethod yX5_denies, .selects RX5 yX5_denies yX5_denies, .initialized RX5, .code yX5_denies cX5_denies 5 (some .boolean), .fieldLink RX5 19 "LieBridgesModel" "trusts" "[I", .fieldLink RX5 41 "LieBridgesModel" "now" "[I", .methodLink RX5 69 yX5_has, .static yX5_has, .code yX5_has cX5_has 2 (some .boolean), .methodLink RX5 91 yX5_tells, .instanceMethod yX5_tells, .selects RX5 yX5_tells yX5_tells, .code yX5_tells cX5_tells 5 (some .boolean), .fieldLink RX5 16 "LieBridgesModel" "owner" "[I", .fieldLink RX5 22 "LieBridgesModel" "knows" "[I", .fieldLink RX5 31 "LieBridgesModel" "fade" "I"] ++ wsX50)
def wsX5_odds_r1 : List Cond := [Cond.methodLink RX5 58 yX5_is6, Cond.static yX5_is6, Cond.initialized RX5, Cond.code yX5_is6 cX5_is6 1 (some .boolean), Cond.methodLink RX5 54 yX5_in, Cond.static yX5_in, Cond.code yX5_in cX5_in 3 (some .boolean), Cond.methodLink RX5 73 yX5_asNow, Cond.instanceMethod yX5_asNow, Cond.selects RX5 yX5_asNow yX5_asNow, Cond.code yX5_asNow cX5_asNow 2 none, Cond.fieldLink RX5 41 "LieBridgesModel" "now" "[I", Cond.fieldLink RX5 25 "LieBridgesModel" "days" "[I", Cond.methodLink RX5 138 yX5_toAll, Cond.instanceMethod yX5_toAll, Cond.selects RX5 yX5_toAll yX5_toAll, Cond.code yX5_toAll cX5_toAll 6 none, Cond.fieldLink RX5 79 "LieBridgesModel" "parts" "I", Cond.methodLink RX5 88 yX5_denies, Cond.instanceMethod yX5_denies, Cond.selects RX5 yX5_denies yX5_denies, Cond.code yX5_denies cX5_denies 5 (some .boolean), Cond.fieldLink RX5 19 "LieBridgesModel" "trusts" "[I", Cond.methodLink RX5 69 yX5_has]
def wsX5_odds_r2 : List Cond := [Cond.static yX5_has, Cond.code yX5_has cX5_has 2 (some .boolean), Cond.methodLink RX5 91 yX5_tells, Cond.instanceMethod yX5_tells, Cond.selects RX5 yX5_tells yX5_tells, Cond.code yX5_tells cX5_tells 5 (some .boolean), Cond.fieldLink RX5 16 "LieBridgesModel" "owner" "[I", Cond.fieldLink RX5 22 "LieBridgesModel" "knows" "[I", Cond.fieldLink RX5 31 "LieBridgesModel" "fade" "I", Cond.methodLink RX5 101 yX5_bornBy, Cond.instanceMethod yX5_bornBy, Cond.selects RX5 yX5_bornBy yX5_bornBy, Cond.code yX5_bornBy cX5_bornBy 4 (some .int)]
def wsX5_odds : List Cond := .code yX5_odds cX5_odds 5 (some .int) :: ((wsX5_odds_r1 ++ wsX5_odds_r2) ++ wsX50)
def wsX5_tenths : List Cond := .code yX5_tenths cX5_tenths 4 (some .int) :: ([.fieldLink RX5 28 "LieBridgesModel" "safety" "[I", .methodLink RX5 58 yX5_is6, .static yX5_is6, .initialized RX5, .code yX5_is6 cX5_is6 1 (some .boolean), .methodLink RX5 54 yX5_in, .static yX5_in, .code yX5_in cX5_in 3 (some .boolean)] ++ wsX50)
def wsX5_laySafe : List Cond := .code yX5_laySafe cX5_laySafe 10 (some .boolean) :: ([.fieldLink RX5 28 "LieBridgesModel" "safety" "[I", .fieldLink RX5 142 "LieBridgesModel" "safeUp" "I", .fieldLink RX5 119 "LieBridgesModel" "bestMany" "I", .fieldLink RX5 122 "LieBridgesModel" "bestCode" "I", .methodLink RX5 109 yX5_powerOf, .static yX5_powerOf, .initialized RX5, .code yX5_powerOf cX5_powerOf 4 (some .int), .methodLink RX5 125 yX5_plankOf, .instanceMethod yX5_plankOf, .selects RX5 yX5_plankOf yX5_plankOf, .code yX5_plankOf cX5_plankOf 4 (some .int), .methodLink RX5 112 yX5_over, .instanceMethod yX5_over, .selects RX5 yX5_over yX5_over, .code yX5_over cX5_over 3 (some .int), .fieldLink RX5 7 "LieBridgesModel" "one" "[I", .fieldLink RX5 13 "LieBridgesModel" "two" "[I"] ++ wsX50)
def wsX5_safe_r1 : List Cond := [Cond.fieldLink RX5 119 "LieBridgesModel" "bestMany" "I", Cond.fieldLink RX5 122 "LieBridgesModel" "bestCode" "I", Cond.methodLink RX5 58 yX5_is6, Cond.static yX5_is6, Cond.initialized RX5, Cond.code yX5_is6 cX5_is6 1 (some .boolean), Cond.methodLink RX5 54 yX5_in, Cond.static yX5_in, Cond.code yX5_in cX5_in 3 (some .boolean), Cond.methodLink RX5 145 yX5_laySafe, Cond.instanceMethod yX5_laySafe, Cond.selects RX5 yX5_laySafe yX5_laySafe, Cond.code yX5_laySafe cX5_laySafe 10 (some .boolean), Cond.fieldLink RX5 28 "LieBridgesModel" "safety" "[I", Cond.fieldLink RX5 142 "LieBridgesModel" "safeUp" "I", Cond.methodLink RX5 109 yX5_powerOf, Cond.static yX5_powerOf, Cond.code yX5_powerOf cX5_powerOf 4 (some .int), Cond.methodLink RX5 125 yX5_plankOf, Cond.instanceMethod yX5_plankOf, Cond.selects RX5 yX5_plankOf yX5_plankOf, Cond.code yX5_plankOf cX5_plankOf 4 (some .int), Cond.methodLink RX5 112 yX5_over, Cond.instanceMethod yX5_over]
def wsX5_safe_r2 : List Cond := [Cond.selects RX5 yX5_over yX5_over, Cond.code yX5_over cX5_over 3 (some .int), Cond.fieldLink RX5 7 "LieBridgesModel" "one" "[I", Cond.fieldLink RX5 13 "LieBridgesModel" "two" "[I"]
def wsX5_safe : List Cond := .code yX5_safe cX5_safe 4 (some .int) :: ((wsX5_safe_r1 ++ wsX5_safe_r2) ++ wsX50)
def wsX5_chance_r1 : List Cond := [Cond.constantLong RX5 148 (-1000000000000000001), Cond.constantLong RX5 150 (-1000000000000000002), Cond.fieldLink RX5 142 "LieBridgesModel" "safeUp" "I", Cond.fieldLink RX5 119 "LieBridgesModel" "bestMany" "I", Cond.methodLink RX5 58 yX5_is6, Cond.static yX5_is6, Cond.initialized RX5, Cond.code yX5_is6 cX5_is6 1 (some .boolean), Cond.methodLink RX5 54 yX5_in, Cond.static yX5_in, Cond.code yX5_in cX5_in 3 (some .boolean), Cond.methodLink RX5 145 yX5_laySafe, Cond.instanceMethod yX5_laySafe, Cond.selects RX5 yX5_laySafe yX5_laySafe, Cond.code yX5_laySafe cX5_laySafe 10 (some .boolean), Cond.fieldLink RX5 28 "LieBridgesModel" "safety" "[I", Cond.fieldLink RX5 122 "LieBridgesModel" "bestCode" "I", Cond.methodLink RX5 109 yX5_powerOf, Cond.static yX5_powerOf, Cond.code yX5_powerOf cX5_powerOf 4 (some .int), Cond.methodLink RX5 125 yX5_plankOf, Cond.instanceMethod yX5_plankOf, Cond.selects RX5 yX5_plankOf yX5_plankOf, Cond.code yX5_plankOf cX5_plankOf 4 (some .int)]
def wsX5_chance_r2 : List Cond := [Cond.methodLink RX5 112 yX5_over, Cond.instanceMethod yX5_over, Cond.selects RX5 yX5_over yX5_over, Cond.code yX5_over cX5_over 3 (some .int), Cond.fieldLink RX5 7 "LieBridgesModel" "one" "[I", Cond.fieldLink RX5 13 "LieBridgesModel" "two" "[I"]
def wsX5_chance : List Cond := .code yX5_chance cX5_chance 10 (some .long) :: ((wsX5_chance_r1 ++ wsX5_chance_r2) ++ wsX50)
def wsX5_seen : List Cond := .code yX5_seen cX5_seen 3 (some .int) :: ([.fieldLink RX5 152 "LieBridgesModel" "sights" "I", .fieldLink RX5 35 "LieBridgesModel" "sight" "[I", .methodLink RX5 58 yX5_is6, .static yX5_is6, .initialized RX5, .code yX5_is6 cX5_is6 1 (some .boolean), .methodLink RX5 54 yX5_in, .static yX5_in, .code yX5_in cX5_in 3 (some .boolean)] ++ wsX50)
def wsX5_forget : List Cond := .code yX5_forget cX5_forget 2 (some .int) :: ([.fieldLink RX5 152 "LieBridgesModel" "sights" "I"] ++ wsX50)
def wsX5_filled_r1 : List Cond := [Cond.fieldLink RX5 152 "LieBridgesModel" "sights" "I", Cond.fieldLink RX5 35 "LieBridgesModel" "sight" "[I", Cond.methodLink RX5 65 yX5_faultOf, Cond.instanceMethod yX5_faultOf, Cond.selects RX5 yX5_faultOf yX5_faultOf, Cond.initialized RX5, Cond.code yX5_faultOf cX5_faultOf 6 (some .int), Cond.fieldLink RX5 62 "LieBridgesModel" "signs" "I", Cond.fieldLink RX5 38 "LieBridgesModel" "pad" "[I", Cond.methodLink RX5 54 yX5_in, Cond.static yX5_in, Cond.code yX5_in cX5_in 3 (some .boolean), Cond.methodLink RX5 76 yX5_opens, Cond.instanceMethod yX5_opens, Cond.selects RX5 yX5_opens yX5_opens, Cond.code yX5_opens cX5_opens 3 (some .int), Cond.methodLink RX5 109 yX5_powerOf, Cond.static yX5_powerOf, Cond.code yX5_powerOf cX5_powerOf 4 (some .int), Cond.methodLink RX5 97 yX5_goText, Cond.instanceMethod yX5_goText, Cond.selects RX5 yX5_goText yX5_goText, Cond.code yX5_goText cX5_goText 11 (some .int), Cond.fieldLink RX5 79 "LieBridgesModel" "parts" "I"]
def wsX5_filled_r2 : List Cond := [Cond.fieldLink RX5 82 "LieBridgesModel" "vainAt" "I", Cond.methodLink RX5 73 yX5_asNow, Cond.instanceMethod yX5_asNow, Cond.selects RX5 yX5_asNow yX5_asNow, Cond.code yX5_asNow cX5_asNow 2 none, Cond.fieldLink RX5 41 "LieBridgesModel" "now" "[I", Cond.fieldLink RX5 25 "LieBridgesModel" "days" "[I", Cond.methodLink RX5 85 yX5_pass, Cond.instanceMethod yX5_pass, Cond.selects RX5 yX5_pass yX5_pass, Cond.code yX5_pass cX5_pass 2 none, Cond.methodLink RX5 88 yX5_denies, Cond.instanceMethod yX5_denies, Cond.selects RX5 yX5_denies yX5_denies, Cond.code yX5_denies cX5_denies 5 (some .boolean), Cond.fieldLink RX5 19 "LieBridgesModel" "trusts" "[I", Cond.methodLink RX5 69 yX5_has, Cond.static yX5_has, Cond.code yX5_has cX5_has 2 (some .boolean), Cond.methodLink RX5 91 yX5_tells, Cond.instanceMethod yX5_tells, Cond.selects RX5 yX5_tells yX5_tells, Cond.code yX5_tells cX5_tells 5 (some .boolean), Cond.fieldLink RX5 16 "LieBridgesModel" "owner" "[I"]
def wsX5_filled_r3 : List Cond := [Cond.fieldLink RX5 22 "LieBridgesModel" "knows" "[I", Cond.fieldLink RX5 31 "LieBridgesModel" "fade" "I", Cond.methodLink RX5 101 yX5_bornBy, Cond.instanceMethod yX5_bornBy, Cond.selects RX5 yX5_bornBy yX5_bornBy, Cond.code yX5_bornBy cX5_bornBy 4 (some .int)]
def wsX5_filled : List Cond := .code yX5_filled cX5_filled 8 (some .int) :: ((wsX5_filled_r1 ++ (wsX5_filled_r2 ++ wsX5_filled_r3)) ++ wsX50)
def wsX5_year_r1 : List Cond := [Cond.constant RX5 155 (65537), Cond.methodLink RX5 54 yX5_in, Cond.static yX5_in, Cond.initialized RX5, Cond.code yX5_in cX5_in 3 (some .boolean), Cond.methodLink RX5 73 yX5_asNow, Cond.instanceMethod yX5_asNow, Cond.selects RX5 yX5_asNow yX5_asNow, Cond.code yX5_asNow cX5_asNow 2 none, Cond.fieldLink RX5 41 "LieBridgesModel" "now" "[I", Cond.fieldLink RX5 25 "LieBridgesModel" "days" "[I", Cond.methodLink RX5 91 yX5_tells, Cond.instanceMethod yX5_tells, Cond.selects RX5 yX5_tells yX5_tells, Cond.code yX5_tells cX5_tells 5 (some .boolean), Cond.fieldLink RX5 16 "LieBridgesModel" "owner" "[I", Cond.fieldLink RX5 19 "LieBridgesModel" "trusts" "[I", Cond.fieldLink RX5 22 "LieBridgesModel" "knows" "[I", Cond.fieldLink RX5 31 "LieBridgesModel" "fade" "I", Cond.methodLink RX5 69 yX5_has, Cond.static yX5_has, Cond.code yX5_has cX5_has 2 (some .boolean), Cond.methodLink RX5 85 yX5_pass, Cond.instanceMethod yX5_pass]
def wsX5_year_r2 : List Cond := [Cond.selects RX5 yX5_pass yX5_pass, Cond.code yX5_pass cX5_pass 2 none, Cond.methodLink RX5 101 yX5_bornBy, Cond.instanceMethod yX5_bornBy, Cond.selects RX5 yX5_bornBy yX5_bornBy, Cond.code yX5_bornBy cX5_bornBy 4 (some .int)]
def wsX5_year : List Cond := .code yX5_year cX5_year 7 (some .int) :: ((wsX5_year_r1 ++ wsX5_year_r2) ++ wsX50)
def wsX5_image : List Cond := .code yX5_image cX5_image 4 (some .int) :: ([.fieldLink RX5 47 "LieBridgesModel" "image" "[I", .fieldLink RX5 25 "LieBridgesModel" "days" "[I", .fieldLink RX5 7 "LieBridgesModel" "one" "[I", .fieldLink RX5 13 "LieBridgesModel" "two" "[I", .fieldLink RX5 16 "LieBridgesModel" "owner" "[I", .fieldLink RX5 19 "LieBridgesModel" "trusts" "[I", .fieldLink RX5 22 "LieBridgesModel" "knows" "[I", .fieldLink RX5 28 "LieBridgesModel" "safety" "[I", .fieldLink RX5 35 "LieBridgesModel" "sight" "[I", .fieldLink RX5 31 "LieBridgesModel" "fade" "I", .fieldLink RX5 152 "LieBridgesModel" "sights" "I", .fieldLink RX5 50 "LieBridgesModel" "isKept" "[Z", .methodLink RX5 54 yX5_in, .static yX5_in, .initialized RX5, .code yX5_in cX5_in 3 (some .boolean)] ++ wsX50)
def wsX5_restore : List Cond := .code yX5_restore cX5_restore 4 (some .int) :: ([.fieldLink RX5 50 "LieBridgesModel" "isKept" "[Z", .fieldLink RX5 25 "LieBridgesModel" "days" "[I", .fieldLink RX5 47 "LieBridgesModel" "image" "[I", .fieldLink RX5 7 "LieBridgesModel" "one" "[I", .fieldLink RX5 13 "LieBridgesModel" "two" "[I", .fieldLink RX5 16 "LieBridgesModel" "owner" "[I", .fieldLink RX5 19 "LieBridgesModel" "trusts" "[I", .fieldLink RX5 22 "LieBridgesModel" "knows" "[I", .fieldLink RX5 28 "LieBridgesModel" "safety" "[I", .fieldLink RX5 35 "LieBridgesModel" "sight" "[I", .fieldLink RX5 31 "LieBridgesModel" "fade" "I", .fieldLink RX5 152 "LieBridgesModel" "sights" "I", .methodLink RX5 54 yX5_in, .static yX5_in, .initialized RX5, .code yX5_in cX5_in 3 (some .boolean)] ++ wsX50)
def wsX5_told : List Cond := .code yX5_told cX5_told 3 (some .int) :: ([.fieldLink RX5 19 "LieBridgesModel" "trusts" "[I", .fieldLink RX5 22 "LieBridgesModel" "knows" "[I", .fieldLink RX5 16 "LieBridgesModel" "owner" "[I", .fieldLink RX5 7 "LieBridgesModel" "one" "[I", .fieldLink RX5 13 "LieBridgesModel" "two" "[I", .fieldLink RX5 28 "LieBridgesModel" "safety" "[I", .fieldLink RX5 62 "LieBridgesModel" "signs" "I", .fieldLink RX5 31 "LieBridgesModel" "fade" "I", .fieldLink RX5 152 "LieBridgesModel" "sights" "I", .methodLink RX5 58 yX5_is6, .static yX5_is6, .initialized RX5, .code yX5_is6 cX5_is6 1 (some .boolean), .methodLink RX5 54 yX5_in, .static yX5_in, .code yX5_in cX5_in 3 (some .boolean)] ++ wsX50)
def wsL_law_r1 : List Cond := [Cond.classLink RL 7 RX4, Cond.instantiable RX4 7, Cond.initialized RX4, Cond.classLink RL 10 RX5, Cond.instantiable RX5 22, Cond.initialized RX5, Cond.methodLink RL 9 yX4_init, Cond.instanceMethod yX4_init, Cond.code yX4_init cX4_init 1 none, Cond.methodLink RX4 1 objectInit, Cond.instanceMethod objectInit, Cond.code objectInit ⟨#[0xb1]⟩ 1 none, Cond.classLink RX4 7 RX1, Cond.instantiable RX1 11, Cond.initialized RX1, Cond.fieldLink RX4 10 "LieBridges" "now" "LLieBridges$Delta;", Cond.fieldLink RX4 16 "LieBridges" "images" "[LLieBridges$Delta;", Cond.classLink RX4 20 RX2, Cond.instantiable RX2 8, Cond.initialized RX2, Cond.fieldLink RX4 23 "LieBridges" "pad" "LLieBridges$Pad;", Cond.classLink RX4 27 RX3, Cond.instantiable RX3 7, Cond.initialized RX3]
def wsL_law_r2 : List Cond := [Cond.fieldLink RX4 30 "LieBridges" "ways" "LLieBridges$Ways;", Cond.classLink RX4 34 RX0, Cond.instantiable RX0 1, Cond.initialized RX0, Cond.fieldLink RX4 37 "LieBridges" "trial" "LLieBridges$Beliefs;", Cond.arrayClass .int, Cond.fieldLink RX4 41 "LieBridges" "guesses" "[I", Cond.fieldLink RX4 45 "LieBridges" "route" "[I", Cond.methodLink RX4 9 yX1_init, Cond.instanceMethod yX1_init, Cond.code yX1_init cX1_init 2 none, Cond.methodLink RX1 3 objectInit, Cond.fieldLink RX1 9 "LieBridges$Delta" "lessers" "[I", Cond.fieldLink RX1 15 "LieBridges$Delta" "greaters" "[I", Cond.fieldLink RX1 18 "LieBridges$Delta" "layers" "[I", Cond.fieldLink RX1 21 "LieBridges$Delta" "holds" "[I", Cond.fieldLink RX1 24 "LieBridges$Delta" "trusted" "[I", Cond.fieldLink RX1 27 "LieBridges$Delta" "known" "[I", Cond.fieldLink RX1 30 "LieBridges$Delta" "sightPlanks" "[I", Cond.fieldLink RX1 33 "LieBridges$Delta" "sightLoads" "[I", Cond.classLink RX1 36 RX0, Cond.fieldLink RX1 39 "LieBridges$Delta" "beliefs" "LLieBridges$Beliefs;", Cond.fieldLink RX1 43 "LieBridges$Delta" "fadeDays" "I", Cond.instanceMethod yX0_init]
def wsL_law_r3 : List Cond := [Cond.code yX0_init cX0_init 1 none, Cond.methodLink RX0 3 objectInit, Cond.fieldLink RX0 9 "LieBridges$Beliefs" "days" "[I", Cond.methodLink RX1 47 yX1_lay, Cond.instanceMethod yX1_lay, Cond.selects RX1 yX1_lay yX1_lay, Cond.code yX1_lay cX1_lay 6 none, Cond.static yX4_put, Cond.code yX4_put cX4_put 3 none, Cond.methodLink RX1 55 yX0_set, Cond.instanceMethod yX0_set, Cond.selects RX0 yX0_set yX0_set, Cond.code yX0_set cX0_set 4 none, Cond.static yX4_putBit, Cond.code yX4_putBit cX4_putBit 5 none, Cond.methodLink RX4 134 yX4_at, Cond.static yX4_at, Cond.code yX4_at cX4_at 2 (some .int), Cond.methodLink RX4 189 yX4_put, Cond.instanceMethod yX2_init, Cond.code yX2_init cX2_init 1 none, Cond.methodLink RX2 3 objectInit, Cond.fieldLink RX2 9 "LieBridges$Pad" "signs" "[I", Cond.fieldLink RX2 15 "LieBridges$Pad" "kinds" "[I"]
def wsL_law_r4 : List Cond := [Cond.fieldLink RX2 18 "LieBridges$Pad" "speakers" "[I", Cond.fieldLink RX2 21 "LieBridges$Pad" "hearers" "[I", Cond.fieldLink RX2 24 "LieBridges$Pad" "planks" "[I", Cond.instanceMethod yX3_init, Cond.code yX3_init cX3_init 1 none, Cond.methodLink RX3 3 objectInit, Cond.fieldLink RX3 9 "LieBridges$Ways" "weights" "[I", Cond.fieldLink RX3 15 "LieBridges$Ways" "trodden" "[I", Cond.fieldLink RX3 18 "LieBridges$Ways" "best" "[I", Cond.methodLink RL 12 yX5_init, Cond.instanceMethod yX5_init, Cond.code yX5_init cX5_init 2 none, Cond.methodLink RX5 1 objectInit, Cond.fieldLink RX5 7 "LieBridgesModel" "one" "[I", Cond.fieldLink RX5 13 "LieBridgesModel" "two" "[I", Cond.fieldLink RX5 16 "LieBridgesModel" "owner" "[I", Cond.fieldLink RX5 19 "LieBridgesModel" "trusts" "[I", Cond.fieldLink RX5 22 "LieBridgesModel" "knows" "[I", Cond.fieldLink RX5 25 "LieBridgesModel" "days" "[I", Cond.fieldLink RX5 28 "LieBridgesModel" "safety" "[I", Cond.fieldLink RX5 31 "LieBridgesModel" "fade" "I", Cond.fieldLink RX5 35 "LieBridgesModel" "sight" "[I", Cond.fieldLink RX5 38 "LieBridgesModel" "pad" "[I", Cond.fieldLink RX5 41 "LieBridgesModel" "now" "[I"]
def wsL_law_r5 : List Cond := [Cond.fieldLink RX5 44 "LieBridgesModel" "cost" "[I", Cond.fieldLink RX5 47 "LieBridgesModel" "image" "[I", Cond.arrayClass .boolean, Cond.fieldLink RX5 50 "LieBridgesModel" "isKept" "[Z", Cond.methodLink RL 13 yX4_plank, Cond.instanceMethod yX4_plank, Cond.selects RX4 yX4_plank yX4_plank, Cond.code yX4_plank cX4_plank 5 (some .int), Cond.methodLink RX4 48 yX4_isPlank, Cond.static yX4_isPlank, Cond.code yX4_isPlank cX4_isPlank 1 (some .boolean), Cond.methodLink RX4 79 yX4_within, Cond.static yX4_within, Cond.code yX4_within cX4_within 3 (some .boolean), Cond.methodLink RX4 52 yX4_isIsland, Cond.static yX4_isIsland, Cond.code yX4_isIsland cX4_isIsland 1 (some .boolean), Cond.methodLink RX4 55 yX4_isPerson, Cond.static yX4_isPerson, Cond.code yX4_isPerson cX4_isPerson 1 (some .boolean), Cond.methodLink RX4 58 yX1_lay, Cond.methodLink RL 17 yX5_plank, Cond.instanceMethod yX5_plank, Cond.selects RX5 yX5_plank yX5_plank]
def wsL_law_r6 : List Cond := [Cond.code yX5_plank cX5_plank 6 (some .int), Cond.methodLink RX5 58 yX5_is6, Cond.static yX5_is6, Cond.code yX5_is6 cX5_is6 1 (some .boolean), Cond.methodLink RX5 54 yX5_in, Cond.static yX5_in, Cond.code yX5_in cX5_in 3 (some .boolean), Cond.methodLink RL 18 yX4_trust, Cond.instanceMethod yX4_trust, Cond.selects RX4 yX4_trust yX4_trust, Cond.code yX4_trust cX4_trust 4 (some .int), Cond.fieldLink RX4 62 "LieBridges$Delta" "trusted" "[I", Cond.methodLink RX4 65 yX4_putBit, Cond.methodLink RL 22 yX5_trust, Cond.instanceMethod yX5_trust, Cond.selects RX5 yX5_trust yX5_trust, Cond.code yX5_trust cX5_trust 4 (some .int), Cond.methodLink RL 23 yX4_know, Cond.instanceMethod yX4_know, Cond.selects RX4 yX4_know yX4_know, Cond.code yX4_know cX4_know 4 (some .int), Cond.fieldLink RX4 69 "LieBridges$Delta" "known" "[I", Cond.fieldLink RX4 72 "LieBridges$Delta" "beliefs" "LLieBridges$Beliefs;", Cond.methodLink RX4 75 yX0_set]
def wsL_law_r7 : List Cond := [Cond.methodLink RL 26 yX5_know, Cond.instanceMethod yX5_know, Cond.selects RX5 yX5_know yX5_know, Cond.code yX5_know cX5_know 4 (some .int), Cond.methodLink RL 27 yX4_fade, Cond.instanceMethod yX4_fade, Cond.selects RX4 yX4_fade yX4_fade, Cond.code yX4_fade cX4_fade 3 (some .int), Cond.fieldLink RX4 83 "LieBridges$Delta" "fadeDays" "I", Cond.methodLink RL 31 yX5_fade, Cond.instanceMethod yX5_fade, Cond.selects RX5 yX5_fade yX5_fade, Cond.code yX5_fade cX5_fade 3 (some .int), Cond.methodLink RL 32 yX4_say, Cond.instanceMethod yX4_say, Cond.selects RX4 yX4_say yX4_say, Cond.code yX4_say cX4_say 2 (some .int), Cond.fieldLink RX4 90 "LieBridges$Pad" "many" "I", Cond.methodLink RX4 87 yX2_add, Cond.instanceMethod yX2_add, Cond.selects RX2 yX2_add yX2_add, Cond.code yX2_add cX2_add 2 (some .boolean), Cond.fieldLink RX2 27 "LieBridges$Pad" "many" "I", Cond.methodLink RL 35 yX5_say]
def wsL_law_r8 : List Cond := [Cond.instanceMethod yX5_say, Cond.selects RX5 yX5_say yX5_say, Cond.code yX5_say cX5_say 2 (some .int), Cond.fieldLink RX5 62 "LieBridgesModel" "signs" "I", Cond.methodLink RL 36 yX4_wipe, Cond.instanceMethod yX4_wipe, Cond.selects RX4 yX4_wipe yX4_wipe, Cond.code yX4_wipe cX4_wipe 2 (some .int), Cond.methodLink RX4 93 yX2_clear, Cond.instanceMethod yX2_clear, Cond.selects RX2 yX2_clear yX2_clear, Cond.code yX2_clear cX2_clear 1 none, Cond.methodLink RL 40 yX5_wipe, Cond.instanceMethod yX5_wipe, Cond.selects RX5 yX5_wipe yX5_wipe, Cond.code yX5_wipe cX5_wipe 2 (some .int), Cond.methodLink RL 41 yX4_fault, Cond.instanceMethod yX4_fault, Cond.selects RX4 yX4_fault yX4_fault, Cond.code yX4_fault cX4_fault 1 (some .int), Cond.methodLink RX4 96 yX2_read, Cond.instanceMethod yX2_read, Cond.selects RX2 yX2_read yX2_read, Cond.code yX2_read cX2_read 3 (some .int)]
def wsL_law_r9 : List Cond := [Cond.fieldLink RX2 35 "LieBridges$Pad" "parts" "I", Cond.fieldLink RX2 38 "LieBridges$Pad" "asked" "I", Cond.methodLink RX2 45 yX2_take, Cond.instanceMethod yX2_take, Cond.selects RX2 yX2_take yX2_take, Cond.code yX2_take cX2_take 3 (some .int), Cond.methodLink RX2 49 yX2_takeDay, Cond.instanceMethod yX2_takeDay, Cond.selects RX2 yX2_takeDay yX2_takeDay, Cond.code yX2_takeDay cX2_takeDay 1 (some .int), Cond.methodLink RX2 53 yX2_takeSpeaker, Cond.instanceMethod yX2_takeSpeaker, Cond.selects RX2 yX2_takeSpeaker yX2_takeSpeaker, Cond.code yX2_takeSpeaker cX2_takeSpeaker 3 (some .int), Cond.methodLink RX2 57 yX2_takeHearer, Cond.instanceMethod yX2_takeHearer, Cond.selects RX2 yX2_takeHearer yX2_takeHearer, Cond.code yX2_takeHearer cX2_takeHearer 2 (some .int), Cond.methodLink RX2 60 yX2_takeDenial, Cond.instanceMethod yX2_takeDenial, Cond.selects RX2 yX2_takeDenial yX2_takeDenial, Cond.code yX2_takeDenial cX2_takeDenial 1 (some .int), Cond.methodLink RX2 63 yX2_takePlank, Cond.instanceMethod yX2_takePlank]
def wsL_law_r10 : List Cond := [Cond.selects RX2 yX2_takePlank yX2_takePlank, Cond.code yX2_takePlank cX2_takePlank 2 (some .int), Cond.methodLink RL 44 yX5_fault, Cond.instanceMethod yX5_fault, Cond.selects RX5 yX5_fault yX5_fault, Cond.code yX5_fault cX5_fault 1 (some .int), Cond.methodLink RX5 65 yX5_faultOf, Cond.instanceMethod yX5_faultOf, Cond.selects RX5 yX5_faultOf yX5_faultOf, Cond.code yX5_faultOf cX5_faultOf 6 (some .int), Cond.methodLink RL 45 yX4_vain, Cond.instanceMethod yX4_vain, Cond.selects RX4 yX4_vain yX4_vain, Cond.code yX4_vain cX4_vain 6 (some .int), Cond.fieldLink RX4 107 "LieBridges$Pad" "parts" "I", Cond.methodLink RX4 100 yX4_refusalOfText, Cond.instanceMethod yX4_refusalOfText, Cond.selects RX4 yX4_refusalOfText yX4_refusalOfText, Cond.code yX4_refusalOfText cX4_refusalOfText 1 (some .int), Cond.fieldLink RX4 215 "LieBridges$Pad" "asked" "I", Cond.methodLink RX4 103 yX0_become, Cond.instanceMethod yX0_become, Cond.selects RX0 yX0_become yX0_become, Cond.code yX0_become cX0_become 2 none]
def wsL_law_r11 : List Cond := [Cond.static yX4_copy, Cond.code yX4_copy cX4_copy 3 none, Cond.methodLink RX4 110 yX4_takesEffect, Cond.instanceMethod yX4_takesEffect, Cond.selects RX4 yX4_takesEffect yX4_takesEffect, Cond.code yX4_takesEffect cX4_takesEffect 7 (some .boolean), Cond.fieldLink RX4 245 "LieBridges$Pad" "kinds" "[I", Cond.fieldLink RX4 248 "LieBridges$Pad" "speakers" "[I", Cond.fieldLink RX4 251 "LieBridges$Pad" "hearers" "[I", Cond.fieldLink RX4 254 "LieBridges$Pad" "planks" "[I", Cond.methodLink RX4 179 yX0_fadeADay, Cond.instanceMethod yX0_fadeADay, Cond.selects RX0 yX0_fadeADay yX0_fadeADay, Cond.code yX0_fadeADay cX0_fadeADay 2 none, Cond.methodLink RX4 226 yX1_tell, Cond.instanceMethod yX1_tell, Cond.selects RX1 yX1_tell yX1_tell, Cond.code yX1_tell cX1_tell 6 (some .boolean), Cond.methodLink RX1 71 yX1_mayTell, Cond.instanceMethod yX1_mayTell, Cond.selects RX1 yX1_mayTell yX1_mayTell, Cond.code yX1_mayTell cX1_mayTell 4 (some .boolean), Cond.methodLink RX1 67 yX0_of, Cond.instanceMethod yX0_of]
def wsL_law_r12 : List Cond := [Cond.selects RX0 yX0_of yX0_of, Cond.code yX0_of cX0_of 4 (some .int), Cond.static yX4_hasBit, Cond.code yX4_hasBit cX4_hasBit 3 (some .boolean), Cond.methodLink RX4 257 yX1_deny, Cond.instanceMethod yX1_deny, Cond.selects RX1 yX1_deny yX1_deny, Cond.code yX1_deny cX1_deny 6 (some .boolean), Cond.methodLink RL 48 yX5_vain, Cond.instanceMethod yX5_vain, Cond.selects RX5 yX5_vain yX5_vain, Cond.code yX5_vain cX5_vain 4 (some .int), Cond.fieldLink RX5 82 "LieBridgesModel" "vainAt" "I", Cond.methodLink RX5 94 yX5_barOfText, Cond.instanceMethod yX5_barOfText, Cond.selects RX5 yX5_barOfText yX5_barOfText, Cond.code yX5_barOfText cX5_barOfText 1 (some .int), Cond.methodLink RX5 76 yX5_opens, Cond.instanceMethod yX5_opens, Cond.selects RX5 yX5_opens yX5_opens, Cond.code yX5_opens cX5_opens 3 (some .int), Cond.methodLink RX5 97 yX5_goText, Cond.instanceMethod yX5_goText, Cond.selects RX5 yX5_goText yX5_goText]
def wsL_law_r13 : List Cond := [Cond.code yX5_goText cX5_goText 11 (some .int), Cond.fieldLink RX5 79 "LieBridgesModel" "parts" "I", Cond.methodLink RX5 73 yX5_asNow, Cond.instanceMethod yX5_asNow, Cond.selects RX5 yX5_asNow yX5_asNow, Cond.code yX5_asNow cX5_asNow 2 none, Cond.methodLink RX5 85 yX5_pass, Cond.instanceMethod yX5_pass, Cond.selects RX5 yX5_pass yX5_pass, Cond.code yX5_pass cX5_pass 2 none, Cond.methodLink RX5 88 yX5_denies, Cond.instanceMethod yX5_denies, Cond.selects RX5 yX5_denies yX5_denies, Cond.code yX5_denies cX5_denies 5 (some .boolean), Cond.methodLink RX5 69 yX5_has, Cond.static yX5_has, Cond.code yX5_has cX5_has 2 (some .boolean), Cond.methodLink RX5 91 yX5_tells, Cond.instanceMethod yX5_tells, Cond.selects RX5 yX5_tells yX5_tells, Cond.code yX5_tells cX5_tells 5 (some .boolean), Cond.methodLink RL 49 yX4_done, Cond.instanceMethod yX4_done, Cond.selects RX4 yX4_done yX4_done]
def wsL_law_r14 : List Cond := [Cond.code yX4_done cX4_done 3 (some .int), Cond.methodLink RX4 114 yX4_play, Cond.instanceMethod yX4_play, Cond.selects RX4 yX4_play yX4_play, Cond.code yX4_play cX4_play 3 none, Cond.methodLink RL 52 yX5_done, Cond.instanceMethod yX5_done, Cond.selects RX5 yX5_done yX5_done, Cond.code yX5_done cX5_done 3 (some .int), Cond.methodLink RL 53 yX4_bears, Cond.instanceMethod yX4_bears, Cond.selects RX4 yX4_bears yX4_bears, Cond.code yX4_bears cX4_bears 3 (some .int), Cond.methodLink RX4 117 yX4_isPersonOrAll, Cond.static yX4_isPersonOrAll, Cond.code yX4_isPersonOrAll cX4_isPersonOrAll 1 (some .boolean), Cond.methodLink RX4 120 yX4_beliefOrLoad, Cond.static yX4_beliefOrLoad, Cond.code yX4_beliefOrLoad cX4_beliefOrLoad 3 (some .int), Cond.methodLink RX4 142 yX0_load, Cond.instanceMethod yX0_load, Cond.selects RX0 yX0_load yX0_load, Cond.code yX0_load cX0_load 5 (some .int), Cond.methodLink RX0 19 yX0_of]
def wsL_law_r15 : List Cond := [Cond.methodLink RX4 242 yX0_of, Cond.methodLink RL 57 yX5_bears, Cond.instanceMethod yX5_bears, Cond.selects RX5 yX5_bears yX5_bears, Cond.code yX5_bears cX5_bears 3 (some .int), Cond.methodLink RX5 105 yX5_beliefOf, Cond.instanceMethod yX5_beliefOf, Cond.selects RX5 yX5_beliefOf yX5_beliefOf, Cond.code yX5_beliefOf cX5_beliefOf 4 (some .int), Cond.methodLink RX5 101 yX5_bornBy, Cond.instanceMethod yX5_bornBy, Cond.selects RX5 yX5_bornBy yX5_bornBy, Cond.code yX5_bornBy cX5_bornBy 4 (some .int), Cond.methodLink RL 58 yX4_behind, Cond.instanceMethod yX4_behind, Cond.selects RX4 yX4_behind yX4_behind, Cond.code yX4_behind cX4_behind 4 (some .int), Cond.methodLink RL 61 yX5_behind, Cond.instanceMethod yX5_behind, Cond.selects RX5 yX5_behind yX5_behind, Cond.code yX5_behind cX5_behind 4 (some .int), Cond.methodLink RL 62 yX4_falls, Cond.instanceMethod yX4_falls, Cond.selects RX4 yX4_falls yX4_falls]
def wsL_law_r16 : List Cond := [Cond.code yX4_falls cX4_falls 12 (some .int), Cond.methodLink RX4 124 yX4_isParty, Cond.static yX4_isParty, Cond.code yX4_isParty cX4_isParty 1 (some .boolean), Cond.methodLink RX4 127 yX4_isChoice, Cond.static yX4_isChoice, Cond.code yX4_isChoice cX4_isChoice 1 (some .boolean), Cond.methodLink RX4 130 yX4_splitRoute, Cond.instanceMethod yX4_splitRoute, Cond.selects RX4 yX4_splitRoute yX4_splitRoute, Cond.code yX4_splitRoute cX4_splitRoute 5 (some .boolean), Cond.methodLink RX4 138 yX1_across, Cond.instanceMethod yX1_across, Cond.selects RX1 yX1_across yX1_across, Cond.code yX1_across cX1_across 3 (some .int), Cond.methodLink RL 66 yX5_falls, Cond.instanceMethod yX5_falls, Cond.selects RX5 yX5_falls yX5_falls, Cond.code yX5_falls cX5_falls 11 (some .int), Cond.methodLink RX5 109 yX5_powerOf, Cond.static yX5_powerOf, Cond.code yX5_powerOf cX5_powerOf 4 (some .int), Cond.methodLink RX5 112 yX5_over, Cond.instanceMethod yX5_over]
def wsL_law_r17 : List Cond := [Cond.selects RX5 yX5_over yX5_over, Cond.code yX5_over cX5_over 3 (some .int), Cond.methodLink RL 67 yX4_tellings, Cond.instanceMethod yX4_tellings, Cond.selects RX4 yX4_tellings yX4_tellings, Cond.code yX4_tellings cX4_tellings 6 (some .int), Cond.fieldLink RX4 160 "LieBridges$Ways" "worth" "J", Cond.methodLink RX4 145 yX4_tellingsFor, Cond.instanceMethod yX4_tellingsFor, Cond.selects RX4 yX4_tellingsFor yX4_tellingsFor, Cond.code yX4_tellingsFor cX4_tellingsFor 5 (some .int), Cond.methodLink RX4 175 yX4_spread, Cond.instanceMethod yX4_spread, Cond.selects RX4 yX4_spread yX4_spread, Cond.code yX4_spread cX4_spread 5 none, Cond.methodLink RX4 260 yX1_mayTell, Cond.methodLink RX4 182 yX4_tellToAll, Cond.instanceMethod yX4_tellToAll, Cond.selects RX4 yX4_tellToAll yX4_tellToAll, Cond.code yX4_tellToAll cX4_tellToAll 5 none, Cond.methodLink RX4 148 yX3_weigh, Cond.instanceMethod yX3_weigh, Cond.selects RX3 yX3_weigh yX3_weigh, Cond.code yX3_weigh cX3_weigh 3 none]
def wsL_law_r18 : List Cond := [Cond.methodLink RX4 152 yX3_findCheapest, Cond.instanceMethod yX3_findCheapest, Cond.selects RX3 yX3_findCheapest yX3_findCheapest, Cond.code yX3_findCheapest cX3_findCheapest 4 none, Cond.fieldLink RX3 25 "LieBridges$Ways" "likeliest" "Z", Cond.methodLink RX3 29 yX3_find, Cond.instanceMethod yX3_find, Cond.selects RX3 yX3_find yX3_find, Cond.code yX3_find cX3_find 6 none, Cond.fieldLink RX3 43 "LieBridges$Ways" "goal" "I", Cond.fieldLink RX3 35 "LieBridges$Ways" "length" "I", Cond.fieldLink RX3 46 "LieBridges$Ways" "worth" "J", Cond.methodLink RX3 50 yX3_walk, Cond.instanceMethod yX3_walk, Cond.selects RX3 yX3_walk yX3_walk, Cond.code yX3_walk cX3_walk 8 none, Cond.methodLink RX3 54 yX3_keepIfBetter, Cond.instanceMethod yX3_keepIfBetter, Cond.selects RX3 yX3_keepIfBetter yX3_keepIfBetter, Cond.code yX3_keepIfBetter cX3_keepIfBetter 4 none, Cond.methodLink RX3 70 yX3_found, Cond.instanceMethod yX3_found, Cond.selects RX3 yX3_found yX3_found, Cond.code yX3_found cX3_found 1 (some .boolean)]
def wsL_law_r19 : List Cond := [Cond.methodLink RX3 58 yX3_tread, Cond.instanceMethod yX3_tread, Cond.selects RX3 yX3_tread yX3_tread, Cond.code yX3_tread cX3_tread 12 none, Cond.constantLong RX3 68 (10), Cond.methodLink RX3 62 yX1_across, Cond.methodLink RX4 156 yX3_found, Cond.methodLink RX4 164 yX3_step, Cond.instanceMethod yX3_step, Cond.selects RX3 yX3_step yX3_step, Cond.code yX3_step cX3_step 2 (some .int), Cond.methodLink RL 70 yX5_tellings, Cond.instanceMethod yX5_tellings, Cond.selects RX5 yX5_tellings yX5_tellings, Cond.code yX5_tellings cX5_tellings 5 (some .int), Cond.fieldLink RX5 116 "LieBridgesModel" "bestCost" "I", Cond.fieldLink RX5 119 "LieBridgesModel" "bestMany" "I", Cond.fieldLink RX5 122 "LieBridgesModel" "bestCode" "I", Cond.methodLink RX5 131 yX5_layCosts, Cond.instanceMethod yX5_layCosts, Cond.selects RX5 yX5_layCosts yX5_layCosts, Cond.code yX5_layCosts cX5_layCosts 4 none, Cond.constant RX5 115 (1000000), Cond.methodLink RX5 128 yX5_reached]
def wsL_law_r20 : List Cond := [Cond.instanceMethod yX5_reached, Cond.selects RX5 yX5_reached yX5_reached, Cond.code yX5_reached cX5_reached 6 (some .int), Cond.methodLink RX5 135 yX5_layWay, Cond.instanceMethod yX5_layWay, Cond.selects RX5 yX5_layWay yX5_layWay, Cond.code yX5_layWay cX5_layWay 9 (some .boolean), Cond.methodLink RX5 125 yX5_plankOf, Cond.instanceMethod yX5_plankOf, Cond.selects RX5 yX5_plankOf yX5_plankOf, Cond.code yX5_plankOf cX5_plankOf 4 (some .int), Cond.methodLink RL 71 yX4_stands, Cond.instanceMethod yX4_stands, Cond.selects RX4 yX4_stands yX4_stands, Cond.code yX4_stands cX4_stands 5 (some .int), Cond.methodLink RX4 168 yX4_standsBehind, Cond.instanceMethod yX4_standsBehind, Cond.selects RX4 yX4_standsBehind yX4_standsBehind, Cond.code yX4_standsBehind cX4_standsBehind 6 (some .boolean), Cond.methodLink RL 75 yX5_stands, Cond.instanceMethod yX5_stands, Cond.selects RX5 yX5_stands yX5_stands, Cond.code yX5_stands cX5_stands 7 (some .int), Cond.methodLink RL 76 yX4_word]
def wsL_law_r21 : List Cond := [Cond.instanceMethod yX4_word, Cond.selects RX4 yX4_word yX4_word, Cond.code yX4_word cX4_word 7 (some .int), Cond.methodLink RX4 172 yX4_denyToAll, Cond.instanceMethod yX4_denyToAll, Cond.selects RX4 yX4_denyToAll yX4_denyToAll, Cond.code yX4_denyToAll cX4_denyToAll 6 (some .int), Cond.methodLink RL 79 yX5_word, Cond.instanceMethod yX5_word, Cond.selects RX5 yX5_word yX5_word, Cond.code yX5_word cX5_word 8 (some .int), Cond.methodLink RL 80 yX4_rumour, Cond.instanceMethod yX4_rumour, Cond.selects RX4 yX4_rumour yX4_rumour, Cond.code yX4_rumour cX4_rumour 4 (some .int), Cond.methodLink RL 83 yX5_rumour, Cond.instanceMethod yX5_rumour, Cond.selects RX5 yX5_rumour yX5_rumour, Cond.code yX5_rumour cX5_rumour 8 (some .int), Cond.methodLink RL 84 yX4_odds, Cond.instanceMethod yX4_odds, Cond.selects RX4 yX4_odds yX4_odds, Cond.code yX4_odds cX4_odds 5 (some .int), Cond.methodLink RL 87 yX5_odds]
def wsL_law_r22 : List Cond := [Cond.instanceMethod yX5_odds, Cond.selects RX5 yX5_odds yX5_odds, Cond.code yX5_odds cX5_odds 5 (some .int), Cond.methodLink RX5 138 yX5_toAll, Cond.instanceMethod yX5_toAll, Cond.selects RX5 yX5_toAll yX5_toAll, Cond.code yX5_toAll cX5_toAll 6 none, Cond.methodLink RL 88 yX4_tenths, Cond.instanceMethod yX4_tenths, Cond.selects RX4 yX4_tenths yX4_tenths, Cond.code yX4_tenths cX4_tenths 4 (some .int), Cond.fieldLink RX4 186 "LieBridges$Delta" "holds" "[I", Cond.methodLink RL 91 yX5_tenths, Cond.instanceMethod yX5_tenths, Cond.selects RX5 yX5_tenths yX5_tenths, Cond.code yX5_tenths cX5_tenths 4 (some .int), Cond.methodLink RL 92 yX4_safe, Cond.instanceMethod yX4_safe, Cond.selects RX4 yX4_safe yX4_safe, Cond.code yX4_safe cX4_safe 4 (some .int), Cond.methodLink RX4 193 yX4_findSafest, Cond.instanceMethod yX4_findSafest, Cond.selects RX4 yX4_findSafest yX4_findSafest, Cond.code yX4_findSafest cX4_findSafest 4 none]
def wsL_law_r23 : List Cond := [Cond.methodLink RX4 264 yX3_findLikeliest, Cond.instanceMethod yX3_findLikeliest, Cond.selects RX3 yX3_findLikeliest yX3_findLikeliest, Cond.code yX3_findLikeliest cX3_findLikeliest 4 none, Cond.constantLong RX3 33 (1000000), Cond.methodLink RL 95 yX5_safe, Cond.instanceMethod yX5_safe, Cond.selects RX5 yX5_safe yX5_safe, Cond.code yX5_safe cX5_safe 4 (some .int), Cond.methodLink RX5 145 yX5_laySafe, Cond.instanceMethod yX5_laySafe, Cond.selects RX5 yX5_laySafe yX5_laySafe, Cond.code yX5_laySafe cX5_laySafe 10 (some .boolean), Cond.fieldLink RX5 142 "LieBridgesModel" "safeUp" "I", Cond.methodLink RL 96 yX4_chance, Cond.instanceMethod yX4_chance, Cond.selects RX4 yX4_chance yX4_chance, Cond.code yX4_chance cX4_chance 8 (some .long), Cond.constantLong RX4 196 (-1000000000000000001), Cond.constantLong RX4 198 (-1000000000000000002), Cond.constantLong RX4 200 (1000000), Cond.methodLink RX4 202 yX4_sharedDivisor, Cond.static yX4_sharedDivisor, Cond.code yX4_sharedDivisor cX4_sharedDivisor 11 (some .long)]
def wsL_law_r24 : List Cond := [Cond.methodLink RL 100 yX5_chance, Cond.instanceMethod yX5_chance, Cond.selects RX5 yX5_chance yX5_chance, Cond.code yX5_chance cX5_chance 10 (some .long), Cond.constantLong RX5 148 (-1000000000000000001), Cond.constantLong RX5 150 (-1000000000000000002), Cond.methodLink RL 101 yX4_seen, Cond.instanceMethod yX4_seen, Cond.selects RX4 yX4_seen yX4_seen, Cond.code yX4_seen cX4_seen 3 (some .int), Cond.fieldLink RX4 206 "LieBridges$Delta" "sights" "I", Cond.fieldLink RX4 209 "LieBridges$Delta" "sightPlanks" "[I", Cond.fieldLink RX4 212 "LieBridges$Delta" "sightLoads" "[I", Cond.methodLink RL 104 yX5_seen, Cond.instanceMethod yX5_seen, Cond.selects RX5 yX5_seen yX5_seen, Cond.code yX5_seen cX5_seen 3 (some .int), Cond.fieldLink RX5 152 "LieBridgesModel" "sights" "I", Cond.methodLink RL 105 yX4_forget, Cond.instanceMethod yX4_forget, Cond.selects RX4 yX4_forget yX4_forget, Cond.code yX4_forget cX4_forget 2 (some .int), Cond.methodLink RL 108 yX5_forget, Cond.instanceMethod yX5_forget]
def wsL_law_r25 : List Cond := [Cond.selects RX5 yX5_forget yX5_forget, Cond.code yX5_forget cX5_forget 2 (some .int), Cond.methodLink RL 109 yX4_filled, Cond.instanceMethod yX4_filled, Cond.selects RX4 yX4_filled yX4_filled, Cond.code yX4_filled cX4_filled 6 (some .int), Cond.methodLink RX4 218 yX4_guess, Cond.instanceMethod yX4_guess, Cond.selects RX4 yX4_guess yX4_guess, Cond.code yX4_guess cX4_guess 4 none, Cond.methodLink RX4 222 yX4_fits, Cond.instanceMethod yX4_fits, Cond.selects RX4 yX4_fits yX4_fits, Cond.code yX4_fits cX4_fits 2 (some .boolean), Cond.methodLink RL 112 yX5_filled, Cond.instanceMethod yX5_filled, Cond.selects RX5 yX5_filled yX5_filled, Cond.code yX5_filled cX5_filled 8 (some .int), Cond.methodLink RL 113 yX4_year, Cond.instanceMethod yX4_year, Cond.selects RX4 yX4_year yX4_year, Cond.code yX4_year cX4_year 7 (some .int), Cond.constant RX4 225 (65537), Cond.methodLink RL 116 yX5_year]
def wsL_law_r26 : List Cond := [Cond.instanceMethod yX5_year, Cond.selects RX5 yX5_year yX5_year, Cond.code yX5_year cX5_year 7 (some .int), Cond.constant RX5 155 (65537), Cond.methodLink RL 117 yX4_image, Cond.instanceMethod yX4_image, Cond.selects RX4 yX4_image yX4_image, Cond.code yX4_image cX4_image 3 (some .int), Cond.methodLink RX4 230 yX1_become, Cond.instanceMethod yX1_become, Cond.selects RX1 yX1_become yX1_become, Cond.code yX1_become cX1_become 2 none, Cond.fieldLink RX1 91 "LieBridges$Delta" "sights" "I", Cond.methodLink RX1 87 yX0_become, Cond.methodLink RL 120 yX5_image, Cond.instanceMethod yX5_image, Cond.selects RX5 yX5_image yX5_image, Cond.code yX5_image cX5_image 4 (some .int), Cond.methodLink RL 121 yX4_restore, Cond.instanceMethod yX4_restore, Cond.selects RX4 yX4_restore yX4_restore, Cond.code yX4_restore cX4_restore 3 (some .int), Cond.methodLink RL 124 yX5_restore, Cond.instanceMethod yX5_restore]
def wsL_law_r27 : List Cond := [Cond.selects RX5 yX5_restore yX5_restore, Cond.code yX5_restore cX5_restore 4 (some .int), Cond.methodLink RL 125 yX4_told, Cond.instanceMethod yX4_told, Cond.selects RX4 yX4_told yX4_told, Cond.code yX4_told cX4_told 3 (some .int), Cond.fieldLink RX4 233 "LieBridges$Delta" "layers" "[I", Cond.fieldLink RX4 236 "LieBridges$Delta" "lessers" "[I", Cond.fieldLink RX4 239 "LieBridges$Delta" "greaters" "[I", Cond.methodLink RL 128 yX5_told, Cond.instanceMethod yX5_told, Cond.selects RX5 yX5_told yX5_told, Cond.code yX5_told cX5_told 3 (some .int)]
def wsL_law : List Cond := (wsL_law_r1 ++ (wsL_law_r2 ++ (wsL_law_r3 ++ (wsL_law_r4 ++ (wsL_law_r5 ++ (wsL_law_r6 ++ (wsL_law_r7 ++ (wsL_law_r8 ++ (wsL_law_r9 ++ (wsL_law_r10 ++ (wsL_law_r11 ++ (wsL_law_r12 ++ (wsL_law_r13 ++ (wsL_law_r14 ++ (wsL_law_r15 ++ (wsL_law_r16 ++ (wsL_law_r17 ++ (wsL_law_r18 ++ (wsL_law_r19 ++ (wsL_law_r20 ++ (wsL_law_r21 ++ (wsL_law_r22 ++ (wsL_law_r23 ++ (wsL_law_r24 ++ (wsL_law_r25 ++ (wsL_law_r26 ++ wsL_law_r27)))))))))))))))))))))))))) ++ wsX40 ++ wsX50 ++ wsX10 ++ wsX20 ++ wsX30 ++ wsX00 ++ ([] : List Cond)
abbrev vwCl : List vw_C := [(RX0, TX0, 1), (RX1, TX1, 11), (RX2, TX2, 8), (RX3, TX3, 7), (RX4, TX4, 7), (RX5, TX5, 22)]
end
section
/-- words of a list by their places in another -/
theorem memr {big : List Cond} (ws : List Cond) (ps : List Nat) (hp : ws = ps.filterMap (fun i => big[i]?)) : ∀ w ∈ ws, w ∈ big := by
  intro w hw
  rw [hp] at hw
  obtain ⟨i, -, hi⟩ := List.mem_filterMap.mp hw
  exact List.mem_of_getElem? hi
set_option maxRecDepth 20000 in
theorem wsL_law_r1_in : ∀ w ∈ wsL_law_r1, w ∈ lw_tbl := memr _ [46, 47, 40, 549, 550, 45, 48, 49, 50, 51, 52, 53, 54, 55, 41, 205, 206, 136, 137, 43, 207, 174, 175, 44] (by decide +kernel)
set_option maxRecDepth 20000 in
theorem wsL_law_r2_in : ∀ w ∈ wsL_law_r2, w ∈ lw_tbl := memr _ [208, 203, 61, 42, 209, 70, 210, 211, 56, 57, 58, 59, 90, 92, 94, 96, 98, 100, 102, 104, 60, 106, 108, 63] (by decide +kernel)
set_option maxRecDepth 20000 in
theorem wsL_law_r3_in : ∀ w ∈ wsL_law_r3, w ∈ lw_tbl := memr _ [64, 65, 66, 71, 72, 73, 74, 76, 77, 78, 79, 80, 81, 84, 85, 86, 87, 88, 89, 139, 140, 141, 142, 145] (by decide +kernel)
set_option maxRecDepth 20000 in
theorem wsL_law_r4_in : ∀ w ∈ wsL_law_r4, w ∈ lw_tbl := memr _ [147, 149, 151, 177, 178, 179, 180, 181, 182, 551, 552, 553, 554, 555, 556, 557, 558, 559, 560, 561, 562, 564, 566, 567] (by decide +kernel)
set_option maxRecDepth 20000 in
theorem wsL_law_r5_in : ∀ w ∈ wsL_law_r5, w ∈ lw_tbl := memr _ [570, 575, 622, 576, 227, 228, 229, 230, 231, 232, 233, 234, 235, 236, 237, 238, 239, 240, 241, 242, 243, 623, 624, 625] (by decide +kernel)
set_option maxRecDepth 20000 in
theorem wsL_law_r6_in : ∀ w ∈ wsL_law_r6, w ∈ lw_tbl := memr _ [626, 627, 628, 629, 630, 631, 632, 244, 245, 246, 247, 99, 248, 633, 634, 635, 636, 249, 250, 251, 252, 101, 107, 253] (by decide +kernel)
set_option maxRecDepth 20000 in
theorem wsL_law_r7_in : ∀ w ∈ wsL_law_r7, w ∈ lw_tbl := memr _ [637, 638, 639, 640, 254, 255, 256, 257, 109, 641, 642, 643, 644, 258, 259, 260, 261, 144, 262, 263, 264, 265, 143, 645] (by decide +kernel)
set_option maxRecDepth 20000 in
theorem wsL_law_r8_in : ∀ w ∈ wsL_law_r8, w ∈ lw_tbl := memr _ [646, 647, 648, 565, 267, 268, 269, 270, 271, 272, 273, 274, 649, 650, 651, 652, 275, 276, 277, 278, 279, 280, 281, 282] (by decide +kernel)
set_option maxRecDepth 20000 in
theorem wsL_law_r9_in : ∀ w ∈ wsL_law_r9, w ∈ lw_tbl := memr _ [153, 155, 284, 286, 0, 287, 288, 290, 1, 291, 292, 294, 2, 295, 297, 299, 3, 300, 301, 303, 4, 304, 305, 307] (by decide +kernel)
set_option maxRecDepth 20000 in
theorem wsL_law_r10_in : ∀ w ∈ wsL_law_r10, w ∈ lw_tbl := memr _ [5, 308, 653, 654, 655, 656, 657, 659, 22, 660, 310, 311, 312, 313, 154, 314, 316, 6, 317, 156, 318, 319, 320, 321] (by decide +kernel)
set_option maxRecDepth 20000 in
theorem wsL_law_r11_in : ∀ w ∈ wsL_law_r11, w ∈ lw_tbl := memr _ [323, 324, 325, 327, 7, 328, 146, 148, 150, 152, 329, 330, 331, 332, 333, 334, 335, 336, 337, 338, 339, 340, 342, 343] (by decide +kernel)
set_option maxRecDepth 20000 in
theorem wsL_law_r12_in : ∀ w ∈ wsL_law_r12, w ∈ lw_tbl := memr _ [344, 345, 347, 348, 349, 350, 351, 352, 661, 662, 663, 664, 569, 665, 667, 23, 668, 669, 671, 24, 672, 673, 675, 25] (by decide +kernel)
set_option maxRecDepth 20000 in
theorem wsL_law_r13_in : ∀ w ∈ wsL_law_r13, w ∈ lw_tbl := memr _ [676, 568, 677, 679, 26, 680, 681, 683, 27, 684, 685, 687, 28, 688, 689, 690, 691, 692, 694, 29, 695, 353, 354, 355] (by decide +kernel)
set_option maxRecDepth 20000 in
theorem wsL_law_r14_in : ∀ w ∈ wsL_law_r14, w ∈ lw_tbl := memr _ [356, 357, 359, 8, 360, 696, 697, 698, 699, 361, 362, 363, 364, 365, 366, 367, 368, 369, 370, 371, 372, 373, 374, 375] (by decide +kernel)
set_option maxRecDepth 20000 in
theorem wsL_law_r15_in : ∀ w ∈ wsL_law_r15, w ∈ lw_tbl := memr _ [376, 700, 701, 702, 703, 704, 706, 30, 707, 708, 710, 31, 711, 377, 378, 379, 380, 712, 713, 714, 715, 381, 382, 383] (by decide +kernel)
set_option maxRecDepth 20000 in
theorem wsL_law_r16_in : ∀ w ∈ wsL_law_r16, w ∈ lw_tbl := memr _ [384, 385, 386, 387, 388, 389, 390, 391, 393, 9, 394, 395, 396, 397, 398, 716, 717, 718, 719, 720, 721, 722, 723, 725] (by decide +kernel)
set_option maxRecDepth 20000 in
theorem wsL_law_r17_in : ∀ w ∈ wsL_law_r17, w ∈ lw_tbl := memr _ [32, 726, 400, 401, 402, 403, 187, 404, 406, 10, 407, 408, 410, 11, 411, 412, 413, 415, 12, 416, 417, 418, 419, 420] (by decide +kernel)
set_option maxRecDepth 20000 in
theorem wsL_law_r18_in : ∀ w ∈ wsL_law_r18, w ∈ lw_tbl := memr _ [422, 423, 424, 425, 183, 426, 428, 13, 429, 184, 185, 186, 430, 432, 14, 433, 434, 436, 15, 437, 438, 439, 440, 441] (by decide +kernel)
set_option maxRecDepth 20000 in
theorem wsL_law_r19_in : ∀ w ∈ wsL_law_r19, w ∈ lw_tbl := memr _ [443, 445, 16, 446, 449, 447, 450, 451, 452, 453, 454, 727, 728, 729, 730, 573, 571, 572, 731, 733, 33, 734, 739, 735] (by decide +kernel)
set_option maxRecDepth 20000 in
theorem wsL_law_r20_in : ∀ w ∈ wsL_law_r20, w ∈ lw_tbl := memr _ [737, 34, 738, 740, 742, 35, 743, 744, 746, 36, 747, 455, 456, 457, 458, 459, 461, 17, 462, 748, 749, 750, 751, 463] (by decide +kernel)
set_option maxRecDepth 20000 in
theorem wsL_law_r21_in : ∀ w ∈ wsL_law_r21, w ∈ lw_tbl := memr _ [464, 465, 466, 467, 469, 18, 470, 752, 753, 754, 755, 471, 472, 473, 474, 756, 757, 758, 759, 475, 476, 477, 478, 760] (by decide +kernel)
set_option maxRecDepth 20000 in
theorem wsL_law_r22_in : ∀ w ∈ wsL_law_r22, w ∈ lw_tbl := memr _ [761, 762, 763, 764, 766, 37, 767, 479, 480, 481, 482, 97, 768, 769, 770, 771, 483, 484, 485, 486, 487, 489, 19, 490] (by decide +kernel)
set_option maxRecDepth 20000 in
theorem wsL_law_r23_in : ∀ w ∈ wsL_law_r23, w ∈ lw_tbl := memr _ [491, 492, 493, 494, 495, 772, 773, 774, 775, 776, 778, 38, 779, 574, 496, 497, 498, 499, 500, 501, 502, 503, 504, 505] (by decide +kernel)
set_option maxRecDepth 20000 in
theorem wsL_law_r24_in : ∀ w ∈ wsL_law_r24, w ∈ lw_tbl := memr _ [780, 781, 782, 783, 784, 785, 506, 507, 508, 509, 111, 103, 105, 786, 787, 788, 789, 563, 510, 511, 512, 513, 790, 791] (by decide +kernel)
set_option maxRecDepth 20000 in
theorem wsL_law_r25_in : ∀ w ∈ wsL_law_r25, w ∈ lw_tbl := memr _ [792, 793, 514, 515, 516, 517, 518, 520, 20, 521, 522, 524, 21, 525, 794, 795, 796, 797, 526, 527, 528, 529, 530, 798] (by decide +kernel)
set_option maxRecDepth 20000 in
theorem wsL_law_r26_in : ∀ w ∈ wsL_law_r26, w ∈ lw_tbl := memr _ [799, 800, 801, 802, 531, 532, 533, 534, 535, 536, 537, 538, 110, 540, 803, 804, 805, 806, 541, 542, 543, 544, 807, 808] (by decide +kernel)
set_option maxRecDepth 20000 in
theorem wsL_law_r27_in : ∀ w ∈ wsL_law_r27, w ∈ lw_tbl := memr _ [809, 810, 545, 546, 547, 548, 95, 91, 93, 811, 812, 813, 814] (by decide +kernel)
set_option maxRecDepth 20000 in
theorem inX0 : ∀ w ∈ wsX00, w ∈ lw_tbl := memr _ [67] (by decide +kernel)
set_option maxRecDepth 20000 in
theorem inX1 : ∀ w ∈ wsX10, w ∈ lw_tbl := memr _ [112, 114, 116, 118, 120, 122, 124, 126, 128, 130, 132] (by decide +kernel)
set_option maxRecDepth 20000 in
theorem inX2 : ∀ w ∈ wsX20, w ∈ lw_tbl := memr _ [157, 159, 161, 163, 165, 167, 169, 171] (by decide +kernel)
set_option maxRecDepth 20000 in
theorem inX3 : ∀ w ∈ wsX30, w ∈ lw_tbl := memr _ [188, 190, 192, 194, 196, 198, 200] (by decide +kernel)
set_option maxRecDepth 20000 in
theorem inX4 : ∀ w ∈ wsX40, w ∈ lw_tbl := memr _ [212, 214, 216, 218, 220, 222, 224] (by decide +kernel)
set_option maxRecDepth 20000 in
theorem inX5 : ∀ w ∈ wsX50, w ∈ lw_tbl := memr _ [577, 579, 581, 583, 585, 587, 589, 591, 593, 595, 597, 599, 601, 603, 605, 607, 609, 611, 613, 615, 617, 619] (by decide +kernel)
theorem wsL_law_in : ∀ w ∈ wsL_law, w ∈ lw_tbl := List.forall_mem_append.mpr ⟨List.forall_mem_append.mpr ⟨List.forall_mem_append.mpr ⟨List.forall_mem_append.mpr ⟨List.forall_mem_append.mpr ⟨List.forall_mem_append.mpr ⟨List.forall_mem_append.mpr ⟨List.forall_mem_append.mpr ⟨wsL_law_r1_in, List.forall_mem_append.mpr ⟨wsL_law_r2_in, List.forall_mem_append.mpr ⟨wsL_law_r3_in, List.forall_mem_append.mpr ⟨wsL_law_r4_in, List.forall_mem_append.mpr ⟨wsL_law_r5_in, List.forall_mem_append.mpr ⟨wsL_law_r6_in, List.forall_mem_append.mpr ⟨wsL_law_r7_in, List.forall_mem_append.mpr ⟨wsL_law_r8_in, List.forall_mem_append.mpr ⟨wsL_law_r9_in, List.forall_mem_append.mpr ⟨wsL_law_r10_in, List.forall_mem_append.mpr ⟨wsL_law_r11_in, List.forall_mem_append.mpr ⟨wsL_law_r12_in, List.forall_mem_append.mpr ⟨wsL_law_r13_in, List.forall_mem_append.mpr ⟨wsL_law_r14_in, List.forall_mem_append.mpr ⟨wsL_law_r15_in, List.forall_mem_append.mpr ⟨wsL_law_r16_in, List.forall_mem_append.mpr ⟨wsL_law_r17_in, List.forall_mem_append.mpr ⟨wsL_law_r18_in, List.forall_mem_append.mpr ⟨wsL_law_r19_in, List.forall_mem_append.mpr ⟨wsL_law_r20_in, List.forall_mem_append.mpr ⟨wsL_law_r21_in, List.forall_mem_append.mpr ⟨wsL_law_r22_in, List.forall_mem_append.mpr ⟨wsL_law_r23_in, List.forall_mem_append.mpr ⟨wsL_law_r24_in, List.forall_mem_append.mpr ⟨wsL_law_r25_in, List.forall_mem_append.mpr ⟨wsL_law_r26_in, wsL_law_r27_in⟩⟩⟩⟩⟩⟩⟩⟩⟩⟩⟩⟩⟩⟩⟩⟩⟩⟩⟩⟩⟩⟩⟩⟩⟩⟩, inX4⟩, inX5⟩, inX1⟩, inX2⟩, inX3⟩, inX0⟩, fun _ h => absurd h List.not_mem_nil⟩
theorem inlX0 : ∀ w ∈ wsX00, w ∈ wsL_law := fun _ h => List.mem_append_left _ (List.mem_append_right _ h)
theorem inlX1 : ∀ w ∈ wsX10, w ∈ wsL_law := fun _ h => List.mem_append_left _ (List.mem_append_left _ (List.mem_append_left _ (List.mem_append_left _ (List.mem_append_right _ h))))
theorem inlX2 : ∀ w ∈ wsX20, w ∈ wsL_law := fun _ h => List.mem_append_left _ (List.mem_append_left _ (List.mem_append_left _ (List.mem_append_right _ h)))
theorem inlX3 : ∀ w ∈ wsX30, w ∈ wsL_law := fun _ h => List.mem_append_left _ (List.mem_append_left _ (List.mem_append_right _ h))
theorem inlX4 : ∀ w ∈ wsX40, w ∈ wsL_law := fun _ h => List.mem_append_left _ (List.mem_append_left _ (List.mem_append_left _ (List.mem_append_left _ (List.mem_append_left _ (List.mem_append_left _ (List.mem_append_right _ h))))))
theorem inlX5 : ∀ w ∈ wsX50, w ∈ wsL_law := fun _ h => List.mem_append_left _ (List.mem_append_left _ (List.mem_append_left _ (List.mem_append_left _ (List.mem_append_left _ (List.mem_append_right _ h)))))
end
section
theorem dX0_init_0 : decode cX0_init 0 = .ok (.aload_n 0, 1) := by decide +kernel
theorem dX0_init_1 : decode cX0_init 1 = .ok (.invokespecial 3, 3) := by decide +kernel
theorem dX0_init_4 : decode cX0_init 4 = .ok (.aload_n 0, 1) := by decide +kernel
theorem dX0_init_5 : decode cX0_init 5 = .ok (.bipush 36, 2) := by decide +kernel
theorem dX0_init_7 : decode cX0_init 7 = .ok (.newarray .int, 2) := by decide +kernel
theorem dX0_init_9 : decode cX0_init 9 = .ok (.putfield 9, 3) := by decide +kernel
theorem dX0_init_12 : decode cX0_init 12 = .ok (.return_, 1) := by decide +kernel
theorem dX0_of_0 : decode cX0_of 0 = .ok (.iload_n 1, 1) := by decide +kernel
theorem dX0_of_1 : decode cX0_of 1 = .ok (.bipush 6, 2) := by decide +kernel
theorem dX0_of_3 : decode cX0_of 3 = .ok (.imul, 1) := by decide +kernel
theorem dX0_of_4 : decode cX0_of 4 = .ok (.iload_n 2, 1) := by decide +kernel
theorem dX0_of_5 : decode cX0_of 5 = .ok (.iadd, 1) := by decide +kernel
theorem dX0_of_6 : decode cX0_of 6 = .ok (.istore_n 3, 1) := by decide +kernel
theorem dX0_of_7 : decode cX0_of 7 = .ok (.iload_n 3, 1) := by decide +kernel
theorem dX0_of_8 : decode cX0_of 8 = .ok (.ifCond .lt 21, 3) := by decide +kernel
theorem dX0_of_11 : decode cX0_of 11 = .ok (.iload_n 3, 1) := by decide +kernel
theorem dX0_of_12 : decode cX0_of 12 = .ok (.aload_n 0, 1) := by decide +kernel
theorem dX0_of_13 : decode cX0_of 13 = .ok (.getfield 9, 3) := by decide +kernel
theorem dX0_of_16 : decode cX0_of 16 = .ok (.arraylength, 1) := by decide +kernel
theorem dX0_of_17 : decode cX0_of 17 = .ok (.if_icmp .ge 12, 3) := by decide +kernel
theorem dX0_of_20 : decode cX0_of 20 = .ok (.aload_n 0, 1) := by decide +kernel
theorem dX0_of_21 : decode cX0_of 21 = .ok (.getfield 9, 3) := by decide +kernel
theorem dX0_of_24 : decode cX0_of 24 = .ok (.iload_n 3, 1) := by decide +kernel
theorem dX0_of_25 : decode cX0_of 25 = .ok (.iaload, 1) := by decide +kernel
theorem dX0_of_26 : decode cX0_of 26 = .ok (.goto 4, 3) := by decide +kernel
theorem dX0_of_29 : decode cX0_of 29 = .ok (.iconst 0, 1) := by decide +kernel
theorem dX0_of_30 : decode cX0_of 30 = .ok (.ireturn, 1) := by decide +kernel
set_option maxRecDepth 20000 in
theorem ggX0_set_X4_put : GoodIn wsX0_set wsX4_put := goodIn_r _ [4] (by decide +kernel) (by decide +kernel)
set_option maxRecDepth 20000 in
theorem gX0_set_X4_put_n15 : GoodIn wsX0_set (wsX4_put) := ggX0_set_X4_put
theorem dX0_set_0 : decode cX0_set 0 = .ok (.aload_n 0, 1) := by decide +kernel
theorem dX0_set_1 : decode cX0_set 1 = .ok (.getfield 9, 3) := by decide +kernel
theorem dX0_set_4 : decode cX0_set 4 = .ok (.iload_n 1, 1) := by decide +kernel
theorem dX0_set_5 : decode cX0_set 5 = .ok (.bipush 6, 2) := by decide +kernel
theorem dX0_set_7 : decode cX0_set 7 = .ok (.imul, 1) := by decide +kernel
theorem dX0_set_8 : decode cX0_set 8 = .ok (.iload_n 2, 1) := by decide +kernel
theorem dX0_set_9 : decode cX0_set 9 = .ok (.iadd, 1) := by decide +kernel
theorem dX0_set_10 : decode cX0_set 10 = .ok (.iload_n 3, 1) := by decide +kernel
theorem dX0_set_11 : decode cX0_set 11 = .ok (.invokestatic 15, 3) := by decide +kernel
theorem dX0_set_14 : decode cX0_set 14 = .ok (.return_, 1) := by decide +kernel
set_option maxRecDepth 20000 in
theorem ggX0_load_X0_of : GoodIn wsX0_load wsX0_of := goodIn_r _ [5, 6, 7] (by decide +kernel) (by decide +kernel)
set_option maxRecDepth 20000 in
theorem gX0_load_X0_of : GoodIn wsX0_load (wsV RX0 19 RX0 yX0_of wsX0_of) := goodIn_app (goodIn_of _ (by decide +kernel)) ggX0_load_X0_of
theorem dX0_load_0 : decode cX0_load 0 = .ok (.iconst 0, 1) := by decide +kernel
theorem dX0_load_1 : decode cX0_load 1 = .ok (.istore_n 3, 1) := by decide +kernel
theorem dX0_load_2 : decode cX0_load 2 = .ok (.iconst 0, 1) := by decide +kernel
theorem dX0_load_3 : decode cX0_load 3 = .ok (.istore 4, 2) := by decide +kernel
theorem dX0_load_5 : decode cX0_load 5 = .ok (.iload 4, 2) := by decide +kernel
theorem dX0_load_7 : decode cX0_load 7 = .ok (.bipush 6, 2) := by decide +kernel
theorem dX0_load_9 : decode cX0_load 9 = .ok (.if_icmp .ge 23, 3) := by decide +kernel
theorem dX0_load_12 : decode cX0_load 12 = .ok (.aload_n 0, 1) := by decide +kernel
theorem dX0_load_13 : decode cX0_load 13 = .ok (.iload_n 1, 1) := by decide +kernel
theorem dX0_load_14 : decode cX0_load 14 = .ok (.iload 4, 2) := by decide +kernel
theorem dX0_load_16 : decode cX0_load 16 = .ok (.invokevirtual 19, 3) := by decide +kernel
theorem dX0_load_19 : decode cX0_load 19 = .ok (.iload_n 2, 1) := by decide +kernel
theorem dX0_load_20 : decode cX0_load 20 = .ok (.if_icmp .le 6, 3) := by decide +kernel
theorem dX0_load_23 : decode cX0_load 23 = .ok (.iinc 3 1, 3) := by decide +kernel
theorem dX0_load_26 : decode cX0_load 26 = .ok (.iinc 4 1, 3) := by decide +kernel
theorem dX0_load_29 : decode cX0_load 29 = .ok (.goto (-24), 3) := by decide +kernel
theorem dX0_load_32 : decode cX0_load 32 = .ok (.iload_n 3, 1) := by decide +kernel
theorem dX0_load_33 : decode cX0_load 33 = .ok (.ireturn, 1) := by decide +kernel
theorem dX0_fadeADay_0 : decode cX0_fadeADay 0 = .ok (.iconst 0, 1) := by decide +kernel
theorem dX0_fadeADay_1 : decode cX0_fadeADay 1 = .ok (.istore_n 1, 1) := by decide +kernel
theorem dX0_fadeADay_2 : decode cX0_fadeADay 2 = .ok (.iload_n 1, 1) := by decide +kernel
theorem dX0_fadeADay_3 : decode cX0_fadeADay 3 = .ok (.aload_n 0, 1) := by decide +kernel
theorem dX0_fadeADay_4 : decode cX0_fadeADay 4 = .ok (.getfield 9, 3) := by decide +kernel
theorem dX0_fadeADay_7 : decode cX0_fadeADay 7 = .ok (.arraylength, 1) := by decide +kernel
theorem dX0_fadeADay_8 : decode cX0_fadeADay 8 = .ok (.if_icmp .ge 28, 3) := by decide +kernel
theorem dX0_fadeADay_11 : decode cX0_fadeADay 11 = .ok (.aload_n 0, 1) := by decide +kernel
theorem dX0_fadeADay_12 : decode cX0_fadeADay 12 = .ok (.getfield 9, 3) := by decide +kernel
theorem dX0_fadeADay_15 : decode cX0_fadeADay 15 = .ok (.iload_n 1, 1) := by decide +kernel
theorem dX0_fadeADay_16 : decode cX0_fadeADay 16 = .ok (.iaload, 1) := by decide +kernel
theorem dX0_fadeADay_17 : decode cX0_fadeADay 17 = .ok (.ifCond .le 13, 3) := by decide +kernel
theorem dX0_fadeADay_20 : decode cX0_fadeADay 20 = .ok (.aload_n 0, 1) := by decide +kernel
theorem dX0_fadeADay_21 : decode cX0_fadeADay 21 = .ok (.getfield 9, 3) := by decide +kernel
theorem dX0_fadeADay_24 : decode cX0_fadeADay 24 = .ok (.iload_n 1, 1) := by decide +kernel
theorem dX0_fadeADay_25 : decode cX0_fadeADay 25 = .ok (.dup2, 1) := by decide +kernel
theorem dX0_fadeADay_26 : decode cX0_fadeADay 26 = .ok (.iaload, 1) := by decide +kernel
theorem dX0_fadeADay_27 : decode cX0_fadeADay 27 = .ok (.iconst 1, 1) := by decide +kernel
theorem dX0_fadeADay_28 : decode cX0_fadeADay 28 = .ok (.isub, 1) := by decide +kernel
theorem dX0_fadeADay_29 : decode cX0_fadeADay 29 = .ok (.iastore, 1) := by decide +kernel
theorem dX0_fadeADay_30 : decode cX0_fadeADay 30 = .ok (.iinc 1 1, 3) := by decide +kernel
theorem dX0_fadeADay_33 : decode cX0_fadeADay 33 = .ok (.goto (-31), 3) := by decide +kernel
theorem dX0_fadeADay_36 : decode cX0_fadeADay 36 = .ok (.return_, 1) := by decide +kernel
set_option maxRecDepth 20000 in
theorem ggX0_become_X4_copy : GoodIn wsX0_become wsX4_copy := goodIn_r _ [4, 5, 6, 3, 7] (by decide +kernel) (by decide +kernel)
set_option maxRecDepth 20000 in
theorem gX0_become_X4_copy_n23 : GoodIn wsX0_become (wsX4_copy) := ggX0_become_X4_copy
theorem dX0_become_0 : decode cX0_become 0 = .ok (.aload_n 1, 1) := by decide +kernel
theorem dX0_become_1 : decode cX0_become 1 = .ok (.getfield 9, 3) := by decide +kernel
theorem dX0_become_4 : decode cX0_become 4 = .ok (.aload_n 0, 1) := by decide +kernel
theorem dX0_become_5 : decode cX0_become 5 = .ok (.getfield 9, 3) := by decide +kernel
theorem dX0_become_8 : decode cX0_become 8 = .ok (.invokestatic 23, 3) := by decide +kernel
theorem dX0_become_11 : decode cX0_become 11 = .ok (.return_, 1) := by decide +kernel
set_option maxRecDepth 20000 in
theorem ggX1_init_X0_init : GoodIn wsX1_init wsX0_init := goodIn_r _ [19, 20, 2, 3, 4, 21, 51] (by decide +kernel) (by decide +kernel)
set_option maxRecDepth 20000 in
theorem gX1_init_X0_init_n38 : GoodIn wsX1_init (wsX0_init) := ggX1_init_X0_init
set_option maxRecDepth 20000 in
theorem ggX1_init_X1_lay : GoodIn wsX1_init wsX1_lay := goodIn_r _ [26, 5, 6, 7, 16, 10, 27, 28, 29, 30, 31, 32, 15, 33, 21, 34, 35, 36, 37, 38, 39, 40, 41, 42, 43, 44, 45, 46, 47, 48, 49, 50, 51] (by decide +kernel) (by decide +kernel)
set_option maxRecDepth 20000 in
theorem gX1_init_X1_lay : GoodIn wsX1_init (wsV RX1 47 RX1 yX1_lay wsX1_lay) := goodIn_app (goodIn_of _ (by decide +kernel)) ggX1_init_X1_lay
set_option maxRecDepth 20000 in
theorem ggX1_init_X4_put : GoodIn wsX1_init wsX4_put := goodIn_r _ [29] (by decide +kernel) (by decide +kernel)
set_option maxRecDepth 20000 in
theorem gX1_init_X4_put_n51 : GoodIn wsX1_init (wsX4_put) := ggX1_init_X4_put
theorem dX1_init_0 : decode cX1_init 0 = .ok (.aload_n 0, 1) := by decide +kernel
theorem dX1_init_1 : decode cX1_init 1 = .ok (.invokespecial 3, 3) := by decide +kernel
theorem dX1_init_4 : decode cX1_init 4 = .ok (.aload_n 0, 1) := by decide +kernel
theorem dX1_init_5 : decode cX1_init 5 = .ok (.bipush 6, 2) := by decide +kernel
theorem dX1_init_7 : decode cX1_init 7 = .ok (.newarray .int, 2) := by decide +kernel
theorem dX1_init_9 : decode cX1_init 9 = .ok (.putfield 9, 3) := by decide +kernel
theorem dX1_init_12 : decode cX1_init 12 = .ok (.aload_n 0, 1) := by decide +kernel
theorem dX1_init_13 : decode cX1_init 13 = .ok (.bipush 6, 2) := by decide +kernel
theorem dX1_init_15 : decode cX1_init 15 = .ok (.newarray .int, 2) := by decide +kernel
theorem dX1_init_17 : decode cX1_init 17 = .ok (.putfield 15, 3) := by decide +kernel
theorem dX1_init_20 : decode cX1_init 20 = .ok (.aload_n 0, 1) := by decide +kernel
theorem dX1_init_21 : decode cX1_init 21 = .ok (.bipush 6, 2) := by decide +kernel
theorem dX1_init_23 : decode cX1_init 23 = .ok (.newarray .int, 2) := by decide +kernel
theorem dX1_init_25 : decode cX1_init 25 = .ok (.putfield 18, 3) := by decide +kernel
theorem dX1_init_28 : decode cX1_init 28 = .ok (.aload_n 0, 1) := by decide +kernel
theorem dX1_init_29 : decode cX1_init 29 = .ok (.bipush 6, 2) := by decide +kernel
theorem dX1_init_31 : decode cX1_init 31 = .ok (.newarray .int, 2) := by decide +kernel
theorem dX1_init_33 : decode cX1_init 33 = .ok (.putfield 21, 3) := by decide +kernel
theorem dX1_init_36 : decode cX1_init 36 = .ok (.aload_n 0, 1) := by decide +kernel
theorem dX1_init_37 : decode cX1_init 37 = .ok (.bipush 6, 2) := by decide +kernel
theorem dX1_init_39 : decode cX1_init 39 = .ok (.newarray .int, 2) := by decide +kernel
theorem dX1_init_41 : decode cX1_init 41 = .ok (.putfield 24, 3) := by decide +kernel
theorem dX1_init_44 : decode cX1_init 44 = .ok (.aload_n 0, 1) := by decide +kernel
theorem dX1_init_45 : decode cX1_init 45 = .ok (.bipush 6, 2) := by decide +kernel
theorem dX1_init_47 : decode cX1_init 47 = .ok (.newarray .int, 2) := by decide +kernel
theorem dX1_init_49 : decode cX1_init 49 = .ok (.putfield 27, 3) := by decide +kernel
theorem dX1_init_52 : decode cX1_init 52 = .ok (.aload_n 0, 1) := by decide +kernel
theorem dX1_init_53 : decode cX1_init 53 = .ok (.bipush 6, 2) := by decide +kernel
theorem dX1_init_55 : decode cX1_init 55 = .ok (.newarray .int, 2) := by decide +kernel
theorem dX1_init_57 : decode cX1_init 57 = .ok (.putfield 30, 3) := by decide +kernel
theorem dX1_init_60 : decode cX1_init 60 = .ok (.aload_n 0, 1) := by decide +kernel
theorem dX1_init_61 : decode cX1_init 61 = .ok (.bipush 6, 2) := by decide +kernel
theorem dX1_init_63 : decode cX1_init 63 = .ok (.newarray .int, 2) := by decide +kernel
theorem dX1_init_65 : decode cX1_init 65 = .ok (.putfield 33, 3) := by decide +kernel
theorem dX1_init_68 : decode cX1_init 68 = .ok (.aload_n 0, 1) := by decide +kernel
theorem dX1_init_69 : decode cX1_init 69 = .ok (.new 36, 3) := by decide +kernel
theorem dX1_init_72 : decode cX1_init 72 = .ok (.dup, 1) := by decide +kernel
theorem dX1_init_73 : decode cX1_init 73 = .ok (.invokespecial 38, 3) := by decide +kernel
theorem dX1_init_76 : decode cX1_init 76 = .ok (.putfield 39, 3) := by decide +kernel
theorem dX1_init_79 : decode cX1_init 79 = .ok (.aload_n 0, 1) := by decide +kernel
theorem dX1_init_80 : decode cX1_init 80 = .ok (.iconst 3, 1) := by decide +kernel
theorem dX1_init_81 : decode cX1_init 81 = .ok (.putfield 43, 3) := by decide +kernel
theorem dX1_init_84 : decode cX1_init 84 = .ok (.iconst 0, 1) := by decide +kernel
theorem dX1_init_85 : decode cX1_init 85 = .ok (.istore_n 1, 1) := by decide +kernel
theorem dX1_init_86 : decode cX1_init 86 = .ok (.iload_n 1, 1) := by decide +kernel
theorem dX1_init_87 : decode cX1_init 87 = .ok (.bipush 6, 2) := by decide +kernel
theorem dX1_init_89 : decode cX1_init 89 = .ok (.if_icmp .ge 31, 3) := by decide +kernel
theorem dX1_init_92 : decode cX1_init 92 = .ok (.aload_n 0, 1) := by decide +kernel
theorem dX1_init_93 : decode cX1_init 93 = .ok (.iload_n 1, 1) := by decide +kernel
theorem dX1_init_94 : decode cX1_init 94 = .ok (.iload_n 1, 1) := by decide +kernel
theorem dX1_init_95 : decode cX1_init 95 = .ok (.iload_n 1, 1) := by decide +kernel
theorem dX1_init_96 : decode cX1_init 96 = .ok (.iconst 1, 1) := by decide +kernel
theorem dX1_init_97 : decode cX1_init 97 = .ok (.iadd, 1) := by decide +kernel
theorem dX1_init_98 : decode cX1_init 98 = .ok (.bipush 6, 2) := by decide +kernel
theorem dX1_init_100 : decode cX1_init 100 = .ok (.irem, 1) := by decide +kernel
theorem dX1_init_101 : decode cX1_init 101 = .ok (.iload_n 1, 1) := by decide +kernel
theorem dX1_init_102 : decode cX1_init 102 = .ok (.invokevirtual 47, 3) := by decide +kernel
theorem dX1_init_105 : decode cX1_init 105 = .ok (.aload_n 0, 1) := by decide +kernel
theorem dX1_init_106 : decode cX1_init 106 = .ok (.getfield 21, 3) := by decide +kernel
theorem dX1_init_109 : decode cX1_init 109 = .ok (.iload_n 1, 1) := by decide +kernel
theorem dX1_init_110 : decode cX1_init 110 = .ok (.iconst 5, 1) := by decide +kernel
theorem dX1_init_111 : decode cX1_init 111 = .ok (.invokestatic 51, 3) := by decide +kernel
theorem dX1_init_114 : decode cX1_init 114 = .ok (.iinc 1 1, 3) := by decide +kernel
theorem dX1_init_117 : decode cX1_init 117 = .ok (.goto (-31), 3) := by decide +kernel
theorem dX1_init_120 : decode cX1_init 120 = .ok (.return_, 1) := by decide +kernel
set_option maxRecDepth 20000 in
theorem ggX1_lay_X4_put : GoodIn wsX1_lay wsX4_put := goodIn_r _ [8] (by decide +kernel) (by decide +kernel)
set_option maxRecDepth 20000 in
theorem gX1_lay_X4_put_n51 : GoodIn wsX1_lay (wsX4_put) := ggX1_lay_X4_put
set_option maxRecDepth 20000 in
theorem ggX1_lay_X0_set : GoodIn wsX1_lay wsX0_set := goodIn_r _ [13, 14, 6, 7, 8, 32] (by decide +kernel) (by decide +kernel)
set_option maxRecDepth 20000 in
theorem gX1_lay_X0_set : GoodIn wsX1_lay (wsV RX1 55 RX0 yX0_set wsX0_set) := goodIn_app (goodIn_of _ (by decide +kernel)) ggX1_lay_X0_set
set_option maxRecDepth 20000 in
theorem ggX1_lay_X4_putBit : GoodIn wsX1_lay wsX4_putBit := goodIn_r _ [16, 17, 18, 7, 19, 20, 6, 8] (by decide +kernel) (by decide +kernel)
set_option maxRecDepth 20000 in
theorem gX1_lay_X4_putBit_n59 : GoodIn wsX1_lay (wsX4_putBit) := ggX1_lay_X4_putBit
theorem dX1_lay_0 : decode cX1_lay 0 = .ok (.aload_n 0, 1) := by decide +kernel
theorem dX1_lay_1 : decode cX1_lay 1 = .ok (.getfield 9, 3) := by decide +kernel
theorem dX1_lay_4 : decode cX1_lay 4 = .ok (.iload_n 1, 1) := by decide +kernel
theorem dX1_lay_5 : decode cX1_lay 5 = .ok (.iload_n 2, 1) := by decide +kernel
theorem dX1_lay_6 : decode cX1_lay 6 = .ok (.iload_n 3, 1) := by decide +kernel
theorem dX1_lay_7 : decode cX1_lay 7 = .ok (.if_icmp .ge 7, 3) := by decide +kernel
theorem dX1_lay_10 : decode cX1_lay 10 = .ok (.iload_n 2, 1) := by decide +kernel
theorem dX1_lay_11 : decode cX1_lay 11 = .ok (.goto 4, 3) := by decide +kernel
theorem dX1_lay_14 : decode cX1_lay 14 = .ok (.iload_n 3, 1) := by decide +kernel
theorem dX1_lay_15 : decode cX1_lay 15 = .ok (.invokestatic 51, 3) := by decide +kernel
theorem dX1_lay_18 : decode cX1_lay 18 = .ok (.aload_n 0, 1) := by decide +kernel
theorem dX1_lay_19 : decode cX1_lay 19 = .ok (.getfield 15, 3) := by decide +kernel
theorem dX1_lay_22 : decode cX1_lay 22 = .ok (.iload_n 1, 1) := by decide +kernel
theorem dX1_lay_23 : decode cX1_lay 23 = .ok (.iload_n 2, 1) := by decide +kernel
theorem dX1_lay_24 : decode cX1_lay 24 = .ok (.iload_n 3, 1) := by decide +kernel
theorem dX1_lay_25 : decode cX1_lay 25 = .ok (.if_icmp .ge 7, 3) := by decide +kernel
theorem dX1_lay_28 : decode cX1_lay 28 = .ok (.iload_n 3, 1) := by decide +kernel
theorem dX1_lay_29 : decode cX1_lay 29 = .ok (.goto 4, 3) := by decide +kernel
theorem dX1_lay_32 : decode cX1_lay 32 = .ok (.iload_n 2, 1) := by decide +kernel
theorem dX1_lay_33 : decode cX1_lay 33 = .ok (.invokestatic 51, 3) := by decide +kernel
theorem dX1_lay_36 : decode cX1_lay 36 = .ok (.aload_n 0, 1) := by decide +kernel
theorem dX1_lay_37 : decode cX1_lay 37 = .ok (.getfield 18, 3) := by decide +kernel
theorem dX1_lay_40 : decode cX1_lay 40 = .ok (.iload_n 1, 1) := by decide +kernel
theorem dX1_lay_41 : decode cX1_lay 41 = .ok (.iload 4, 2) := by decide +kernel
theorem dX1_lay_43 : decode cX1_lay 43 = .ok (.invokestatic 51, 3) := by decide +kernel
theorem dX1_lay_46 : decode cX1_lay 46 = .ok (.iconst 0, 1) := by decide +kernel
theorem dX1_lay_47 : decode cX1_lay 47 = .ok (.istore 5, 2) := by decide +kernel
theorem dX1_lay_49 : decode cX1_lay 49 = .ok (.iload 5, 2) := by decide +kernel
theorem dX1_lay_51 : decode cX1_lay 51 = .ok (.bipush 6, 2) := by decide +kernel
theorem dX1_lay_53 : decode cX1_lay 53 = .ok (.if_icmp .ge 31, 3) := by decide +kernel
theorem dX1_lay_56 : decode cX1_lay 56 = .ok (.aload_n 0, 1) := by decide +kernel
theorem dX1_lay_57 : decode cX1_lay 57 = .ok (.getfield 39, 3) := by decide +kernel
theorem dX1_lay_60 : decode cX1_lay 60 = .ok (.iload_n 1, 1) := by decide +kernel
theorem dX1_lay_61 : decode cX1_lay 61 = .ok (.iload 5, 2) := by decide +kernel
theorem dX1_lay_63 : decode cX1_lay 63 = .ok (.iconst 0, 1) := by decide +kernel
theorem dX1_lay_64 : decode cX1_lay 64 = .ok (.invokevirtual 55, 3) := by decide +kernel
theorem dX1_lay_67 : decode cX1_lay 67 = .ok (.aload_n 0, 1) := by decide +kernel
theorem dX1_lay_68 : decode cX1_lay 68 = .ok (.getfield 27, 3) := by decide +kernel
theorem dX1_lay_71 : decode cX1_lay 71 = .ok (.iload 5, 2) := by decide +kernel
theorem dX1_lay_73 : decode cX1_lay 73 = .ok (.iload_n 1, 1) := by decide +kernel
theorem dX1_lay_74 : decode cX1_lay 74 = .ok (.iconst 0, 1) := by decide +kernel
theorem dX1_lay_75 : decode cX1_lay 75 = .ok (.invokestatic 59, 3) := by decide +kernel
theorem dX1_lay_78 : decode cX1_lay 78 = .ok (.iinc 5 1, 3) := by decide +kernel
theorem dX1_lay_81 : decode cX1_lay 81 = .ok (.goto (-32), 3) := by decide +kernel
theorem dX1_lay_84 : decode cX1_lay 84 = .ok (.return_, 1) := by decide +kernel
set_option maxRecDepth 20000 in
theorem ggX1_mayTell_X4_at : GoodIn wsX1_mayTell wsX4_at := goodIn_r _ [4] (by decide +kernel) (by decide +kernel)
set_option maxRecDepth 20000 in
theorem gX1_mayTell_X4_at_n63 : GoodIn wsX1_mayTell (wsX4_at) := ggX1_mayTell_X4_at
set_option maxRecDepth 20000 in
theorem ggX1_mayTell_X0_of : GoodIn wsX1_mayTell wsX0_of := goodIn_r _ [9, 10, 22] (by decide +kernel) (by decide +kernel)
set_option maxRecDepth 20000 in
theorem gX1_mayTell_X0_of : GoodIn wsX1_mayTell (wsV RX1 67 RX0 yX0_of wsX0_of) := goodIn_app (goodIn_of _ (by decide +kernel)) ggX1_mayTell_X0_of
theorem dX1_mayTell_0 : decode cX1_mayTell 0 = .ok (.aload_n 0, 1) := by decide +kernel
theorem dX1_mayTell_1 : decode cX1_mayTell 1 = .ok (.getfield 18, 3) := by decide +kernel
theorem dX1_mayTell_4 : decode cX1_mayTell 4 = .ok (.iload_n 3, 1) := by decide +kernel
theorem dX1_mayTell_5 : decode cX1_mayTell 5 = .ok (.invokestatic 63, 3) := by decide +kernel
theorem dX1_mayTell_8 : decode cX1_mayTell 8 = .ok (.iload_n 2, 1) := by decide +kernel
theorem dX1_mayTell_9 : decode cX1_mayTell 9 = .ok (.if_icmp .eq 12, 3) := by decide +kernel
theorem dX1_mayTell_12 : decode cX1_mayTell 12 = .ok (.aload_n 1, 1) := by decide +kernel
theorem dX1_mayTell_13 : decode cX1_mayTell 13 = .ok (.iload_n 3, 1) := by decide +kernel
theorem dX1_mayTell_14 : decode cX1_mayTell 14 = .ok (.iload_n 2, 1) := by decide +kernel
theorem dX1_mayTell_15 : decode cX1_mayTell 15 = .ok (.invokevirtual 67, 3) := by decide +kernel
theorem dX1_mayTell_18 : decode cX1_mayTell 18 = .ok (.ifCond .le 7, 3) := by decide +kernel
theorem dX1_mayTell_21 : decode cX1_mayTell 21 = .ok (.iconst 1, 1) := by decide +kernel
theorem dX1_mayTell_22 : decode cX1_mayTell 22 = .ok (.goto 4, 3) := by decide +kernel
theorem dX1_mayTell_25 : decode cX1_mayTell 25 = .ok (.iconst 0, 1) := by decide +kernel
theorem dX1_mayTell_26 : decode cX1_mayTell 26 = .ok (.ireturn, 1) := by decide +kernel
set_option maxRecDepth 20000 in
theorem ggX1_tell_X1_mayTell : GoodIn wsX1_tell wsX1_mayTell := goodIn_r _ [9, 2, 10, 11, 12, 13, 14, 15, 16, 17, 18, 28, 29, 30, 31, 32, 33, 34, 35, 36, 37, 38, 39] (by decide +kernel) (by decide +kernel)
set_option maxRecDepth 20000 in
theorem gX1_tell_X1_mayTell : GoodIn wsX1_tell (wsV RX1 71 RX1 yX1_mayTell wsX1_mayTell) := goodIn_app (goodIn_of _ (by decide +kernel)) ggX1_tell_X1_mayTell
set_option maxRecDepth 20000 in
theorem ggX1_tell_X4_hasBit : GoodIn wsX1_tell wsX4_hasBit := goodIn_r _ [20, 21, 10, 11, 12] (by decide +kernel) (by decide +kernel)
set_option maxRecDepth 20000 in
theorem gX1_tell_X4_hasBit_n75 : GoodIn wsX1_tell (wsX4_hasBit) := ggX1_tell_X4_hasBit
set_option maxRecDepth 20000 in
theorem ggX1_tell_X4_at : GoodIn wsX1_tell wsX4_at := goodIn_r _ [12] (by decide +kernel) (by decide +kernel)
set_option maxRecDepth 20000 in
theorem gX1_tell_X4_at_n63 : GoodIn wsX1_tell (wsX4_at) := ggX1_tell_X4_at
set_option maxRecDepth 20000 in
theorem ggX1_tell_X0_of : GoodIn wsX1_tell wsX0_of := goodIn_r _ [17, 18, 39] (by decide +kernel) (by decide +kernel)
set_option maxRecDepth 20000 in
theorem gX1_tell_X0_of : GoodIn wsX1_tell (wsV RX1 67 RX0 yX0_of wsX0_of) := goodIn_app (goodIn_of _ (by decide +kernel)) ggX1_tell_X0_of
set_option maxRecDepth 20000 in
theorem ggX1_tell_X0_set : GoodIn wsX1_tell wsX0_set := goodIn_r _ [25, 18, 26, 11, 27, 39] (by decide +kernel) (by decide +kernel)
set_option maxRecDepth 20000 in
theorem gX1_tell_X0_set : GoodIn wsX1_tell (wsV RX1 55 RX0 yX0_set wsX0_set) := goodIn_app (goodIn_of _ (by decide +kernel)) ggX1_tell_X0_set
theorem dX1_tell_0 : decode cX1_tell 0 = .ok (.aload_n 0, 1) := by decide +kernel
theorem dX1_tell_1 : decode cX1_tell 1 = .ok (.aload_n 1, 1) := by decide +kernel
theorem dX1_tell_2 : decode cX1_tell 2 = .ok (.iload_n 2, 1) := by decide +kernel
theorem dX1_tell_3 : decode cX1_tell 3 = .ok (.iload 4, 2) := by decide +kernel
theorem dX1_tell_5 : decode cX1_tell 5 = .ok (.invokevirtual 71, 3) := by decide +kernel
theorem dX1_tell_8 : decode cX1_tell 8 = .ok (.ifCond .eq 55, 3) := by decide +kernel
theorem dX1_tell_11 : decode cX1_tell 11 = .ok (.aload_n 0, 1) := by decide +kernel
theorem dX1_tell_12 : decode cX1_tell 12 = .ok (.getfield 24, 3) := by decide +kernel
theorem dX1_tell_15 : decode cX1_tell 15 = .ok (.iload_n 3, 1) := by decide +kernel
theorem dX1_tell_16 : decode cX1_tell 16 = .ok (.iload_n 2, 1) := by decide +kernel
theorem dX1_tell_17 : decode cX1_tell 17 = .ok (.invokestatic 75, 3) := by decide +kernel
theorem dX1_tell_20 : decode cX1_tell 20 = .ok (.ifCond .eq 43, 3) := by decide +kernel
theorem dX1_tell_23 : decode cX1_tell 23 = .ok (.aload_n 0, 1) := by decide +kernel
theorem dX1_tell_24 : decode cX1_tell 24 = .ok (.getfield 18, 3) := by decide +kernel
theorem dX1_tell_27 : decode cX1_tell 27 = .ok (.iload 4, 2) := by decide +kernel
theorem dX1_tell_29 : decode cX1_tell 29 = .ok (.invokestatic 63, 3) := by decide +kernel
theorem dX1_tell_32 : decode cX1_tell 32 = .ok (.iload_n 3, 1) := by decide +kernel
theorem dX1_tell_33 : decode cX1_tell 33 = .ok (.if_icmp .eq 30, 3) := by decide +kernel
theorem dX1_tell_36 : decode cX1_tell 36 = .ok (.aload_n 0, 1) := by decide +kernel
theorem dX1_tell_37 : decode cX1_tell 37 = .ok (.getfield 27, 3) := by decide +kernel
theorem dX1_tell_40 : decode cX1_tell 40 = .ok (.iload_n 3, 1) := by decide +kernel
theorem dX1_tell_41 : decode cX1_tell 41 = .ok (.iload 4, 2) := by decide +kernel
theorem dX1_tell_43 : decode cX1_tell 43 = .ok (.invokestatic 75, 3) := by decide +kernel
theorem dX1_tell_46 : decode cX1_tell 46 = .ok (.ifCond .ne 17, 3) := by decide +kernel
theorem dX1_tell_49 : decode cX1_tell 49 = .ok (.aload_n 1, 1) := by decide +kernel
theorem dX1_tell_50 : decode cX1_tell 50 = .ok (.iload 4, 2) := by decide +kernel
theorem dX1_tell_52 : decode cX1_tell 52 = .ok (.iload_n 3, 1) := by decide +kernel
theorem dX1_tell_53 : decode cX1_tell 53 = .ok (.invokevirtual 67, 3) := by decide +kernel
theorem dX1_tell_56 : decode cX1_tell 56 = .ok (.ifCond .ne 7, 3) := by decide +kernel
theorem dX1_tell_59 : decode cX1_tell 59 = .ok (.iconst 1, 1) := by decide +kernel
theorem dX1_tell_60 : decode cX1_tell 60 = .ok (.goto 4, 3) := by decide +kernel
theorem dX1_tell_63 : decode cX1_tell 63 = .ok (.iconst 0, 1) := by decide +kernel
theorem dX1_tell_64 : decode cX1_tell 64 = .ok (.istore 5, 2) := by decide +kernel
theorem dX1_tell_66 : decode cX1_tell 66 = .ok (.iload 5, 2) := by decide +kernel
theorem dX1_tell_68 : decode cX1_tell 68 = .ok (.ifCond .eq 14, 3) := by decide +kernel
theorem dX1_tell_71 : decode cX1_tell 71 = .ok (.aload_n 1, 1) := by decide +kernel
theorem dX1_tell_72 : decode cX1_tell 72 = .ok (.iload 4, 2) := by decide +kernel
theorem dX1_tell_74 : decode cX1_tell 74 = .ok (.iload_n 3, 1) := by decide +kernel
theorem dX1_tell_75 : decode cX1_tell 75 = .ok (.aload_n 0, 1) := by decide +kernel
theorem dX1_tell_76 : decode cX1_tell 76 = .ok (.getfield 43, 3) := by decide +kernel
theorem dX1_tell_79 : decode cX1_tell 79 = .ok (.invokevirtual 55, 3) := by decide +kernel
theorem dX1_tell_82 : decode cX1_tell 82 = .ok (.iload 5, 2) := by decide +kernel
theorem dX1_tell_84 : decode cX1_tell 84 = .ok (.ireturn, 1) := by decide +kernel
set_option maxRecDepth 20000 in
theorem ggX1_deny_X4_hasBit : GoodIn wsX1_deny wsX4_hasBit := goodIn_r _ [4, 5, 6, 3, 7] (by decide +kernel) (by decide +kernel)
set_option maxRecDepth 20000 in
theorem gX1_deny_X4_hasBit_n75 : GoodIn wsX1_deny (wsX4_hasBit) := ggX1_deny_X4_hasBit
set_option maxRecDepth 20000 in
theorem ggX1_deny_X0_of : GoodIn wsX1_deny wsX0_of := goodIn_r _ [12, 13, 31] (by decide +kernel) (by decide +kernel)
set_option maxRecDepth 20000 in
theorem gX1_deny_X0_of : GoodIn wsX1_deny (wsV RX1 67 RX0 yX0_of wsX0_of) := goodIn_app (goodIn_of _ (by decide +kernel)) ggX1_deny_X0_of
set_option maxRecDepth 20000 in
theorem ggX1_deny_X0_set : GoodIn wsX1_deny wsX0_set := goodIn_r _ [17, 13, 18, 3, 19, 31] (by decide +kernel) (by decide +kernel)
set_option maxRecDepth 20000 in
theorem gX1_deny_X0_set : GoodIn wsX1_deny (wsV RX1 55 RX0 yX0_set wsX0_set) := goodIn_app (goodIn_of _ (by decide +kernel)) ggX1_deny_X0_set
theorem dX1_deny_0 : decode cX1_deny 0 = .ok (.aload_n 0, 1) := by decide +kernel
theorem dX1_deny_1 : decode cX1_deny 1 = .ok (.getfield 24, 3) := by decide +kernel
theorem dX1_deny_4 : decode cX1_deny 4 = .ok (.iload_n 3, 1) := by decide +kernel
theorem dX1_deny_5 : decode cX1_deny 5 = .ok (.iload_n 2, 1) := by decide +kernel
theorem dX1_deny_6 : decode cX1_deny 6 = .ok (.invokestatic 75, 3) := by decide +kernel
theorem dX1_deny_9 : decode cX1_deny 9 = .ok (.ifCond .eq 17, 3) := by decide +kernel
theorem dX1_deny_12 : decode cX1_deny 12 = .ok (.aload_n 1, 1) := by decide +kernel
theorem dX1_deny_13 : decode cX1_deny 13 = .ok (.iload 4, 2) := by decide +kernel
theorem dX1_deny_15 : decode cX1_deny 15 = .ok (.iload_n 3, 1) := by decide +kernel
theorem dX1_deny_16 : decode cX1_deny 16 = .ok (.invokevirtual 67, 3) := by decide +kernel
theorem dX1_deny_19 : decode cX1_deny 19 = .ok (.ifCond .le 7, 3) := by decide +kernel
theorem dX1_deny_22 : decode cX1_deny 22 = .ok (.iconst 1, 1) := by decide +kernel
theorem dX1_deny_23 : decode cX1_deny 23 = .ok (.goto 4, 3) := by decide +kernel
theorem dX1_deny_26 : decode cX1_deny 26 = .ok (.iconst 0, 1) := by decide +kernel
theorem dX1_deny_27 : decode cX1_deny 27 = .ok (.istore 5, 2) := by decide +kernel
theorem dX1_deny_29 : decode cX1_deny 29 = .ok (.iload 5, 2) := by decide +kernel
theorem dX1_deny_31 : decode cX1_deny 31 = .ok (.ifCond .eq 11, 3) := by decide +kernel
theorem dX1_deny_34 : decode cX1_deny 34 = .ok (.aload_n 1, 1) := by decide +kernel
theorem dX1_deny_35 : decode cX1_deny 35 = .ok (.iload 4, 2) := by decide +kernel
theorem dX1_deny_37 : decode cX1_deny 37 = .ok (.iload_n 3, 1) := by decide +kernel
theorem dX1_deny_38 : decode cX1_deny 38 = .ok (.iconst 0, 1) := by decide +kernel
theorem dX1_deny_39 : decode cX1_deny 39 = .ok (.invokevirtual 55, 3) := by decide +kernel
theorem dX1_deny_42 : decode cX1_deny 42 = .ok (.iload 5, 2) := by decide +kernel
theorem dX1_deny_44 : decode cX1_deny 44 = .ok (.ireturn, 1) := by decide +kernel
set_option maxRecDepth 20000 in
theorem ggX1_across_X4_isPlank : GoodIn wsX1_across wsX4_isPlank := goodIn_r _ [5, 6, 7, 4, 8] (by decide +kernel) (by decide +kernel)
set_option maxRecDepth 20000 in
theorem gX1_across_X4_isPlank_n79 : GoodIn wsX1_across (wsX4_isPlank) := ggX1_across_X4_isPlank
set_option maxRecDepth 20000 in
theorem ggX1_across_X4_at : GoodIn wsX1_across wsX4_at := goodIn_r _ [10] (by decide +kernel) (by decide +kernel)
set_option maxRecDepth 20000 in
theorem gX1_across_X4_at_n63 : GoodIn wsX1_across (wsX4_at) := ggX1_across_X4_at
theorem dX1_across_0 : decode cX1_across 0 = .ok (.iload_n 1, 1) := by decide +kernel
theorem dX1_across_1 : decode cX1_across 1 = .ok (.invokestatic 79, 3) := by decide +kernel
theorem dX1_across_4 : decode cX1_across 4 = .ok (.ifCond .ne 5, 3) := by decide +kernel
theorem dX1_across_7 : decode cX1_across 7 = .ok (.iconst (-1), 1) := by decide +kernel
theorem dX1_across_8 : decode cX1_across 8 = .ok (.ireturn, 1) := by decide +kernel
theorem dX1_across_9 : decode cX1_across 9 = .ok (.aload_n 0, 1) := by decide +kernel
theorem dX1_across_10 : decode cX1_across 10 = .ok (.getfield 9, 3) := by decide +kernel
theorem dX1_across_13 : decode cX1_across 13 = .ok (.iload_n 1, 1) := by decide +kernel
theorem dX1_across_14 : decode cX1_across 14 = .ok (.invokestatic 63, 3) := by decide +kernel
theorem dX1_across_17 : decode cX1_across 17 = .ok (.iload_n 2, 1) := by decide +kernel
theorem dX1_across_18 : decode cX1_across 18 = .ok (.if_icmp .ne 12, 3) := by decide +kernel
theorem dX1_across_21 : decode cX1_across 21 = .ok (.aload_n 0, 1) := by decide +kernel
theorem dX1_across_22 : decode cX1_across 22 = .ok (.getfield 15, 3) := by decide +kernel
theorem dX1_across_25 : decode cX1_across 25 = .ok (.iload_n 1, 1) := by decide +kernel
theorem dX1_across_26 : decode cX1_across 26 = .ok (.invokestatic 63, 3) := by decide +kernel
theorem dX1_across_29 : decode cX1_across 29 = .ok (.ireturn, 1) := by decide +kernel
theorem dX1_across_30 : decode cX1_across 30 = .ok (.aload_n 0, 1) := by decide +kernel
theorem dX1_across_31 : decode cX1_across 31 = .ok (.getfield 15, 3) := by decide +kernel
theorem dX1_across_34 : decode cX1_across 34 = .ok (.iload_n 1, 1) := by decide +kernel
theorem dX1_across_35 : decode cX1_across 35 = .ok (.invokestatic 63, 3) := by decide +kernel
theorem dX1_across_38 : decode cX1_across 38 = .ok (.iload_n 2, 1) := by decide +kernel
theorem dX1_across_39 : decode cX1_across 39 = .ok (.if_icmp .ne 14, 3) := by decide +kernel
theorem dX1_across_42 : decode cX1_across 42 = .ok (.aload_n 0, 1) := by decide +kernel
theorem dX1_across_43 : decode cX1_across 43 = .ok (.getfield 9, 3) := by decide +kernel
theorem dX1_across_46 : decode cX1_across 46 = .ok (.iload_n 1, 1) := by decide +kernel
theorem dX1_across_47 : decode cX1_across 47 = .ok (.invokestatic 63, 3) := by decide +kernel
theorem dX1_across_50 : decode cX1_across 50 = .ok (.goto 4, 3) := by decide +kernel
theorem dX1_across_53 : decode cX1_across 53 = .ok (.iconst (-1), 1) := by decide +kernel
theorem dX1_across_54 : decode cX1_across 54 = .ok (.ireturn, 1) := by decide +kernel
set_option maxRecDepth 20000 in
theorem ggX1_become_X4_copy : GoodIn wsX1_become wsX4_copy := goodIn_r _ [14, 15, 16, 13, 17] (by decide +kernel) (by decide +kernel)
set_option maxRecDepth 20000 in
theorem gX1_become_X4_copy_n83 : GoodIn wsX1_become (wsX4_copy) := ggX1_become_X4_copy
set_option maxRecDepth 20000 in
theorem ggX1_become_X0_become : GoodIn wsX1_become wsX0_become := goodIn_r _ [22, 23, 12, 13, 14, 15, 16, 17, 35] (by decide +kernel) (by decide +kernel)
set_option maxRecDepth 20000 in
theorem gX1_become_X0_become : GoodIn wsX1_become (wsV RX1 87 RX0 yX0_become wsX0_become) := goodIn_app (goodIn_of _ (by decide +kernel)) ggX1_become_X0_become
theorem dX1_become_0 : decode cX1_become 0 = .ok (.aload_n 1, 1) := by decide +kernel
theorem dX1_become_1 : decode cX1_become 1 = .ok (.getfield 9, 3) := by decide +kernel
theorem dX1_become_4 : decode cX1_become 4 = .ok (.aload_n 0, 1) := by decide +kernel
theorem dX1_become_5 : decode cX1_become 5 = .ok (.getfield 9, 3) := by decide +kernel
theorem dX1_become_8 : decode cX1_become 8 = .ok (.invokestatic 83, 3) := by decide +kernel
theorem dX1_become_11 : decode cX1_become 11 = .ok (.aload_n 1, 1) := by decide +kernel
theorem dX1_become_12 : decode cX1_become 12 = .ok (.getfield 15, 3) := by decide +kernel
theorem dX1_become_15 : decode cX1_become 15 = .ok (.aload_n 0, 1) := by decide +kernel
theorem dX1_become_16 : decode cX1_become 16 = .ok (.getfield 15, 3) := by decide +kernel
theorem dX1_become_19 : decode cX1_become 19 = .ok (.invokestatic 83, 3) := by decide +kernel
theorem dX1_become_22 : decode cX1_become 22 = .ok (.aload_n 1, 1) := by decide +kernel
theorem dX1_become_23 : decode cX1_become 23 = .ok (.getfield 18, 3) := by decide +kernel
theorem dX1_become_26 : decode cX1_become 26 = .ok (.aload_n 0, 1) := by decide +kernel
theorem dX1_become_27 : decode cX1_become 27 = .ok (.getfield 18, 3) := by decide +kernel
theorem dX1_become_30 : decode cX1_become 30 = .ok (.invokestatic 83, 3) := by decide +kernel
theorem dX1_become_33 : decode cX1_become 33 = .ok (.aload_n 1, 1) := by decide +kernel
theorem dX1_become_34 : decode cX1_become 34 = .ok (.getfield 21, 3) := by decide +kernel
theorem dX1_become_37 : decode cX1_become 37 = .ok (.aload_n 0, 1) := by decide +kernel
theorem dX1_become_38 : decode cX1_become 38 = .ok (.getfield 21, 3) := by decide +kernel
theorem dX1_become_41 : decode cX1_become 41 = .ok (.invokestatic 83, 3) := by decide +kernel
theorem dX1_become_44 : decode cX1_become 44 = .ok (.aload_n 1, 1) := by decide +kernel
theorem dX1_become_45 : decode cX1_become 45 = .ok (.getfield 24, 3) := by decide +kernel
theorem dX1_become_48 : decode cX1_become 48 = .ok (.aload_n 0, 1) := by decide +kernel
theorem dX1_become_49 : decode cX1_become 49 = .ok (.getfield 24, 3) := by decide +kernel
theorem dX1_become_52 : decode cX1_become 52 = .ok (.invokestatic 83, 3) := by decide +kernel
theorem dX1_become_55 : decode cX1_become 55 = .ok (.aload_n 1, 1) := by decide +kernel
theorem dX1_become_56 : decode cX1_become 56 = .ok (.getfield 27, 3) := by decide +kernel
theorem dX1_become_59 : decode cX1_become 59 = .ok (.aload_n 0, 1) := by decide +kernel
theorem dX1_become_60 : decode cX1_become 60 = .ok (.getfield 27, 3) := by decide +kernel
theorem dX1_become_63 : decode cX1_become 63 = .ok (.invokestatic 83, 3) := by decide +kernel
theorem dX1_become_66 : decode cX1_become 66 = .ok (.aload_n 1, 1) := by decide +kernel
theorem dX1_become_67 : decode cX1_become 67 = .ok (.getfield 30, 3) := by decide +kernel
theorem dX1_become_70 : decode cX1_become 70 = .ok (.aload_n 0, 1) := by decide +kernel
theorem dX1_become_71 : decode cX1_become 71 = .ok (.getfield 30, 3) := by decide +kernel
theorem dX1_become_74 : decode cX1_become 74 = .ok (.invokestatic 83, 3) := by decide +kernel
theorem dX1_become_77 : decode cX1_become 77 = .ok (.aload_n 1, 1) := by decide +kernel
theorem dX1_become_78 : decode cX1_become 78 = .ok (.getfield 33, 3) := by decide +kernel
theorem dX1_become_81 : decode cX1_become 81 = .ok (.aload_n 0, 1) := by decide +kernel
theorem dX1_become_82 : decode cX1_become 82 = .ok (.getfield 33, 3) := by decide +kernel
theorem dX1_become_85 : decode cX1_become 85 = .ok (.invokestatic 83, 3) := by decide +kernel
theorem dX1_become_88 : decode cX1_become 88 = .ok (.aload_n 0, 1) := by decide +kernel
theorem dX1_become_89 : decode cX1_become 89 = .ok (.getfield 39, 3) := by decide +kernel
theorem dX1_become_92 : decode cX1_become 92 = .ok (.aload_n 1, 1) := by decide +kernel
theorem dX1_become_93 : decode cX1_become 93 = .ok (.getfield 39, 3) := by decide +kernel
theorem dX1_become_96 : decode cX1_become 96 = .ok (.invokevirtual 87, 3) := by decide +kernel
theorem dX1_become_99 : decode cX1_become 99 = .ok (.aload_n 0, 1) := by decide +kernel
theorem dX1_become_100 : decode cX1_become 100 = .ok (.aload_n 1, 1) := by decide +kernel
theorem dX1_become_101 : decode cX1_become 101 = .ok (.getfield 43, 3) := by decide +kernel
theorem dX1_become_104 : decode cX1_become 104 = .ok (.putfield 43, 3) := by decide +kernel
theorem dX1_become_107 : decode cX1_become 107 = .ok (.aload_n 0, 1) := by decide +kernel
theorem dX1_become_108 : decode cX1_become 108 = .ok (.aload_n 1, 1) := by decide +kernel
theorem dX1_become_109 : decode cX1_become 109 = .ok (.getfield 91, 3) := by decide +kernel
theorem dX1_become_112 : decode cX1_become 112 = .ok (.putfield 91, 3) := by decide +kernel
theorem dX1_become_115 : decode cX1_become 115 = .ok (.return_, 1) := by decide +kernel
theorem dX2_init_0 : decode cX2_init 0 = .ok (.aload_n 0, 1) := by decide +kernel
theorem dX2_init_1 : decode cX2_init 1 = .ok (.invokespecial 3, 3) := by decide +kernel
theorem dX2_init_4 : decode cX2_init 4 = .ok (.aload_n 0, 1) := by decide +kernel
theorem dX2_init_5 : decode cX2_init 5 = .ok (.bipush 60, 2) := by decide +kernel
theorem dX2_init_7 : decode cX2_init 7 = .ok (.newarray .int, 2) := by decide +kernel
theorem dX2_init_9 : decode cX2_init 9 = .ok (.putfield 9, 3) := by decide +kernel
theorem dX2_init_12 : decode cX2_init 12 = .ok (.aload_n 0, 1) := by decide +kernel
theorem dX2_init_13 : decode cX2_init 13 = .ok (.bipush 60, 2) := by decide +kernel
theorem dX2_init_15 : decode cX2_init 15 = .ok (.newarray .int, 2) := by decide +kernel
theorem dX2_init_17 : decode cX2_init 17 = .ok (.putfield 15, 3) := by decide +kernel
theorem dX2_init_20 : decode cX2_init 20 = .ok (.aload_n 0, 1) := by decide +kernel
theorem dX2_init_21 : decode cX2_init 21 = .ok (.bipush 60, 2) := by decide +kernel
theorem dX2_init_23 : decode cX2_init 23 = .ok (.newarray .int, 2) := by decide +kernel
theorem dX2_init_25 : decode cX2_init 25 = .ok (.putfield 18, 3) := by decide +kernel
theorem dX2_init_28 : decode cX2_init 28 = .ok (.aload_n 0, 1) := by decide +kernel
theorem dX2_init_29 : decode cX2_init 29 = .ok (.bipush 60, 2) := by decide +kernel
theorem dX2_init_31 : decode cX2_init 31 = .ok (.newarray .int, 2) := by decide +kernel
theorem dX2_init_33 : decode cX2_init 33 = .ok (.putfield 21, 3) := by decide +kernel
theorem dX2_init_36 : decode cX2_init 36 = .ok (.aload_n 0, 1) := by decide +kernel
theorem dX2_init_37 : decode cX2_init 37 = .ok (.bipush 60, 2) := by decide +kernel
theorem dX2_init_39 : decode cX2_init 39 = .ok (.newarray .int, 2) := by decide +kernel
theorem dX2_init_41 : decode cX2_init 41 = .ok (.putfield 24, 3) := by decide +kernel
theorem dX2_init_44 : decode cX2_init 44 = .ok (.return_, 1) := by decide +kernel
set_option maxRecDepth 20000 in
theorem ggX2_add_X4_put : GoodIn wsX2_add wsX4_put := goodIn_r _ [5] (by decide +kernel) (by decide +kernel)
set_option maxRecDepth 20000 in
theorem gX2_add_X4_put_n31 : GoodIn wsX2_add (wsX4_put) := ggX2_add_X4_put
theorem dX2_add_0 : decode cX2_add 0 = .ok (.aload_n 0, 1) := by decide +kernel
theorem dX2_add_1 : decode cX2_add 1 = .ok (.getfield 27, 3) := by decide +kernel
theorem dX2_add_4 : decode cX2_add 4 = .ok (.bipush 60, 2) := by decide +kernel
theorem dX2_add_6 : decode cX2_add 6 = .ok (.if_icmp .lt 5, 3) := by decide +kernel
theorem dX2_add_9 : decode cX2_add 9 = .ok (.iconst 0, 1) := by decide +kernel
theorem dX2_add_10 : decode cX2_add 10 = .ok (.ireturn, 1) := by decide +kernel
theorem dX2_add_11 : decode cX2_add 11 = .ok (.aload_n 0, 1) := by decide +kernel
theorem dX2_add_12 : decode cX2_add 12 = .ok (.getfield 9, 3) := by decide +kernel
theorem dX2_add_15 : decode cX2_add 15 = .ok (.aload_n 0, 1) := by decide +kernel
theorem dX2_add_16 : decode cX2_add 16 = .ok (.getfield 27, 3) := by decide +kernel
theorem dX2_add_19 : decode cX2_add 19 = .ok (.iload_n 1, 1) := by decide +kernel
theorem dX2_add_20 : decode cX2_add 20 = .ok (.invokestatic 31, 3) := by decide +kernel
theorem dX2_add_23 : decode cX2_add 23 = .ok (.aload_n 0, 1) := by decide +kernel
theorem dX2_add_24 : decode cX2_add 24 = .ok (.dup, 1) := by decide +kernel
theorem dX2_add_25 : decode cX2_add 25 = .ok (.getfield 27, 3) := by decide +kernel
theorem dX2_add_28 : decode cX2_add 28 = .ok (.iconst 1, 1) := by decide +kernel
theorem dX2_add_29 : decode cX2_add 29 = .ok (.iadd, 1) := by decide +kernel
theorem dX2_add_30 : decode cX2_add 30 = .ok (.putfield 27, 3) := by decide +kernel
theorem dX2_add_33 : decode cX2_add 33 = .ok (.iconst 1, 1) := by decide +kernel
theorem dX2_add_34 : decode cX2_add 34 = .ok (.ireturn, 1) := by decide +kernel
theorem dX2_clear_0 : decode cX2_clear 0 = .ok (.aload_n 0, 1) := by decide +kernel
theorem dX2_clear_1 : decode cX2_clear 1 = .ok (.iconst 0, 1) := by decide +kernel
theorem dX2_clear_2 : decode cX2_clear 2 = .ok (.putfield 27, 3) := by decide +kernel
theorem dX2_clear_5 : decode cX2_clear 5 = .ok (.return_, 1) := by decide +kernel
set_option maxRecDepth 20000 in
theorem ggX2_read_X4_at : GoodIn wsX2_read wsX4_at := goodIn_r _ [7] (by decide +kernel) (by decide +kernel)
set_option maxRecDepth 20000 in
theorem gX2_read_X4_at_n41 : GoodIn wsX2_read (wsX4_at) := ggX2_read_X4_at
set_option maxRecDepth 20000 in
theorem ggX2_read_X2_take : GoodIn wsX2_read wsX2_take := goodIn_r _ [12, 13, 14, 15, 11, 16, 17, 1, 18, 6, 19, 20, 21, 22, 23, 2, 24, 25, 26, 27, 28, 29, 30, 31, 32, 33, 34, 5, 7, 35, 36, 37, 38, 39, 40, 41, 42, 43, 44, 45, 46, 47, 48, 49, 50, 51, 52, 53] (by decide +kernel) (by decide +kernel)
set_option maxRecDepth 20000 in
theorem gX2_read_X2_take : GoodIn wsX2_read (wsV RX2 45 RX2 yX2_take wsX2_take) := goodIn_app (goodIn_of _ (by decide +kernel)) ggX2_read_X2_take
theorem dX2_read_0 : decode cX2_read 0 = .ok (.aload_n 0, 1) := by decide +kernel
theorem dX2_read_1 : decode cX2_read 1 = .ok (.iconst 0, 1) := by decide +kernel
theorem dX2_read_2 : decode cX2_read 2 = .ok (.putfield 35, 3) := by decide +kernel
theorem dX2_read_5 : decode cX2_read 5 = .ok (.aload_n 0, 1) := by decide +kernel
theorem dX2_read_6 : decode cX2_read 6 = .ok (.iconst 0, 1) := by decide +kernel
theorem dX2_read_7 : decode cX2_read 7 = .ok (.putfield 38, 3) := by decide +kernel
theorem dX2_read_10 : decode cX2_read 10 = .ok (.iconst 0, 1) := by decide +kernel
theorem dX2_read_11 : decode cX2_read 11 = .ok (.istore_n 1, 1) := by decide +kernel
theorem dX2_read_12 : decode cX2_read 12 = .ok (.iconst 0, 1) := by decide +kernel
theorem dX2_read_13 : decode cX2_read 13 = .ok (.istore_n 2, 1) := by decide +kernel
theorem dX2_read_14 : decode cX2_read 14 = .ok (.iload_n 2, 1) := by decide +kernel
theorem dX2_read_15 : decode cX2_read 15 = .ok (.aload_n 0, 1) := by decide +kernel
theorem dX2_read_16 : decode cX2_read 16 = .ok (.getfield 27, 3) := by decide +kernel
theorem dX2_read_19 : decode cX2_read 19 = .ok (.if_icmp .ge 30, 3) := by decide +kernel
theorem dX2_read_22 : decode cX2_read 22 = .ok (.aload_n 0, 1) := by decide +kernel
theorem dX2_read_23 : decode cX2_read 23 = .ok (.iload_n 1, 1) := by decide +kernel
theorem dX2_read_24 : decode cX2_read 24 = .ok (.aload_n 0, 1) := by decide +kernel
theorem dX2_read_25 : decode cX2_read 25 = .ok (.getfield 9, 3) := by decide +kernel
theorem dX2_read_28 : decode cX2_read 28 = .ok (.iload_n 2, 1) := by decide +kernel
theorem dX2_read_29 : decode cX2_read 29 = .ok (.invokestatic 41, 3) := by decide +kernel
theorem dX2_read_32 : decode cX2_read 32 = .ok (.invokevirtual 45, 3) := by decide +kernel
theorem dX2_read_35 : decode cX2_read 35 = .ok (.istore_n 1, 1) := by decide +kernel
theorem dX2_read_36 : decode cX2_read 36 = .ok (.iload_n 1, 1) := by decide +kernel
theorem dX2_read_37 : decode cX2_read 37 = .ok (.iconst 4, 1) := by decide +kernel
theorem dX2_read_38 : decode cX2_read 38 = .ok (.if_icmp .ne 5, 3) := by decide +kernel
theorem dX2_read_41 : decode cX2_read 41 = .ok (.iload_n 2, 1) := by decide +kernel
theorem dX2_read_42 : decode cX2_read 42 = .ok (.ireturn, 1) := by decide +kernel
theorem dX2_read_43 : decode cX2_read 43 = .ok (.iinc 2 1, 3) := by decide +kernel
theorem dX2_read_46 : decode cX2_read 46 = .ok (.goto (-32), 3) := by decide +kernel
theorem dX2_read_49 : decode cX2_read 49 = .ok (.iload_n 1, 1) := by decide +kernel
theorem dX2_read_50 : decode cX2_read 50 = .ok (.ifCond .ne 8, 3) := by decide +kernel
theorem dX2_read_53 : decode cX2_read 53 = .ok (.bipush (-6), 2) := by decide +kernel
theorem dX2_read_55 : decode cX2_read 55 = .ok (.goto 7, 3) := by decide +kernel
theorem dX2_read_58 : decode cX2_read 58 = .ok (.aload_n 0, 1) := by decide +kernel
theorem dX2_read_59 : decode cX2_read 59 = .ok (.getfield 27, 3) := by decide +kernel
theorem dX2_read_62 : decode cX2_read 62 = .ok (.ireturn, 1) := by decide +kernel
set_option maxRecDepth 20000 in
theorem ggX2_take_X2_takeDay : GoodIn wsX2_take wsX2_takeDay := goodIn_r _ [5, 6, 7, 8, 9, 10, 40, 41, 42, 43, 44, 45, 46, 47] (by decide +kernel) (by decide +kernel)
set_option maxRecDepth 20000 in
theorem gX2_take_X2_takeDay : GoodIn wsX2_take (wsV RX2 49 RX2 yX2_takeDay wsX2_takeDay) := goodIn_app (goodIn_of _ (by decide +kernel)) ggX2_take_X2_takeDay
set_option maxRecDepth 20000 in
theorem ggX2_take_X2_takeSpeaker : GoodIn wsX2_take wsX2_takeSpeaker := goodIn_r _ [14, 15, 6, 7, 16, 17, 9, 18, 19, 20, 21, 8, 10, 40, 41, 42, 43, 44, 45, 46, 47] (by decide +kernel) (by decide +kernel)
set_option maxRecDepth 20000 in
theorem gX2_take_X2_takeSpeaker : GoodIn wsX2_take (wsV RX2 53 RX2 yX2_takeSpeaker wsX2_takeSpeaker) := goodIn_app (goodIn_of _ (by decide +kernel)) ggX2_take_X2_takeSpeaker
set_option maxRecDepth 20000 in
theorem ggX2_take_X2_takeHearer : GoodIn wsX2_take wsX2_takeHearer := goodIn_r _ [25, 16, 7, 26, 17, 9, 18, 19, 20, 21, 27, 28, 8, 10, 40, 41, 42, 43, 44, 45, 46, 47] (by decide +kernel) (by decide +kernel)
set_option maxRecDepth 20000 in
theorem gX2_take_X2_takeHearer : GoodIn wsX2_take (wsV RX2 57 RX2 yX2_takeHearer wsX2_takeHearer) := goodIn_app (goodIn_of _ (by decide +kernel)) ggX2_take_X2_takeHearer
set_option maxRecDepth 20000 in
theorem ggX2_take_X2_takeDenial : GoodIn wsX2_take wsX2_takeDenial := goodIn_r _ [32, 6, 7, 8, 9, 10, 40, 41, 42, 43, 44, 45, 46, 47] (by decide +kernel) (by decide +kernel)
set_option maxRecDepth 20000 in
theorem gX2_take_X2_takeDenial : GoodIn wsX2_take (wsV RX2 60 RX2 yX2_takeDenial wsX2_takeDenial) := goodIn_app (goodIn_of _ (by decide +kernel)) ggX2_take_X2_takeDenial
set_option maxRecDepth 20000 in
theorem ggX2_take_X2_takePlank : GoodIn wsX2_take wsX2_takePlank := goodIn_r _ [36, 37, 7, 38, 9, 39, 19, 20, 21, 8, 10, 40, 41, 42, 43, 44, 45, 46, 47] (by decide +kernel) (by decide +kernel)
set_option maxRecDepth 20000 in
theorem gX2_take_X2_takePlank : GoodIn wsX2_take (wsV RX2 63 RX2 yX2_takePlank wsX2_takePlank) := goodIn_app (goodIn_of _ (by decide +kernel)) ggX2_take_X2_takePlank
theorem dX2_take_0 : decode cX2_take 0 = .ok (.iload_n 1, 1) := by decide +kernel
theorem dX2_take_1 : decode cX2_take 1 = .ok (.tableswitch 77 0 2 #[27, 46, 55], 27) := by decide +kernel
theorem dX2_take_28 : decode cX2_take 28 = .ok (.iload_n 2, 1) := by decide +kernel
theorem dX2_take_29 : decode cX2_take 29 = .ok (.bipush 46, 2) := by decide +kernel
theorem dX2_take_31 : decode cX2_take 31 = .ok (.if_icmp .ne 10, 3) := by decide +kernel
theorem dX2_take_34 : decode cX2_take 34 = .ok (.aload_n 0, 1) := by decide +kernel
theorem dX2_take_35 : decode cX2_take 35 = .ok (.invokevirtual 49, 3) := by decide +kernel
theorem dX2_take_38 : decode cX2_take 38 = .ok (.goto 8, 3) := by decide +kernel
theorem dX2_take_41 : decode cX2_take 41 = .ok (.aload_n 0, 1) := by decide +kernel
theorem dX2_take_42 : decode cX2_take 42 = .ok (.iload_n 2, 1) := by decide +kernel
theorem dX2_take_43 : decode cX2_take 43 = .ok (.invokevirtual 53, 3) := by decide +kernel
theorem dX2_take_46 : decode cX2_take 46 = .ok (.ireturn, 1) := by decide +kernel
theorem dX2_take_47 : decode cX2_take 47 = .ok (.aload_n 0, 1) := by decide +kernel
theorem dX2_take_48 : decode cX2_take 48 = .ok (.iload_n 2, 1) := by decide +kernel
theorem dX2_take_49 : decode cX2_take 49 = .ok (.bipush 65, 2) := by decide +kernel
theorem dX2_take_51 : decode cX2_take 51 = .ok (.isub, 1) := by decide +kernel
theorem dX2_take_52 : decode cX2_take 52 = .ok (.invokevirtual 57, 3) := by decide +kernel
theorem dX2_take_55 : decode cX2_take 55 = .ok (.ireturn, 1) := by decide +kernel
theorem dX2_take_56 : decode cX2_take 56 = .ok (.iload_n 2, 1) := by decide +kernel
theorem dX2_take_57 : decode cX2_take 57 = .ok (.bipush 45, 2) := by decide +kernel
theorem dX2_take_59 : decode cX2_take 59 = .ok (.if_icmp .ne 10, 3) := by decide +kernel
theorem dX2_take_62 : decode cX2_take 62 = .ok (.aload_n 0, 1) := by decide +kernel
theorem dX2_take_63 : decode cX2_take 63 = .ok (.invokevirtual 60, 3) := by decide +kernel
theorem dX2_take_66 : decode cX2_take 66 = .ok (.goto 11, 3) := by decide +kernel
theorem dX2_take_69 : decode cX2_take 69 = .ok (.aload_n 0, 1) := by decide +kernel
theorem dX2_take_70 : decode cX2_take 70 = .ok (.iload_n 2, 1) := by decide +kernel
theorem dX2_take_71 : decode cX2_take 71 = .ok (.bipush 48, 2) := by decide +kernel
theorem dX2_take_73 : decode cX2_take 73 = .ok (.isub, 1) := by decide +kernel
theorem dX2_take_74 : decode cX2_take 74 = .ok (.invokevirtual 63, 3) := by decide +kernel
theorem dX2_take_77 : decode cX2_take 77 = .ok (.ireturn, 1) := by decide +kernel
theorem dX2_take_78 : decode cX2_take 78 = .ok (.aload_n 0, 1) := by decide +kernel
theorem dX2_take_79 : decode cX2_take 79 = .ok (.iload_n 2, 1) := by decide +kernel
theorem dX2_take_80 : decode cX2_take 80 = .ok (.bipush 48, 2) := by decide +kernel
theorem dX2_take_82 : decode cX2_take 82 = .ok (.isub, 1) := by decide +kernel
theorem dX2_take_83 : decode cX2_take 83 = .ok (.invokevirtual 63, 3) := by decide +kernel
theorem dX2_take_86 : decode cX2_take 86 = .ok (.ireturn, 1) := by decide +kernel
set_option maxRecDepth 20000 in
theorem ggX2_takeDay_X4_put : GoodIn wsX2_takeDay wsX4_put := goodIn_r _ [5] (by decide +kernel) (by decide +kernel)
set_option maxRecDepth 20000 in
theorem gX2_takeDay_X4_put_n31 : GoodIn wsX2_takeDay (wsX4_put) := ggX2_takeDay_X4_put
theorem dX2_takeDay_0 : decode cX2_takeDay 0 = .ok (.aload_n 0, 1) := by decide +kernel
theorem dX2_takeDay_1 : decode cX2_takeDay 1 = .ok (.getfield 15, 3) := by decide +kernel
theorem dX2_takeDay_4 : decode cX2_takeDay 4 = .ok (.aload_n 0, 1) := by decide +kernel
theorem dX2_takeDay_5 : decode cX2_takeDay 5 = .ok (.getfield 35, 3) := by decide +kernel
theorem dX2_takeDay_8 : decode cX2_takeDay 8 = .ok (.iconst 0, 1) := by decide +kernel
theorem dX2_takeDay_9 : decode cX2_takeDay 9 = .ok (.invokestatic 31, 3) := by decide +kernel
theorem dX2_takeDay_12 : decode cX2_takeDay 12 = .ok (.aload_n 0, 1) := by decide +kernel
theorem dX2_takeDay_13 : decode cX2_takeDay 13 = .ok (.dup, 1) := by decide +kernel
theorem dX2_takeDay_14 : decode cX2_takeDay 14 = .ok (.getfield 35, 3) := by decide +kernel
theorem dX2_takeDay_17 : decode cX2_takeDay 17 = .ok (.iconst 1, 1) := by decide +kernel
theorem dX2_takeDay_18 : decode cX2_takeDay 18 = .ok (.iadd, 1) := by decide +kernel
theorem dX2_takeDay_19 : decode cX2_takeDay 19 = .ok (.putfield 35, 3) := by decide +kernel
theorem dX2_takeDay_22 : decode cX2_takeDay 22 = .ok (.iconst 0, 1) := by decide +kernel
theorem dX2_takeDay_23 : decode cX2_takeDay 23 = .ok (.ireturn, 1) := by decide +kernel
set_option maxRecDepth 20000 in
theorem ggX2_takeSpeaker_X4_isPerson : GoodIn wsX2_takeSpeaker wsX4_isPerson := goodIn_r _ [7, 8, 9, 6, 10] (by decide +kernel) (by decide +kernel)
set_option maxRecDepth 20000 in
theorem gX2_takeSpeaker_X4_isPerson_n66 : GoodIn wsX2_takeSpeaker (wsX4_isPerson) := ggX2_takeSpeaker_X4_isPerson
set_option maxRecDepth 20000 in
theorem ggX2_takeSpeaker_X4_put : GoodIn wsX2_takeSpeaker wsX4_put := goodIn_r _ [12] (by decide +kernel) (by decide +kernel)
set_option maxRecDepth 20000 in
theorem gX2_takeSpeaker_X4_put_n31 : GoodIn wsX2_takeSpeaker (wsX4_put) := ggX2_takeSpeaker_X4_put
theorem dX2_takeSpeaker_0 : decode cX2_takeSpeaker 0 = .ok (.iload_n 1, 1) := by decide +kernel
theorem dX2_takeSpeaker_1 : decode cX2_takeSpeaker 1 = .ok (.bipush 65, 2) := by decide +kernel
theorem dX2_takeSpeaker_3 : decode cX2_takeSpeaker 3 = .ok (.isub, 1) := by decide +kernel
theorem dX2_takeSpeaker_4 : decode cX2_takeSpeaker 4 = .ok (.istore_n 2, 1) := by decide +kernel
theorem dX2_takeSpeaker_5 : decode cX2_takeSpeaker 5 = .ok (.iload_n 1, 1) := by decide +kernel
theorem dX2_takeSpeaker_6 : decode cX2_takeSpeaker 6 = .ok (.bipush 63, 2) := by decide +kernel
theorem dX2_takeSpeaker_8 : decode cX2_takeSpeaker 8 = .ok (.if_icmp .ne 32, 3) := by decide +kernel
theorem dX2_takeSpeaker_11 : decode cX2_takeSpeaker 11 = .ok (.aload_n 0, 1) := by decide +kernel
theorem dX2_takeSpeaker_12 : decode cX2_takeSpeaker 12 = .ok (.getfield 38, 3) := by decide +kernel
theorem dX2_takeSpeaker_15 : decode cX2_takeSpeaker 15 = .ok (.iconst 3, 1) := by decide +kernel
theorem dX2_takeSpeaker_16 : decode cX2_takeSpeaker 16 = .ok (.if_icmp .ge 24, 3) := by decide +kernel
theorem dX2_takeSpeaker_19 : decode cX2_takeSpeaker 19 = .ok (.bipush 6, 2) := by decide +kernel
theorem dX2_takeSpeaker_21 : decode cX2_takeSpeaker 21 = .ok (.aload_n 0, 1) := by decide +kernel
theorem dX2_takeSpeaker_22 : decode cX2_takeSpeaker 22 = .ok (.getfield 38, 3) := by decide +kernel
theorem dX2_takeSpeaker_25 : decode cX2_takeSpeaker 25 = .ok (.iadd, 1) := by decide +kernel
theorem dX2_takeSpeaker_26 : decode cX2_takeSpeaker 26 = .ok (.istore_n 2, 1) := by decide +kernel
theorem dX2_takeSpeaker_27 : decode cX2_takeSpeaker 27 = .ok (.aload_n 0, 1) := by decide +kernel
theorem dX2_takeSpeaker_28 : decode cX2_takeSpeaker 28 = .ok (.dup, 1) := by decide +kernel
theorem dX2_takeSpeaker_29 : decode cX2_takeSpeaker 29 = .ok (.getfield 38, 3) := by decide +kernel
theorem dX2_takeSpeaker_32 : decode cX2_takeSpeaker 32 = .ok (.iconst 1, 1) := by decide +kernel
theorem dX2_takeSpeaker_33 : decode cX2_takeSpeaker 33 = .ok (.iadd, 1) := by decide +kernel
theorem dX2_takeSpeaker_34 : decode cX2_takeSpeaker 34 = .ok (.putfield 38, 3) := by decide +kernel
theorem dX2_takeSpeaker_37 : decode cX2_takeSpeaker 37 = .ok (.goto 12, 3) := by decide +kernel
theorem dX2_takeSpeaker_40 : decode cX2_takeSpeaker 40 = .ok (.iload_n 2, 1) := by decide +kernel
theorem dX2_takeSpeaker_41 : decode cX2_takeSpeaker 41 = .ok (.invokestatic 66, 3) := by decide +kernel
theorem dX2_takeSpeaker_44 : decode cX2_takeSpeaker 44 = .ok (.ifCond .ne 5, 3) := by decide +kernel
theorem dX2_takeSpeaker_47 : decode cX2_takeSpeaker 47 = .ok (.iconst 4, 1) := by decide +kernel
theorem dX2_takeSpeaker_48 : decode cX2_takeSpeaker 48 = .ok (.ireturn, 1) := by decide +kernel
theorem dX2_takeSpeaker_49 : decode cX2_takeSpeaker 49 = .ok (.aload_n 0, 1) := by decide +kernel
theorem dX2_takeSpeaker_50 : decode cX2_takeSpeaker 50 = .ok (.getfield 15, 3) := by decide +kernel
theorem dX2_takeSpeaker_53 : decode cX2_takeSpeaker 53 = .ok (.aload_n 0, 1) := by decide +kernel
theorem dX2_takeSpeaker_54 : decode cX2_takeSpeaker 54 = .ok (.getfield 35, 3) := by decide +kernel
theorem dX2_takeSpeaker_57 : decode cX2_takeSpeaker 57 = .ok (.iconst 1, 1) := by decide +kernel
theorem dX2_takeSpeaker_58 : decode cX2_takeSpeaker 58 = .ok (.invokestatic 31, 3) := by decide +kernel
theorem dX2_takeSpeaker_61 : decode cX2_takeSpeaker 61 = .ok (.aload_n 0, 1) := by decide +kernel
theorem dX2_takeSpeaker_62 : decode cX2_takeSpeaker 62 = .ok (.getfield 18, 3) := by decide +kernel
theorem dX2_takeSpeaker_65 : decode cX2_takeSpeaker 65 = .ok (.aload_n 0, 1) := by decide +kernel
theorem dX2_takeSpeaker_66 : decode cX2_takeSpeaker 66 = .ok (.getfield 35, 3) := by decide +kernel
theorem dX2_takeSpeaker_69 : decode cX2_takeSpeaker 69 = .ok (.iload_n 2, 1) := by decide +kernel
theorem dX2_takeSpeaker_70 : decode cX2_takeSpeaker 70 = .ok (.invokestatic 31, 3) := by decide +kernel
theorem dX2_takeSpeaker_73 : decode cX2_takeSpeaker 73 = .ok (.iconst 1, 1) := by decide +kernel
theorem dX2_takeSpeaker_74 : decode cX2_takeSpeaker 74 = .ok (.ireturn, 1) := by decide +kernel
set_option maxRecDepth 20000 in
theorem ggX2_takeHearer_X4_isPerson : GoodIn wsX2_takeHearer wsX4_isPerson := goodIn_r _ [6, 7, 8, 5, 9] (by decide +kernel) (by decide +kernel)
set_option maxRecDepth 20000 in
theorem gX2_takeHearer_X4_isPerson_n66 : GoodIn wsX2_takeHearer (wsX4_isPerson) := ggX2_takeHearer_X4_isPerson
set_option maxRecDepth 20000 in
theorem ggX2_takeHearer_X4_at : GoodIn wsX2_takeHearer wsX4_at := goodIn_r _ [11] (by decide +kernel) (by decide +kernel)
set_option maxRecDepth 20000 in
theorem gX2_takeHearer_X4_at_n41 : GoodIn wsX2_takeHearer (wsX4_at) := ggX2_takeHearer_X4_at
set_option maxRecDepth 20000 in
theorem ggX2_takeHearer_X4_put : GoodIn wsX2_takeHearer wsX4_put := goodIn_r _ [13] (by decide +kernel) (by decide +kernel)
set_option maxRecDepth 20000 in
theorem gX2_takeHearer_X4_put_n31 : GoodIn wsX2_takeHearer (wsX4_put) := ggX2_takeHearer_X4_put
theorem dX2_takeHearer_0 : decode cX2_takeHearer 0 = .ok (.iload_n 1, 1) := by decide +kernel
theorem dX2_takeHearer_1 : decode cX2_takeHearer 1 = .ok (.invokestatic 66, 3) := by decide +kernel
theorem dX2_takeHearer_4 : decode cX2_takeHearer 4 = .ok (.ifCond .eq 18, 3) := by decide +kernel
theorem dX2_takeHearer_7 : decode cX2_takeHearer 7 = .ok (.iload_n 1, 1) := by decide +kernel
theorem dX2_takeHearer_8 : decode cX2_takeHearer 8 = .ok (.aload_n 0, 1) := by decide +kernel
theorem dX2_takeHearer_9 : decode cX2_takeHearer 9 = .ok (.getfield 18, 3) := by decide +kernel
theorem dX2_takeHearer_12 : decode cX2_takeHearer 12 = .ok (.aload_n 0, 1) := by decide +kernel
theorem dX2_takeHearer_13 : decode cX2_takeHearer 13 = .ok (.getfield 35, 3) := by decide +kernel
theorem dX2_takeHearer_16 : decode cX2_takeHearer 16 = .ok (.invokestatic 41, 3) := by decide +kernel
theorem dX2_takeHearer_19 : decode cX2_takeHearer 19 = .ok (.if_icmp .ne 5, 3) := by decide +kernel
theorem dX2_takeHearer_22 : decode cX2_takeHearer 22 = .ok (.iconst 4, 1) := by decide +kernel
theorem dX2_takeHearer_23 : decode cX2_takeHearer 23 = .ok (.ireturn, 1) := by decide +kernel
theorem dX2_takeHearer_24 : decode cX2_takeHearer 24 = .ok (.aload_n 0, 1) := by decide +kernel
theorem dX2_takeHearer_25 : decode cX2_takeHearer 25 = .ok (.getfield 21, 3) := by decide +kernel
theorem dX2_takeHearer_28 : decode cX2_takeHearer 28 = .ok (.aload_n 0, 1) := by decide +kernel
theorem dX2_takeHearer_29 : decode cX2_takeHearer 29 = .ok (.getfield 35, 3) := by decide +kernel
theorem dX2_takeHearer_32 : decode cX2_takeHearer 32 = .ok (.iload_n 1, 1) := by decide +kernel
theorem dX2_takeHearer_33 : decode cX2_takeHearer 33 = .ok (.invokestatic 31, 3) := by decide +kernel
theorem dX2_takeHearer_36 : decode cX2_takeHearer 36 = .ok (.iconst 2, 1) := by decide +kernel
theorem dX2_takeHearer_37 : decode cX2_takeHearer 37 = .ok (.ireturn, 1) := by decide +kernel
set_option maxRecDepth 20000 in
theorem ggX2_takeDenial_X4_put : GoodIn wsX2_takeDenial wsX4_put := goodIn_r _ [5] (by decide +kernel) (by decide +kernel)
set_option maxRecDepth 20000 in
theorem gX2_takeDenial_X4_put_n31 : GoodIn wsX2_takeDenial (wsX4_put) := ggX2_takeDenial_X4_put
theorem dX2_takeDenial_0 : decode cX2_takeDenial 0 = .ok (.aload_n 0, 1) := by decide +kernel
theorem dX2_takeDenial_1 : decode cX2_takeDenial 1 = .ok (.getfield 15, 3) := by decide +kernel
theorem dX2_takeDenial_4 : decode cX2_takeDenial 4 = .ok (.aload_n 0, 1) := by decide +kernel
theorem dX2_takeDenial_5 : decode cX2_takeDenial 5 = .ok (.getfield 35, 3) := by decide +kernel
theorem dX2_takeDenial_8 : decode cX2_takeDenial 8 = .ok (.iconst 2, 1) := by decide +kernel
theorem dX2_takeDenial_9 : decode cX2_takeDenial 9 = .ok (.invokestatic 31, 3) := by decide +kernel
theorem dX2_takeDenial_12 : decode cX2_takeDenial 12 = .ok (.iconst 3, 1) := by decide +kernel
theorem dX2_takeDenial_13 : decode cX2_takeDenial 13 = .ok (.ireturn, 1) := by decide +kernel
set_option maxRecDepth 20000 in
theorem ggX2_takePlank_X4_isPlank : GoodIn wsX2_takePlank wsX4_isPlank := goodIn_r _ [5, 6, 7, 4, 8] (by decide +kernel) (by decide +kernel)
set_option maxRecDepth 20000 in
theorem gX2_takePlank_X4_isPlank_n70 : GoodIn wsX2_takePlank (wsX4_isPlank) := ggX2_takePlank_X4_isPlank
set_option maxRecDepth 20000 in
theorem ggX2_takePlank_X4_put : GoodIn wsX2_takePlank wsX4_put := goodIn_r _ [10] (by decide +kernel) (by decide +kernel)
set_option maxRecDepth 20000 in
theorem gX2_takePlank_X4_put_n31 : GoodIn wsX2_takePlank (wsX4_put) := ggX2_takePlank_X4_put
theorem dX2_takePlank_0 : decode cX2_takePlank 0 = .ok (.iload_n 1, 1) := by decide +kernel
theorem dX2_takePlank_1 : decode cX2_takePlank 1 = .ok (.invokestatic 70, 3) := by decide +kernel
theorem dX2_takePlank_4 : decode cX2_takePlank 4 = .ok (.ifCond .ne 5, 3) := by decide +kernel
theorem dX2_takePlank_7 : decode cX2_takePlank 7 = .ok (.iconst 4, 1) := by decide +kernel
theorem dX2_takePlank_8 : decode cX2_takePlank 8 = .ok (.ireturn, 1) := by decide +kernel
theorem dX2_takePlank_9 : decode cX2_takePlank 9 = .ok (.aload_n 0, 1) := by decide +kernel
theorem dX2_takePlank_10 : decode cX2_takePlank 10 = .ok (.getfield 24, 3) := by decide +kernel
theorem dX2_takePlank_13 : decode cX2_takePlank 13 = .ok (.aload_n 0, 1) := by decide +kernel
theorem dX2_takePlank_14 : decode cX2_takePlank 14 = .ok (.getfield 35, 3) := by decide +kernel
theorem dX2_takePlank_17 : decode cX2_takePlank 17 = .ok (.iload_n 1, 1) := by decide +kernel
theorem dX2_takePlank_18 : decode cX2_takePlank 18 = .ok (.invokestatic 31, 3) := by decide +kernel
theorem dX2_takePlank_21 : decode cX2_takePlank 21 = .ok (.aload_n 0, 1) := by decide +kernel
theorem dX2_takePlank_22 : decode cX2_takePlank 22 = .ok (.dup, 1) := by decide +kernel
theorem dX2_takePlank_23 : decode cX2_takePlank 23 = .ok (.getfield 35, 3) := by decide +kernel
theorem dX2_takePlank_26 : decode cX2_takePlank 26 = .ok (.iconst 1, 1) := by decide +kernel
theorem dX2_takePlank_27 : decode cX2_takePlank 27 = .ok (.iadd, 1) := by decide +kernel
theorem dX2_takePlank_28 : decode cX2_takePlank 28 = .ok (.putfield 35, 3) := by decide +kernel
theorem dX2_takePlank_31 : decode cX2_takePlank 31 = .ok (.iconst 0, 1) := by decide +kernel
theorem dX2_takePlank_32 : decode cX2_takePlank 32 = .ok (.ireturn, 1) := by decide +kernel
theorem dX3_init_0 : decode cX3_init 0 = .ok (.aload_n 0, 1) := by decide +kernel
theorem dX3_init_1 : decode cX3_init 1 = .ok (.invokespecial 3, 3) := by decide +kernel
theorem dX3_init_4 : decode cX3_init 4 = .ok (.aload_n 0, 1) := by decide +kernel
theorem dX3_init_5 : decode cX3_init 5 = .ok (.bipush 6, 2) := by decide +kernel
theorem dX3_init_7 : decode cX3_init 7 = .ok (.newarray .int, 2) := by decide +kernel
theorem dX3_init_9 : decode cX3_init 9 = .ok (.putfield 9, 3) := by decide +kernel
theorem dX3_init_12 : decode cX3_init 12 = .ok (.aload_n 0, 1) := by decide +kernel
theorem dX3_init_13 : decode cX3_init 13 = .ok (.bipush 6, 2) := by decide +kernel
theorem dX3_init_15 : decode cX3_init 15 = .ok (.newarray .int, 2) := by decide +kernel
theorem dX3_init_17 : decode cX3_init 17 = .ok (.putfield 15, 3) := by decide +kernel
theorem dX3_init_20 : decode cX3_init 20 = .ok (.aload_n 0, 1) := by decide +kernel
theorem dX3_init_21 : decode cX3_init 21 = .ok (.bipush 6, 2) := by decide +kernel
theorem dX3_init_23 : decode cX3_init 23 = .ok (.newarray .int, 2) := by decide +kernel
theorem dX3_init_25 : decode cX3_init 25 = .ok (.putfield 18, 3) := by decide +kernel
theorem dX3_init_28 : decode cX3_init 28 = .ok (.return_, 1) := by decide +kernel
set_option maxRecDepth 20000 in
theorem ggX3_weigh_X4_put : GoodIn wsX3_weigh wsX4_put := goodIn_r _ [4] (by decide +kernel) (by decide +kernel)
set_option maxRecDepth 20000 in
theorem gX3_weigh_X4_put_n21 : GoodIn wsX3_weigh (wsX4_put) := ggX3_weigh_X4_put
theorem dX3_weigh_0 : decode cX3_weigh 0 = .ok (.aload_n 0, 1) := by decide +kernel
theorem dX3_weigh_1 : decode cX3_weigh 1 = .ok (.getfield 9, 3) := by decide +kernel
theorem dX3_weigh_4 : decode cX3_weigh 4 = .ok (.iload_n 1, 1) := by decide +kernel
theorem dX3_weigh_5 : decode cX3_weigh 5 = .ok (.iload_n 2, 1) := by decide +kernel
theorem dX3_weigh_6 : decode cX3_weigh 6 = .ok (.invokestatic 21, 3) := by decide +kernel
theorem dX3_weigh_9 : decode cX3_weigh 9 = .ok (.return_, 1) := by decide +kernel
set_option maxRecDepth 20000 in
theorem ggX3_findCheapest_X3_find : GoodIn wsX3_findCheapest wsX3_find := goodIn_r _ [6, 7, 8, 9, 10, 11, 12, 5, 13, 14, 15, 16, 17, 18, 19, 20, 21, 22, 23, 24, 25, 26, 27, 28, 29, 30, 31, 32, 33, 34, 1, 35, 36, 37, 38, 39, 40, 41, 42, 43, 44, 45, 46, 47, 48, 49, 50, 51, 52, 53, 54, 55, 56, 57, 58, 59, 60, 61, 62, 63, 64, 65, 66, 67] (by decide +kernel) (by decide +kernel)
set_option maxRecDepth 20000 in
theorem gX3_findCheapest_X3_find : GoodIn wsX3_findCheapest (wsV RX3 29 RX3 yX3_find wsX3_find) := goodIn_app (goodIn_of _ (by decide +kernel)) ggX3_findCheapest_X3_find
theorem dX3_findCheapest_0 : decode cX3_findCheapest 0 = .ok (.aload_n 0, 1) := by decide +kernel
theorem dX3_findCheapest_1 : decode cX3_findCheapest 1 = .ok (.iconst 0, 1) := by decide +kernel
theorem dX3_findCheapest_2 : decode cX3_findCheapest 2 = .ok (.putfield 25, 3) := by decide +kernel
theorem dX3_findCheapest_5 : decode cX3_findCheapest 5 = .ok (.aload_n 0, 1) := by decide +kernel
theorem dX3_findCheapest_6 : decode cX3_findCheapest 6 = .ok (.aload_n 1, 1) := by decide +kernel
theorem dX3_findCheapest_7 : decode cX3_findCheapest 7 = .ok (.iload_n 2, 1) := by decide +kernel
theorem dX3_findCheapest_8 : decode cX3_findCheapest 8 = .ok (.iload_n 3, 1) := by decide +kernel
theorem dX3_findCheapest_9 : decode cX3_findCheapest 9 = .ok (.lconst 0, 1) := by decide +kernel
theorem dX3_findCheapest_10 : decode cX3_findCheapest 10 = .ok (.invokevirtual 29, 3) := by decide +kernel
theorem dX3_findCheapest_13 : decode cX3_findCheapest 13 = .ok (.return_, 1) := by decide +kernel
set_option maxRecDepth 20000 in
theorem ggX3_findLikeliest_X3_find : GoodIn wsX3_findLikeliest wsX3_find := goodIn_r _ [7, 8, 9, 10, 11, 12, 13, 6, 14, 15, 16, 17, 18, 19, 20, 21, 22, 23, 24, 25, 26, 27, 28, 29, 30, 31, 32, 33, 34, 35, 1, 36, 37, 38, 39, 40, 41, 42, 43, 44, 45, 46, 47, 48, 49, 50, 51, 52, 53, 54, 55, 56, 57, 58, 59, 60, 61, 62, 63, 64, 65, 66, 67, 68] (by decide +kernel) (by decide +kernel)
set_option maxRecDepth 20000 in
theorem gX3_findLikeliest_X3_find : GoodIn wsX3_findLikeliest (wsV RX3 29 RX3 yX3_find wsX3_find) := goodIn_app (goodIn_of _ (by decide +kernel)) ggX3_findLikeliest_X3_find
theorem dX3_findLikeliest_0 : decode cX3_findLikeliest 0 = .ok (.aload_n 0, 1) := by decide +kernel
theorem dX3_findLikeliest_1 : decode cX3_findLikeliest 1 = .ok (.iconst 1, 1) := by decide +kernel
theorem dX3_findLikeliest_2 : decode cX3_findLikeliest 2 = .ok (.putfield 25, 3) := by decide +kernel
theorem dX3_findLikeliest_5 : decode cX3_findLikeliest 5 = .ok (.aload_n 0, 1) := by decide +kernel
theorem dX3_findLikeliest_6 : decode cX3_findLikeliest 6 = .ok (.aload_n 1, 1) := by decide +kernel
theorem dX3_findLikeliest_7 : decode cX3_findLikeliest 7 = .ok (.iload_n 2, 1) := by decide +kernel
theorem dX3_findLikeliest_8 : decode cX3_findLikeliest 8 = .ok (.iload_n 3, 1) := by decide +kernel
theorem dX3_findLikeliest_9 : decode cX3_findLikeliest 9 = .ok (.ldc2_w 33, 3) := by decide +kernel
theorem dX3_findLikeliest_12 : decode cX3_findLikeliest 12 = .ok (.invokevirtual 29, 3) := by decide +kernel
theorem dX3_findLikeliest_15 : decode cX3_findLikeliest 15 = .ok (.return_, 1) := by decide +kernel
theorem dX3_found_0 : decode cX3_found 0 = .ok (.aload_n 0, 1) := by decide +kernel
theorem dX3_found_1 : decode cX3_found 1 = .ok (.getfield 35, 3) := by decide +kernel
theorem dX3_found_4 : decode cX3_found 4 = .ok (.bipush (-6), 2) := by decide +kernel
theorem dX3_found_6 : decode cX3_found 6 = .ok (.if_icmp .eq 7, 3) := by decide +kernel
theorem dX3_found_9 : decode cX3_found 9 = .ok (.iconst 1, 1) := by decide +kernel
theorem dX3_found_10 : decode cX3_found 10 = .ok (.goto 4, 3) := by decide +kernel
theorem dX3_found_13 : decode cX3_found 13 = .ok (.iconst 0, 1) := by decide +kernel
theorem dX3_found_14 : decode cX3_found 14 = .ok (.ireturn, 1) := by decide +kernel
set_option maxRecDepth 20000 in
theorem ggX3_step_X4_at : GoodIn wsX3_step wsX4_at := goodIn_r _ [5] (by decide +kernel) (by decide +kernel)
set_option maxRecDepth 20000 in
theorem gX3_step_X4_at_n39 : GoodIn wsX3_step (wsX4_at) := ggX3_step_X4_at
theorem dX3_step_0 : decode cX3_step 0 = .ok (.iload_n 1, 1) := by decide +kernel
theorem dX3_step_1 : decode cX3_step 1 = .ok (.ifCond .lt 22, 3) := by decide +kernel
theorem dX3_step_4 : decode cX3_step 4 = .ok (.iload_n 1, 1) := by decide +kernel
theorem dX3_step_5 : decode cX3_step 5 = .ok (.aload_n 0, 1) := by decide +kernel
theorem dX3_step_6 : decode cX3_step 6 = .ok (.getfield 35, 3) := by decide +kernel
theorem dX3_step_9 : decode cX3_step 9 = .ok (.if_icmp .ge 14, 3) := by decide +kernel
theorem dX3_step_12 : decode cX3_step 12 = .ok (.aload_n 0, 1) := by decide +kernel
theorem dX3_step_13 : decode cX3_step 13 = .ok (.getfield 18, 3) := by decide +kernel
theorem dX3_step_16 : decode cX3_step 16 = .ok (.iload_n 1, 1) := by decide +kernel
theorem dX3_step_17 : decode cX3_step 17 = .ok (.invokestatic 39, 3) := by decide +kernel
theorem dX3_step_20 : decode cX3_step 20 = .ok (.goto 5, 3) := by decide +kernel
theorem dX3_step_23 : decode cX3_step 23 = .ok (.bipush (-6), 2) := by decide +kernel
theorem dX3_step_25 : decode cX3_step 25 = .ok (.ireturn, 1) := by decide +kernel
set_option maxRecDepth 20000 in
theorem ggX3_find_X3_walk : GoodIn wsX3_find wsX3_walk := goodIn_r _ [8, 1, 9, 10, 11, 7, 12, 3, 2, 13, 14, 15, 16, 17, 18, 19, 20, 21, 22, 23, 24, 25, 26, 27, 28, 29, 30, 31, 32, 33, 34, 35, 36, 37, 38, 39, 40, 41, 42, 43, 44, 45, 4, 5, 6, 46, 47, 48, 49, 50, 51, 52, 53, 54, 55, 56, 57, 58, 59, 60, 61, 62, 63] (by decide +kernel) (by decide +kernel)
set_option maxRecDepth 20000 in
theorem gX3_find_X3_walk : GoodIn wsX3_find (wsV RX3 50 RX3 yX3_walk wsX3_walk) := goodIn_app (goodIn_of _ (by decide +kernel)) ggX3_find_X3_walk
theorem dX3_find_0 : decode cX3_find 0 = .ok (.aload_n 0, 1) := by decide +kernel
theorem dX3_find_1 : decode cX3_find 1 = .ok (.iload_n 3, 1) := by decide +kernel
theorem dX3_find_2 : decode cX3_find 2 = .ok (.putfield 43, 3) := by decide +kernel
theorem dX3_find_5 : decode cX3_find 5 = .ok (.aload_n 0, 1) := by decide +kernel
theorem dX3_find_6 : decode cX3_find 6 = .ok (.bipush (-6), 2) := by decide +kernel
theorem dX3_find_8 : decode cX3_find 8 = .ok (.putfield 35, 3) := by decide +kernel
theorem dX3_find_11 : decode cX3_find 11 = .ok (.aload_n 0, 1) := by decide +kernel
theorem dX3_find_12 : decode cX3_find 12 = .ok (.lconst 0, 1) := by decide +kernel
theorem dX3_find_13 : decode cX3_find 13 = .ok (.putfield 46, 3) := by decide +kernel
theorem dX3_find_16 : decode cX3_find 16 = .ok (.aload_n 0, 1) := by decide +kernel
theorem dX3_find_17 : decode cX3_find 17 = .ok (.aload_n 1, 1) := by decide +kernel
theorem dX3_find_18 : decode cX3_find 18 = .ok (.iload_n 2, 1) := by decide +kernel
theorem dX3_find_19 : decode cX3_find 19 = .ok (.iconst 0, 1) := by decide +kernel
theorem dX3_find_20 : decode cX3_find 20 = .ok (.iconst 1, 1) := by decide +kernel
theorem dX3_find_21 : decode cX3_find 21 = .ok (.iload_n 2, 1) := by decide +kernel
theorem dX3_find_22 : decode cX3_find 22 = .ok (.ishl, 1) := by decide +kernel
theorem dX3_find_23 : decode cX3_find 23 = .ok (.lload 4, 2) := by decide +kernel
theorem dX3_find_25 : decode cX3_find 25 = .ok (.invokevirtual 50, 3) := by decide +kernel
theorem dX3_find_28 : decode cX3_find 28 = .ok (.return_, 1) := by decide +kernel
set_option maxRecDepth 20000 in
theorem ggX3_walk_X3_keepIfBetter : GoodIn wsX3_walk wsX3_keepIfBetter := goodIn_r _ [6, 7, 8, 9, 10, 11, 12, 13, 5, 14, 15, 16, 17, 18, 19, 20, 45, 46, 47, 48, 49, 50, 51] (by decide +kernel) (by decide +kernel)
set_option maxRecDepth 20000 in
theorem gX3_walk_X3_keepIfBetter : GoodIn wsX3_walk (wsV RX3 54 RX3 yX3_keepIfBetter wsX3_keepIfBetter) := goodIn_app (goodIn_of _ (by decide +kernel)) ggX3_walk_X3_keepIfBetter
set_option maxRecDepth 20000 in
theorem ggX3_walk_X3_tread : GoodIn wsX3_walk wsX3_tread := goodIn_r _ [24, 25, 9, 26, 27, 28, 29, 30, 31, 32, 33, 34, 35, 16, 36, 37, 38, 39, 19, 20, 40, 41, 42, 43, 44, 5, 0, 1, 2, 3, 4, 6, 7, 8, 10, 11, 12, 13, 14, 15, 17, 18, 21, 22, 23, 45, 46, 47, 48, 49, 50, 51, 52, 53, 54, 55, 56, 57, 58, 59, 60, 61, 62] (by decide +kernel) (by decide +kernel)
set_option maxRecDepth 20000 in
theorem gX3_walk_X3_tread : GoodIn wsX3_walk (wsV RX3 58 RX3 yX3_tread wsX3_tread) := goodIn_app (goodIn_of _ (by decide +kernel)) ggX3_walk_X3_tread
theorem dX3_walk_0 : decode cX3_walk 0 = .ok (.iload_n 2, 1) := by decide +kernel
theorem dX3_walk_1 : decode cX3_walk 1 = .ok (.aload_n 0, 1) := by decide +kernel
theorem dX3_walk_2 : decode cX3_walk 2 = .ok (.getfield 43, 3) := by decide +kernel
theorem dX3_walk_5 : decode cX3_walk 5 = .ok (.if_icmp .ne 11, 3) := by decide +kernel
theorem dX3_walk_8 : decode cX3_walk 8 = .ok (.aload_n 0, 1) := by decide +kernel
theorem dX3_walk_9 : decode cX3_walk 9 = .ok (.iload_n 3, 1) := by decide +kernel
theorem dX3_walk_10 : decode cX3_walk 10 = .ok (.lload 5, 2) := by decide +kernel
theorem dX3_walk_12 : decode cX3_walk 12 = .ok (.invokevirtual 54, 3) := by decide +kernel
theorem dX3_walk_15 : decode cX3_walk 15 = .ok (.return_, 1) := by decide +kernel
theorem dX3_walk_16 : decode cX3_walk 16 = .ok (.iload_n 3, 1) := by decide +kernel
theorem dX3_walk_17 : decode cX3_walk 17 = .ok (.iconst 5, 1) := by decide +kernel
theorem dX3_walk_18 : decode cX3_walk 18 = .ok (.if_icmp .lt 4, 3) := by decide +kernel
theorem dX3_walk_21 : decode cX3_walk 21 = .ok (.return_, 1) := by decide +kernel
theorem dX3_walk_22 : decode cX3_walk 22 = .ok (.iconst 0, 1) := by decide +kernel
theorem dX3_walk_23 : decode cX3_walk 23 = .ok (.istore 7, 2) := by decide +kernel
theorem dX3_walk_25 : decode cX3_walk 25 = .ok (.iload 7, 2) := by decide +kernel
theorem dX3_walk_27 : decode cX3_walk 27 = .ok (.bipush 6, 2) := by decide +kernel
theorem dX3_walk_29 : decode cX3_walk 29 = .ok (.if_icmp .ge 22, 3) := by decide +kernel
theorem dX3_walk_32 : decode cX3_walk 32 = .ok (.aload_n 0, 1) := by decide +kernel
theorem dX3_walk_33 : decode cX3_walk 33 = .ok (.aload_n 1, 1) := by decide +kernel
theorem dX3_walk_34 : decode cX3_walk 34 = .ok (.iload 7, 2) := by decide +kernel
theorem dX3_walk_36 : decode cX3_walk 36 = .ok (.iload_n 2, 1) := by decide +kernel
theorem dX3_walk_37 : decode cX3_walk 37 = .ok (.iload_n 3, 1) := by decide +kernel
theorem dX3_walk_38 : decode cX3_walk 38 = .ok (.iload 4, 2) := by decide +kernel
theorem dX3_walk_40 : decode cX3_walk 40 = .ok (.lload 5, 2) := by decide +kernel
theorem dX3_walk_42 : decode cX3_walk 42 = .ok (.invokevirtual 58, 3) := by decide +kernel
theorem dX3_walk_45 : decode cX3_walk 45 = .ok (.iinc 7 1, 3) := by decide +kernel
theorem dX3_walk_48 : decode cX3_walk 48 = .ok (.goto (-23), 3) := by decide +kernel
theorem dX3_walk_51 : decode cX3_walk 51 = .ok (.return_, 1) := by decide +kernel
set_option maxRecDepth 20000 in
theorem ggX3_tread_X1_across : GoodIn wsX3_tread wsX1_across := goodIn_r _ [9, 10, 11, 12, 13, 14, 15, 16, 17, 18, 19, 52, 53, 54, 55, 56, 57, 58, 59, 60, 61, 62] (by decide +kernel) (by decide +kernel)
set_option maxRecDepth 20000 in
theorem gX3_tread_X1_across : GoodIn wsX3_tread (wsV RX3 62 RX1 yX1_across wsX1_across) := goodIn_app (goodIn_of _ (by decide +kernel)) ggX3_tread_X1_across
set_option maxRecDepth 20000 in
theorem ggX3_tread_X4_at : GoodIn wsX3_tread wsX4_at := goodIn_r _ [19] (by decide +kernel) (by decide +kernel)
set_option maxRecDepth 20000 in
theorem gX3_tread_X4_at_n39 : GoodIn wsX3_tread (wsX4_at) := ggX3_tread_X4_at
set_option maxRecDepth 20000 in
theorem ggX3_tread_X4_put : GoodIn wsX3_tread wsX4_put := goodIn_r _ [21] (by decide +kernel) (by decide +kernel)
set_option maxRecDepth 20000 in
theorem gX3_tread_X4_put_n21 : GoodIn wsX3_tread (wsX4_put) := ggX3_tread_X4_put
set_option maxRecDepth 20000 in
theorem ggX3_tread_X3_walk : GoodIn wsX3_tread wsX3_walk := goodIn_r _ [26, 27, 28, 29, 30, 25, 31, 32, 33, 2, 34, 35, 36, 37, 38, 39, 13, 40, 41, 18, 19, 42, 43, 44, 0, 1, 3, 4, 5, 6, 7, 8, 9, 10, 11, 12, 14, 15, 16, 17, 20, 21, 22, 23, 24, 45, 46, 47, 48, 49, 50, 51, 52, 53, 54, 55, 56, 57, 58, 59, 60, 61, 62] (by decide +kernel) (by decide +kernel)
set_option maxRecDepth 20000 in
theorem gX3_tread_X3_walk : GoodIn wsX3_tread (wsV RX3 50 RX3 yX3_walk wsX3_walk) := goodIn_app (goodIn_of _ (by decide +kernel)) ggX3_tread_X3_walk
theorem dX3_tread_0 : decode cX3_tread 0 = .ok (.aload_n 1, 1) := by decide +kernel
theorem dX3_tread_1 : decode cX3_tread 1 = .ok (.iload_n 2, 1) := by decide +kernel
theorem dX3_tread_2 : decode cX3_tread 2 = .ok (.iload_n 3, 1) := by decide +kernel
theorem dX3_tread_3 : decode cX3_tread 3 = .ok (.invokevirtual 62, 3) := by decide +kernel
theorem dX3_tread_6 : decode cX3_tread 6 = .ok (.istore 8, 2) := by decide +kernel
theorem dX3_tread_8 : decode cX3_tread 8 = .ok (.aload_n 0, 1) := by decide +kernel
theorem dX3_tread_9 : decode cX3_tread 9 = .ok (.getfield 9, 3) := by decide +kernel
theorem dX3_tread_12 : decode cX3_tread 12 = .ok (.iload_n 2, 1) := by decide +kernel
theorem dX3_tread_13 : decode cX3_tread 13 = .ok (.invokestatic 39, 3) := by decide +kernel
theorem dX3_tread_16 : decode cX3_tread 16 = .ok (.istore 9, 2) := by decide +kernel
theorem dX3_tread_18 : decode cX3_tread 18 = .ok (.iload 8, 2) := by decide +kernel
theorem dX3_tread_20 : decode cX3_tread 20 = .ok (.iconst (-1), 1) := by decide +kernel
theorem dX3_tread_21 : decode cX3_tread 21 = .ok (.if_icmp .eq 20, 3) := by decide +kernel
theorem dX3_tread_24 : decode cX3_tread 24 = .ok (.iload 9, 2) := by decide +kernel
theorem dX3_tread_26 : decode cX3_tread 26 = .ok (.iconst (-1), 1) := by decide +kernel
theorem dX3_tread_27 : decode cX3_tread 27 = .ok (.if_icmp .eq 14, 3) := by decide +kernel
theorem dX3_tread_30 : decode cX3_tread 30 = .ok (.iload 5, 2) := by decide +kernel
theorem dX3_tread_32 : decode cX3_tread 32 = .ok (.iload 8, 2) := by decide +kernel
theorem dX3_tread_34 : decode cX3_tread 34 = .ok (.ishr, 1) := by decide +kernel
theorem dX3_tread_35 : decode cX3_tread 35 = .ok (.iconst 1, 1) := by decide +kernel
theorem dX3_tread_36 : decode cX3_tread 36 = .ok (.iand, 1) := by decide +kernel
theorem dX3_tread_37 : decode cX3_tread 37 = .ok (.iconst 1, 1) := by decide +kernel
theorem dX3_tread_38 : decode cX3_tread 38 = .ok (.if_icmp .ne 4, 3) := by decide +kernel
theorem dX3_tread_41 : decode cX3_tread 41 = .ok (.return_, 1) := by decide +kernel
theorem dX3_tread_42 : decode cX3_tread 42 = .ok (.aload_n 0, 1) := by decide +kernel
theorem dX3_tread_43 : decode cX3_tread 43 = .ok (.getfield 15, 3) := by decide +kernel
theorem dX3_tread_46 : decode cX3_tread 46 = .ok (.iload 4, 2) := by decide +kernel
theorem dX3_tread_48 : decode cX3_tread 48 = .ok (.iload_n 2, 1) := by decide +kernel
theorem dX3_tread_49 : decode cX3_tread 49 = .ok (.invokestatic 21, 3) := by decide +kernel
theorem dX3_tread_52 : decode cX3_tread 52 = .ok (.aload_n 0, 1) := by decide +kernel
theorem dX3_tread_53 : decode cX3_tread 53 = .ok (.getfield 25, 3) := by decide +kernel
theorem dX3_tread_56 : decode cX3_tread 56 = .ok (.ifCond .eq 16, 3) := by decide +kernel
theorem dX3_tread_59 : decode cX3_tread 59 = .ok (.lload 6, 2) := by decide +kernel
theorem dX3_tread_61 : decode cX3_tread 61 = .ok (.iload 9, 2) := by decide +kernel
theorem dX3_tread_63 : decode cX3_tread 63 = .ok (.i2l, 1) := by decide +kernel
theorem dX3_tread_64 : decode cX3_tread 64 = .ok (.lmul, 1) := by decide +kernel
theorem dX3_tread_65 : decode cX3_tread 65 = .ok (.ldc2_w 68, 3) := by decide +kernel
theorem dX3_tread_68 : decode cX3_tread 68 = .ok (.ldiv, 1) := by decide +kernel
theorem dX3_tread_69 : decode cX3_tread 69 = .ok (.goto 9, 3) := by decide +kernel
theorem dX3_tread_72 : decode cX3_tread 72 = .ok (.lload 6, 2) := by decide +kernel
theorem dX3_tread_74 : decode cX3_tread 74 = .ok (.iload 9, 2) := by decide +kernel
theorem dX3_tread_76 : decode cX3_tread 76 = .ok (.i2l, 1) := by decide +kernel
theorem dX3_tread_77 : decode cX3_tread 77 = .ok (.lsub, 1) := by decide +kernel
theorem dX3_tread_78 : decode cX3_tread 78 = .ok (.lstore 10, 2) := by decide +kernel
theorem dX3_tread_80 : decode cX3_tread 80 = .ok (.aload_n 0, 1) := by decide +kernel
theorem dX3_tread_81 : decode cX3_tread 81 = .ok (.aload_n 1, 1) := by decide +kernel
theorem dX3_tread_82 : decode cX3_tread 82 = .ok (.iload 8, 2) := by decide +kernel
theorem dX3_tread_84 : decode cX3_tread 84 = .ok (.iload 4, 2) := by decide +kernel
theorem dX3_tread_86 : decode cX3_tread 86 = .ok (.iconst 1, 1) := by decide +kernel
theorem dX3_tread_87 : decode cX3_tread 87 = .ok (.iadd, 1) := by decide +kernel
theorem dX3_tread_88 : decode cX3_tread 88 = .ok (.iload 5, 2) := by decide +kernel
theorem dX3_tread_90 : decode cX3_tread 90 = .ok (.iconst 1, 1) := by decide +kernel
theorem dX3_tread_91 : decode cX3_tread 91 = .ok (.iload 8, 2) := by decide +kernel
theorem dX3_tread_93 : decode cX3_tread 93 = .ok (.ishl, 1) := by decide +kernel
theorem dX3_tread_94 : decode cX3_tread 94 = .ok (.ior, 1) := by decide +kernel
theorem dX3_tread_95 : decode cX3_tread 95 = .ok (.lload 10, 2) := by decide +kernel
theorem dX3_tread_97 : decode cX3_tread 97 = .ok (.invokevirtual 50, 3) := by decide +kernel
theorem dX3_tread_100 : decode cX3_tread 100 = .ok (.return_, 1) := by decide +kernel
set_option maxRecDepth 20000 in
theorem ggX3_keepIfBetter_X3_found : GoodIn wsX3_keepIfBetter wsX3_found := goodIn_r _ [9, 2, 16, 17, 18, 19, 20, 21, 22] (by decide +kernel) (by decide +kernel)
set_option maxRecDepth 20000 in
theorem gX3_keepIfBetter_X3_found : GoodIn wsX3_keepIfBetter (wsV RX3 70 RX3 yX3_found wsX3_found) := goodIn_app (goodIn_of _ (by decide +kernel)) ggX3_keepIfBetter_X3_found
set_option maxRecDepth 20000 in
theorem ggX3_keepIfBetter_X4_copy : GoodIn wsX3_keepIfBetter wsX4_copy := goodIn_r _ [12, 13, 14, 11, 15] (by decide +kernel) (by decide +kernel)
set_option maxRecDepth 20000 in
theorem gX3_keepIfBetter_X4_copy_n74 : GoodIn wsX3_keepIfBetter (wsX4_copy) := ggX3_keepIfBetter_X4_copy
theorem dX3_keepIfBetter_0 : decode cX3_keepIfBetter 0 = .ok (.aload_n 0, 1) := by decide +kernel
theorem dX3_keepIfBetter_1 : decode cX3_keepIfBetter 1 = .ok (.invokevirtual 70, 3) := by decide +kernel
theorem dX3_keepIfBetter_4 : decode cX3_keepIfBetter 4 = .ok (.ifCond .eq 30, 3) := by decide +kernel
theorem dX3_keepIfBetter_7 : decode cX3_keepIfBetter 7 = .ok (.lload_n 2, 1) := by decide +kernel
theorem dX3_keepIfBetter_8 : decode cX3_keepIfBetter 8 = .ok (.aload_n 0, 1) := by decide +kernel
theorem dX3_keepIfBetter_9 : decode cX3_keepIfBetter 9 = .ok (.getfield 46, 3) := by decide +kernel
theorem dX3_keepIfBetter_12 : decode cX3_keepIfBetter 12 = .ok (.lcmp, 1) := by decide +kernel
theorem dX3_keepIfBetter_13 : decode cX3_keepIfBetter 13 = .ok (.ifCond .lt 20, 3) := by decide +kernel
theorem dX3_keepIfBetter_16 : decode cX3_keepIfBetter 16 = .ok (.lload_n 2, 1) := by decide +kernel
theorem dX3_keepIfBetter_17 : decode cX3_keepIfBetter 17 = .ok (.aload_n 0, 1) := by decide +kernel
theorem dX3_keepIfBetter_18 : decode cX3_keepIfBetter 18 = .ok (.getfield 46, 3) := by decide +kernel
theorem dX3_keepIfBetter_21 : decode cX3_keepIfBetter 21 = .ok (.lcmp, 1) := by decide +kernel
theorem dX3_keepIfBetter_22 : decode cX3_keepIfBetter 22 = .ok (.ifCond .ne 12, 3) := by decide +kernel
theorem dX3_keepIfBetter_25 : decode cX3_keepIfBetter 25 = .ok (.iload_n 1, 1) := by decide +kernel
theorem dX3_keepIfBetter_26 : decode cX3_keepIfBetter 26 = .ok (.aload_n 0, 1) := by decide +kernel
theorem dX3_keepIfBetter_27 : decode cX3_keepIfBetter 27 = .ok (.getfield 35, 3) := by decide +kernel
theorem dX3_keepIfBetter_30 : decode cX3_keepIfBetter 30 = .ok (.if_icmp .lt 4, 3) := by decide +kernel
theorem dX3_keepIfBetter_33 : decode cX3_keepIfBetter 33 = .ok (.return_, 1) := by decide +kernel
theorem dX3_keepIfBetter_34 : decode cX3_keepIfBetter 34 = .ok (.aload_n 0, 1) := by decide +kernel
theorem dX3_keepIfBetter_35 : decode cX3_keepIfBetter 35 = .ok (.iload_n 1, 1) := by decide +kernel
theorem dX3_keepIfBetter_36 : decode cX3_keepIfBetter 36 = .ok (.putfield 35, 3) := by decide +kernel
theorem dX3_keepIfBetter_39 : decode cX3_keepIfBetter 39 = .ok (.aload_n 0, 1) := by decide +kernel
theorem dX3_keepIfBetter_40 : decode cX3_keepIfBetter 40 = .ok (.lload_n 2, 1) := by decide +kernel
theorem dX3_keepIfBetter_41 : decode cX3_keepIfBetter 41 = .ok (.putfield 46, 3) := by decide +kernel
theorem dX3_keepIfBetter_44 : decode cX3_keepIfBetter 44 = .ok (.aload_n 0, 1) := by decide +kernel
theorem dX3_keepIfBetter_45 : decode cX3_keepIfBetter 45 = .ok (.getfield 15, 3) := by decide +kernel
theorem dX3_keepIfBetter_48 : decode cX3_keepIfBetter 48 = .ok (.aload_n 0, 1) := by decide +kernel
theorem dX3_keepIfBetter_49 : decode cX3_keepIfBetter 49 = .ok (.getfield 18, 3) := by decide +kernel
theorem dX3_keepIfBetter_52 : decode cX3_keepIfBetter 52 = .ok (.invokestatic 74, 3) := by decide +kernel
theorem dX3_keepIfBetter_55 : decode cX3_keepIfBetter 55 = .ok (.return_, 1) := by decide +kernel
set_option maxRecDepth 20000 in
theorem ggX4_init_X1_init : GoodIn wsX4_init wsX1_init := goodIn_r _ [26, 27, 2, 3, 21, 28, 29, 30, 31, 32, 33, 34, 35, 36, 18, 19, 37, 38, 39, 40, 41, 42, 43, 44, 45, 6, 46, 47, 48, 49, 50, 51, 52, 53, 54, 55, 56, 57, 58, 59, 74, 75, 76, 77, 78, 79, 80, 81, 82, 83, 84, 107] (by decide +kernel) (by decide +kernel)
set_option maxRecDepth 20000 in
theorem gX4_init_X1_init : GoodIn wsX4_init (wsX1_init) := ggX4_init_X1_init
set_option maxRecDepth 20000 in
theorem ggX4_init_X2_init : GoodIn wsX4_init wsX2_init := goodIn_r _ [61, 62, 2, 3, 21, 63, 64, 65, 66, 67, 92, 93, 94, 95, 96, 97, 98, 99] (by decide +kernel) (by decide +kernel)
set_option maxRecDepth 20000 in
theorem gX4_init_X2_init_n22 : GoodIn wsX4_init (wsX2_init) := ggX4_init_X2_init
set_option maxRecDepth 20000 in
theorem ggX4_init_X3_init : GoodIn wsX4_init wsX3_init := goodIn_r _ [69, 70, 2, 3, 21, 71, 72, 73, 100, 101, 102, 103, 104, 105, 106] (by decide +kernel) (by decide +kernel)
set_option maxRecDepth 20000 in
theorem gX4_init_X3_init_n29 : GoodIn wsX4_init (wsX3_init) := ggX4_init_X3_init
set_option maxRecDepth 20000 in
theorem ggX4_init_X0_init : GoodIn wsX4_init wsX0_init := goodIn_r _ [40, 41, 2, 3, 21, 42, 107] (by decide +kernel) (by decide +kernel)
set_option maxRecDepth 20000 in
theorem gX4_init_X0_init_n36 : GoodIn wsX4_init (wsX0_init) := ggX4_init_X0_init
theorem dX4_init_0 : decode cX4_init 0 = .ok (.aload_n 0, 1) := by decide +kernel
theorem dX4_init_1 : decode cX4_init 1 = .ok (.invokespecial 1, 3) := by decide +kernel
theorem dX4_init_4 : decode cX4_init 4 = .ok (.aload_n 0, 1) := by decide +kernel
theorem dX4_init_5 : decode cX4_init 5 = .ok (.new 7, 3) := by decide +kernel
theorem dX4_init_8 : decode cX4_init 8 = .ok (.dup, 1) := by decide +kernel
theorem dX4_init_9 : decode cX4_init 9 = .ok (.invokespecial 9, 3) := by decide +kernel
theorem dX4_init_12 : decode cX4_init 12 = .ok (.putfield 10, 3) := by decide +kernel
end
section
theorem dX4_init_15 : decode cX4_init 15 = .ok (.aload_n 0, 1) := by decide +kernel
theorem dX4_init_16 : decode cX4_init 16 = .ok (.iconst 2, 1) := by decide +kernel
theorem dX4_init_17 : decode cX4_init 17 = .ok (.anewarray 7, 3) := by decide +kernel
theorem dX4_init_20 : decode cX4_init 20 = .ok (.putfield 16, 3) := by decide +kernel
theorem dX4_init_23 : decode cX4_init 23 = .ok (.aload_n 0, 1) := by decide +kernel
theorem dX4_init_24 : decode cX4_init 24 = .ok (.new 20, 3) := by decide +kernel
theorem dX4_init_27 : decode cX4_init 27 = .ok (.dup, 1) := by decide +kernel
theorem dX4_init_28 : decode cX4_init 28 = .ok (.invokespecial 22, 3) := by decide +kernel
theorem dX4_init_31 : decode cX4_init 31 = .ok (.putfield 23, 3) := by decide +kernel
theorem dX4_init_34 : decode cX4_init 34 = .ok (.aload_n 0, 1) := by decide +kernel
theorem dX4_init_35 : decode cX4_init 35 = .ok (.new 27, 3) := by decide +kernel
theorem dX4_init_38 : decode cX4_init 38 = .ok (.dup, 1) := by decide +kernel
theorem dX4_init_39 : decode cX4_init 39 = .ok (.invokespecial 29, 3) := by decide +kernel
theorem dX4_init_42 : decode cX4_init 42 = .ok (.putfield 30, 3) := by decide +kernel
theorem dX4_init_45 : decode cX4_init 45 = .ok (.aload_n 0, 1) := by decide +kernel
theorem dX4_init_46 : decode cX4_init 46 = .ok (.new 34, 3) := by decide +kernel
theorem dX4_init_49 : decode cX4_init 49 = .ok (.dup, 1) := by decide +kernel
theorem dX4_init_50 : decode cX4_init 50 = .ok (.invokespecial 36, 3) := by decide +kernel
theorem dX4_init_53 : decode cX4_init 53 = .ok (.putfield 37, 3) := by decide +kernel
theorem dX4_init_56 : decode cX4_init 56 = .ok (.aload_n 0, 1) := by decide +kernel
theorem dX4_init_57 : decode cX4_init 57 = .ok (.iconst 3, 1) := by decide +kernel
theorem dX4_init_58 : decode cX4_init 58 = .ok (.newarray .int, 2) := by decide +kernel
theorem dX4_init_60 : decode cX4_init 60 = .ok (.putfield 41, 3) := by decide +kernel
theorem dX4_init_63 : decode cX4_init 63 = .ok (.aload_n 0, 1) := by decide +kernel
theorem dX4_init_64 : decode cX4_init 64 = .ok (.bipush 6, 2) := by decide +kernel
theorem dX4_init_66 : decode cX4_init 66 = .ok (.newarray .int, 2) := by decide +kernel
theorem dX4_init_68 : decode cX4_init 68 = .ok (.putfield 45, 3) := by decide +kernel
theorem dX4_init_71 : decode cX4_init 71 = .ok (.return_, 1) := by decide +kernel
set_option maxRecDepth 20000 in
theorem ggX4_plank_X4_isPlank : GoodIn wsX4_plank wsX4_isPlank := goodIn_r _ [5, 6, 7, 4, 8] (by decide +kernel) (by decide +kernel)
set_option maxRecDepth 20000 in
theorem gX4_plank_X4_isPlank : GoodIn wsX4_plank (va_wsS RX4 48 yX4_isPlank wsX4_isPlank) := goodIn_app (goodIn_of _ (by decide +kernel)) ggX4_plank_X4_isPlank
set_option maxRecDepth 20000 in
theorem ggX4_plank_X4_isIsland : GoodIn wsX4_plank wsX4_isIsland := goodIn_r _ [11, 6, 7, 4, 8] (by decide +kernel) (by decide +kernel)
set_option maxRecDepth 20000 in
theorem gX4_plank_X4_isIsland : GoodIn wsX4_plank (va_wsS RX4 52 yX4_isIsland wsX4_isIsland) := goodIn_app (goodIn_of _ (by decide +kernel)) ggX4_plank_X4_isIsland
set_option maxRecDepth 20000 in
theorem ggX4_plank_X4_isPerson : GoodIn wsX4_plank wsX4_isPerson := goodIn_r _ [14, 6, 7, 4, 8] (by decide +kernel) (by decide +kernel)
set_option maxRecDepth 20000 in
theorem gX4_plank_X4_isPerson : GoodIn wsX4_plank (va_wsS RX4 55 yX4_isPerson wsX4_isPerson) := goodIn_app (goodIn_of _ (by decide +kernel)) ggX4_plank_X4_isPerson
set_option maxRecDepth 20000 in
theorem ggX4_plank_X1_lay : GoodIn wsX4_plank wsX1_lay := goodIn_r _ [19, 20, 21, 22, 23, 24, 25, 4, 26, 27, 28, 29, 30, 31, 32, 33, 34, 35, 36, 37, 38, 46, 47, 48, 49, 50, 51, 52, 53, 54, 55, 56, 57] (by decide +kernel) (by decide +kernel)
set_option maxRecDepth 20000 in
theorem gX4_plank_X1_lay : GoodIn wsX4_plank (wsV RX4 58 RX1 yX1_lay wsX1_lay) := goodIn_app (goodIn_of _ (by decide +kernel)) ggX4_plank_X1_lay
theorem dX4_plank_0 : decode cX4_plank 0 = .ok (.iload_n 1, 1) := by decide +kernel
theorem dX4_plank_1 : decode cX4_plank 1 = .ok (.invokestatic 48, 3) := by decide +kernel
theorem dX4_plank_4 : decode cX4_plank 4 = .ok (.ifCond .eq 30, 3) := by decide +kernel
theorem dX4_plank_7 : decode cX4_plank 7 = .ok (.iload_n 2, 1) := by decide +kernel
theorem dX4_plank_8 : decode cX4_plank 8 = .ok (.invokestatic 52, 3) := by decide +kernel
theorem dX4_plank_11 : decode cX4_plank 11 = .ok (.ifCond .eq 23, 3) := by decide +kernel
theorem dX4_plank_14 : decode cX4_plank 14 = .ok (.iload_n 3, 1) := by decide +kernel
theorem dX4_plank_15 : decode cX4_plank 15 = .ok (.invokestatic 52, 3) := by decide +kernel
theorem dX4_plank_18 : decode cX4_plank 18 = .ok (.ifCond .eq 16, 3) := by decide +kernel
theorem dX4_plank_21 : decode cX4_plank 21 = .ok (.iload 4, 2) := by decide +kernel
theorem dX4_plank_23 : decode cX4_plank 23 = .ok (.invokestatic 55, 3) := by decide +kernel
theorem dX4_plank_26 : decode cX4_plank 26 = .ok (.ifCond .eq 8, 3) := by decide +kernel
theorem dX4_plank_29 : decode cX4_plank 29 = .ok (.iload_n 2, 1) := by decide +kernel
theorem dX4_plank_30 : decode cX4_plank 30 = .ok (.iload_n 3, 1) := by decide +kernel
theorem dX4_plank_31 : decode cX4_plank 31 = .ok (.if_icmp .ne 5, 3) := by decide +kernel
theorem dX4_plank_34 : decode cX4_plank 34 = .ok (.iconst (-1), 1) := by decide +kernel
theorem dX4_plank_35 : decode cX4_plank 35 = .ok (.ireturn, 1) := by decide +kernel
theorem dX4_plank_36 : decode cX4_plank 36 = .ok (.aload_n 0, 1) := by decide +kernel
theorem dX4_plank_37 : decode cX4_plank 37 = .ok (.getfield 10, 3) := by decide +kernel
theorem dX4_plank_40 : decode cX4_plank 40 = .ok (.iload_n 1, 1) := by decide +kernel
theorem dX4_plank_41 : decode cX4_plank 41 = .ok (.iload_n 2, 1) := by decide +kernel
theorem dX4_plank_42 : decode cX4_plank 42 = .ok (.iload_n 3, 1) := by decide +kernel
theorem dX4_plank_43 : decode cX4_plank 43 = .ok (.iload 4, 2) := by decide +kernel
theorem dX4_plank_45 : decode cX4_plank 45 = .ok (.invokevirtual 58, 3) := by decide +kernel
theorem dX4_plank_48 : decode cX4_plank 48 = .ok (.iconst 1, 1) := by decide +kernel
theorem dX4_plank_49 : decode cX4_plank 49 = .ok (.ireturn, 1) := by decide +kernel
set_option maxRecDepth 20000 in
theorem ggX4_trust_X4_isPerson : GoodIn wsX4_trust wsX4_isPerson := goodIn_r _ [6, 7, 8, 5, 9] (by decide +kernel) (by decide +kernel)
set_option maxRecDepth 20000 in
theorem gX4_trust_X4_isPerson : GoodIn wsX4_trust (va_wsS RX4 55 yX4_isPerson wsX4_isPerson) := goodIn_app (goodIn_of _ (by decide +kernel)) ggX4_trust_X4_isPerson
set_option maxRecDepth 20000 in
theorem ggX4_trust_X4_putBit : GoodIn wsX4_trust wsX4_putBit := goodIn_r _ [12, 13, 14, 5, 15, 16, 17, 18] (by decide +kernel) (by decide +kernel)
set_option maxRecDepth 20000 in
theorem gX4_trust_X4_putBit : GoodIn wsX4_trust (va_wsS RX4 65 yX4_putBit wsX4_putBit) := goodIn_app (goodIn_of _ (by decide +kernel)) ggX4_trust_X4_putBit
theorem dX4_trust_0 : decode cX4_trust 0 = .ok (.iload_n 1, 1) := by decide +kernel
theorem dX4_trust_1 : decode cX4_trust 1 = .ok (.invokestatic 55, 3) := by decide +kernel
theorem dX4_trust_4 : decode cX4_trust 4 = .ok (.ifCond .eq 15, 3) := by decide +kernel
theorem dX4_trust_7 : decode cX4_trust 7 = .ok (.iload_n 2, 1) := by decide +kernel
theorem dX4_trust_8 : decode cX4_trust 8 = .ok (.invokestatic 55, 3) := by decide +kernel
theorem dX4_trust_11 : decode cX4_trust 11 = .ok (.ifCond .eq 8, 3) := by decide +kernel
theorem dX4_trust_14 : decode cX4_trust 14 = .ok (.iload_n 1, 1) := by decide +kernel
theorem dX4_trust_15 : decode cX4_trust 15 = .ok (.iload_n 2, 1) := by decide +kernel
theorem dX4_trust_16 : decode cX4_trust 16 = .ok (.if_icmp .ne 5, 3) := by decide +kernel
theorem dX4_trust_19 : decode cX4_trust 19 = .ok (.iconst (-1), 1) := by decide +kernel
theorem dX4_trust_20 : decode cX4_trust 20 = .ok (.ireturn, 1) := by decide +kernel
theorem dX4_trust_21 : decode cX4_trust 21 = .ok (.aload_n 0, 1) := by decide +kernel
theorem dX4_trust_22 : decode cX4_trust 22 = .ok (.getfield 10, 3) := by decide +kernel
theorem dX4_trust_25 : decode cX4_trust 25 = .ok (.getfield 62, 3) := by decide +kernel
theorem dX4_trust_28 : decode cX4_trust 28 = .ok (.iload_n 1, 1) := by decide +kernel
theorem dX4_trust_29 : decode cX4_trust 29 = .ok (.iload_n 2, 1) := by decide +kernel
theorem dX4_trust_30 : decode cX4_trust 30 = .ok (.iload_n 3, 1) := by decide +kernel
theorem dX4_trust_31 : decode cX4_trust 31 = .ok (.invokestatic 65, 3) := by decide +kernel
theorem dX4_trust_34 : decode cX4_trust 34 = .ok (.iconst 1, 1) := by decide +kernel
theorem dX4_trust_35 : decode cX4_trust 35 = .ok (.ireturn, 1) := by decide +kernel
set_option maxRecDepth 20000 in
theorem ggX4_know_X4_isPerson : GoodIn wsX4_know wsX4_isPerson := goodIn_r _ [7, 8, 9, 6, 10] (by decide +kernel) (by decide +kernel)
set_option maxRecDepth 20000 in
theorem gX4_know_X4_isPerson : GoodIn wsX4_know (va_wsS RX4 55 yX4_isPerson wsX4_isPerson) := goodIn_app (goodIn_of _ (by decide +kernel)) ggX4_know_X4_isPerson
set_option maxRecDepth 20000 in
theorem ggX4_know_X4_isPlank : GoodIn wsX4_know wsX4_isPlank := goodIn_r _ [13, 8, 9, 6, 10] (by decide +kernel) (by decide +kernel)
set_option maxRecDepth 20000 in
theorem gX4_know_X4_isPlank : GoodIn wsX4_know (va_wsS RX4 48 yX4_isPlank wsX4_isPlank) := goodIn_app (goodIn_of _ (by decide +kernel)) ggX4_know_X4_isPlank
set_option maxRecDepth 20000 in
theorem ggX4_know_X4_putBit : GoodIn wsX4_know wsX4_putBit := goodIn_r _ [16, 17, 18, 6, 19, 20, 21, 22] (by decide +kernel) (by decide +kernel)
set_option maxRecDepth 20000 in
theorem gX4_know_X4_putBit : GoodIn wsX4_know (va_wsS RX4 65 yX4_putBit wsX4_putBit) := goodIn_app (goodIn_of _ (by decide +kernel)) ggX4_know_X4_putBit
set_option maxRecDepth 20000 in
theorem ggX4_know_X0_set : GoodIn wsX4_know wsX0_set := goodIn_r _ [27, 28, 21, 6, 22, 47] (by decide +kernel) (by decide +kernel)
set_option maxRecDepth 20000 in
theorem gX4_know_X0_set : GoodIn wsX4_know (wsV RX4 75 RX0 yX0_set wsX0_set) := goodIn_app (goodIn_of _ (by decide +kernel)) ggX4_know_X0_set
theorem dX4_know_0 : decode cX4_know 0 = .ok (.iload_n 1, 1) := by decide +kernel
theorem dX4_know_1 : decode cX4_know 1 = .ok (.invokestatic 55, 3) := by decide +kernel
theorem dX4_know_4 : decode cX4_know 4 = .ok (.ifCond .eq 10, 3) := by decide +kernel
theorem dX4_know_7 : decode cX4_know 7 = .ok (.iload_n 2, 1) := by decide +kernel
theorem dX4_know_8 : decode cX4_know 8 = .ok (.invokestatic 48, 3) := by decide +kernel
theorem dX4_know_11 : decode cX4_know 11 = .ok (.ifCond .ne 5, 3) := by decide +kernel
theorem dX4_know_14 : decode cX4_know 14 = .ok (.iconst (-1), 1) := by decide +kernel
theorem dX4_know_15 : decode cX4_know 15 = .ok (.ireturn, 1) := by decide +kernel
theorem dX4_know_16 : decode cX4_know 16 = .ok (.aload_n 0, 1) := by decide +kernel
theorem dX4_know_17 : decode cX4_know 17 = .ok (.getfield 10, 3) := by decide +kernel
theorem dX4_know_20 : decode cX4_know 20 = .ok (.getfield 69, 3) := by decide +kernel
theorem dX4_know_23 : decode cX4_know 23 = .ok (.iload_n 1, 1) := by decide +kernel
theorem dX4_know_24 : decode cX4_know 24 = .ok (.iload_n 2, 1) := by decide +kernel
theorem dX4_know_25 : decode cX4_know 25 = .ok (.iload_n 3, 1) := by decide +kernel
theorem dX4_know_26 : decode cX4_know 26 = .ok (.invokestatic 65, 3) := by decide +kernel
theorem dX4_know_29 : decode cX4_know 29 = .ok (.iload_n 3, 1) := by decide +kernel
theorem dX4_know_30 : decode cX4_know 30 = .ok (.ifCond .eq 16, 3) := by decide +kernel
theorem dX4_know_33 : decode cX4_know 33 = .ok (.aload_n 0, 1) := by decide +kernel
theorem dX4_know_34 : decode cX4_know 34 = .ok (.getfield 10, 3) := by decide +kernel
theorem dX4_know_37 : decode cX4_know 37 = .ok (.getfield 72, 3) := by decide +kernel
theorem dX4_know_40 : decode cX4_know 40 = .ok (.iload_n 2, 1) := by decide +kernel
theorem dX4_know_41 : decode cX4_know 41 = .ok (.iload_n 1, 1) := by decide +kernel
theorem dX4_know_42 : decode cX4_know 42 = .ok (.iconst 0, 1) := by decide +kernel
theorem dX4_know_43 : decode cX4_know 43 = .ok (.invokevirtual 75, 3) := by decide +kernel
theorem dX4_know_46 : decode cX4_know 46 = .ok (.iconst 1, 1) := by decide +kernel
theorem dX4_know_47 : decode cX4_know 47 = .ok (.ireturn, 1) := by decide +kernel
set_option maxRecDepth 20000 in
theorem ggX4_fade_X4_within : GoodIn wsX4_fade wsX4_within := goodIn_r _ [6] (by decide +kernel) (by decide +kernel)
set_option maxRecDepth 20000 in
theorem gX4_fade_X4_within : GoodIn wsX4_fade (va_wsS RX4 79 yX4_within wsX4_within) := goodIn_app (goodIn_of _ (by decide +kernel)) ggX4_fade_X4_within
theorem dX4_fade_0 : decode cX4_fade 0 = .ok (.iload_n 1, 1) := by decide +kernel
theorem dX4_fade_1 : decode cX4_fade 1 = .ok (.iconst 1, 1) := by decide +kernel
theorem dX4_fade_2 : decode cX4_fade 2 = .ok (.bipush 9, 2) := by decide +kernel
theorem dX4_fade_4 : decode cX4_fade 4 = .ok (.invokestatic 79, 3) := by decide +kernel
theorem dX4_fade_7 : decode cX4_fade 7 = .ok (.ifCond .ne 6, 3) := by decide +kernel
theorem dX4_fade_10 : decode cX4_fade 10 = .ok (.bipush (-2), 2) := by decide +kernel
theorem dX4_fade_12 : decode cX4_fade 12 = .ok (.ireturn, 1) := by decide +kernel
theorem dX4_fade_13 : decode cX4_fade 13 = .ok (.aload_n 0, 1) := by decide +kernel
theorem dX4_fade_14 : decode cX4_fade 14 = .ok (.getfield 10, 3) := by decide +kernel
theorem dX4_fade_17 : decode cX4_fade 17 = .ok (.getfield 83, 3) := by decide +kernel
theorem dX4_fade_20 : decode cX4_fade 20 = .ok (.istore_n 2, 1) := by decide +kernel
theorem dX4_fade_21 : decode cX4_fade 21 = .ok (.aload_n 0, 1) := by decide +kernel
theorem dX4_fade_22 : decode cX4_fade 22 = .ok (.getfield 10, 3) := by decide +kernel
theorem dX4_fade_25 : decode cX4_fade 25 = .ok (.iload_n 1, 1) := by decide +kernel
theorem dX4_fade_26 : decode cX4_fade 26 = .ok (.putfield 83, 3) := by decide +kernel
theorem dX4_fade_29 : decode cX4_fade 29 = .ok (.iload_n 2, 1) := by decide +kernel
theorem dX4_fade_30 : decode cX4_fade 30 = .ok (.ireturn, 1) := by decide +kernel
set_option maxRecDepth 20000 in
theorem ggX4_say_X4_within : GoodIn wsX4_say wsX4_within := goodIn_r _ [6] (by decide +kernel) (by decide +kernel)
set_option maxRecDepth 20000 in
theorem gX4_say_X4_within : GoodIn wsX4_say (va_wsS RX4 79 yX4_within wsX4_within) := goodIn_app (goodIn_of _ (by decide +kernel)) ggX4_say_X4_within
set_option maxRecDepth 20000 in
theorem ggX4_say_X2_add : GoodIn wsX4_say wsX2_add := goodIn_r _ [11, 12, 13, 14, 5, 15, 23, 24, 25, 26, 27, 28, 29, 30] (by decide +kernel) (by decide +kernel)
set_option maxRecDepth 20000 in
theorem gX4_say_X2_add : GoodIn wsX4_say (wsV RX4 87 RX2 yX2_add wsX2_add) := goodIn_app (goodIn_of _ (by decide +kernel)) ggX4_say_X2_add
theorem dX4_say_0 : decode cX4_say 0 = .ok (.iload_n 1, 1) := by decide +kernel
theorem dX4_say_1 : decode cX4_say 1 = .ok (.bipush 33, 2) := by decide +kernel
theorem dX4_say_3 : decode cX4_say 3 = .ok (.bipush 126, 2) := by decide +kernel
theorem dX4_say_5 : decode cX4_say 5 = .ok (.invokestatic 79, 3) := by decide +kernel
theorem dX4_say_8 : decode cX4_say 8 = .ok (.ifCond .ne 6, 3) := by decide +kernel
theorem dX4_say_11 : decode cX4_say 11 = .ok (.bipush (-2), 2) := by decide +kernel
theorem dX4_say_13 : decode cX4_say 13 = .ok (.ireturn, 1) := by decide +kernel
theorem dX4_say_14 : decode cX4_say 14 = .ok (.aload_n 0, 1) := by decide +kernel
theorem dX4_say_15 : decode cX4_say 15 = .ok (.getfield 23, 3) := by decide +kernel
theorem dX4_say_18 : decode cX4_say 18 = .ok (.iload_n 1, 1) := by decide +kernel
theorem dX4_say_19 : decode cX4_say 19 = .ok (.invokevirtual 87, 3) := by decide +kernel
theorem dX4_say_22 : decode cX4_say 22 = .ok (.ifCond .eq 13, 3) := by decide +kernel
theorem dX4_say_25 : decode cX4_say 25 = .ok (.aload_n 0, 1) := by decide +kernel
theorem dX4_say_26 : decode cX4_say 26 = .ok (.getfield 23, 3) := by decide +kernel
theorem dX4_say_29 : decode cX4_say 29 = .ok (.getfield 90, 3) := by decide +kernel
theorem dX4_say_32 : decode cX4_say 32 = .ok (.goto 5, 3) := by decide +kernel
theorem dX4_say_35 : decode cX4_say 35 = .ok (.bipush (-4), 2) := by decide +kernel
theorem dX4_say_37 : decode cX4_say 37 = .ok (.ireturn, 1) := by decide +kernel
set_option maxRecDepth 20000 in
theorem ggX4_wipe_X2_clear : GoodIn wsX4_wipe wsX2_clear := goodIn_r _ [7, 8, 16, 17, 18, 19, 20, 21, 22, 23] (by decide +kernel) (by decide +kernel)
set_option maxRecDepth 20000 in
theorem gX4_wipe_X2_clear : GoodIn wsX4_wipe (wsV RX4 93 RX2 yX2_clear wsX2_clear) := goodIn_app (goodIn_of _ (by decide +kernel)) ggX4_wipe_X2_clear
theorem dX4_wipe_0 : decode cX4_wipe 0 = .ok (.aload_n 0, 1) := by decide +kernel
theorem dX4_wipe_1 : decode cX4_wipe 1 = .ok (.getfield 23, 3) := by decide +kernel
theorem dX4_wipe_4 : decode cX4_wipe 4 = .ok (.getfield 90, 3) := by decide +kernel
theorem dX4_wipe_7 : decode cX4_wipe 7 = .ok (.istore_n 1, 1) := by decide +kernel
theorem dX4_wipe_8 : decode cX4_wipe 8 = .ok (.aload_n 0, 1) := by decide +kernel
theorem dX4_wipe_9 : decode cX4_wipe 9 = .ok (.getfield 23, 3) := by decide +kernel
theorem dX4_wipe_12 : decode cX4_wipe 12 = .ok (.invokevirtual 93, 3) := by decide +kernel
theorem dX4_wipe_15 : decode cX4_wipe 15 = .ok (.iload_n 1, 1) := by decide +kernel
theorem dX4_wipe_16 : decode cX4_wipe 16 = .ok (.ireturn, 1) := by decide +kernel
set_option maxRecDepth 20000 in
theorem ggX4_fault_X2_read : GoodIn wsX4_fault wsX2_read := goodIn_r _ [6, 7, 8, 9, 10, 11, 12, 13, 14, 15, 16, 5, 17, 18, 19, 20, 21, 22, 23, 24, 25, 26, 27, 28, 29, 30, 31, 32, 33, 34, 35, 36, 37, 38, 39, 40, 41, 42, 43, 44, 45, 46, 47, 48, 49, 50, 58, 59, 60, 61, 62, 63, 64, 65] (by decide +kernel) (by decide +kernel)
set_option maxRecDepth 20000 in
theorem gX4_fault_X2_read : GoodIn wsX4_fault (wsV RX4 96 RX2 yX2_read wsX2_read) := goodIn_app (goodIn_of _ (by decide +kernel)) ggX4_fault_X2_read
theorem dX4_fault_0 : decode cX4_fault 0 = .ok (.aload_n 0, 1) := by decide +kernel
theorem dX4_fault_1 : decode cX4_fault 1 = .ok (.getfield 23, 3) := by decide +kernel
theorem dX4_fault_4 : decode cX4_fault 4 = .ok (.invokevirtual 96, 3) := by decide +kernel
theorem dX4_fault_7 : decode cX4_fault 7 = .ok (.ireturn, 1) := by decide +kernel
set_option maxRecDepth 20000 in
theorem ggX4_vain_X4_refusalOfText : GoodIn wsX4_vain wsX4_refusalOfText := goodIn_r _ [10, 4, 11, 12, 13, 14, 15, 16, 17, 18, 19, 20, 21, 9, 22, 23, 24, 25, 26, 27, 28, 29, 30, 31, 32, 33, 34, 35, 36, 37, 38, 39, 40, 41, 42, 43, 44, 45, 46, 47, 48, 49, 50, 51, 52, 53, 54, 55, 56, 57, 58, 59, 109, 110, 111, 112, 113, 114, 115, 127, 128, 129, 130, 131, 132, 133, 134] (by decide +kernel) (by decide +kernel)
set_option maxRecDepth 20000 in
theorem gX4_vain_X4_refusalOfText : GoodIn wsX4_vain (wsV RX4 100 RX4 yX4_refusalOfText wsX4_refusalOfText) := goodIn_app (goodIn_of _ (by decide +kernel)) ggX4_vain_X4_refusalOfText
set_option maxRecDepth 20000 in
theorem ggX4_vain_X0_become : GoodIn wsX4_vain wsX0_become := goodIn_r _ [64, 65, 66, 9, 67, 68, 21, 22, 135] (by decide +kernel) (by decide +kernel)
set_option maxRecDepth 20000 in
theorem gX4_vain_X0_become : GoodIn wsX4_vain (wsV RX4 103 RX0 yX0_become wsX0_become) := goodIn_app (goodIn_of _ (by decide +kernel)) ggX4_vain_X0_become
set_option maxRecDepth 20000 in
theorem ggX4_vain_X4_takesEffect : GoodIn wsX4_vain wsX4_takesEffect := goodIn_r _ [72, 4, 73, 74, 75, 76, 77, 2, 68, 21, 9, 22, 78, 79, 80, 63, 81, 65, 82, 83, 84, 85, 86, 87, 88, 89, 90, 91, 92, 93, 94, 95, 96, 97, 98, 99, 100, 101, 102, 103, 104, 32, 33, 105, 106, 107, 108, 109, 110, 111, 112, 113, 114, 115, 127, 128, 129, 130, 131, 132, 133, 134, 135, 116, 117, 118, 119, 120, 121, 122, 123, 124, 125, 126] (by decide +kernel) (by decide +kernel)
set_option maxRecDepth 20000 in
theorem gX4_vain_X4_takesEffect : GoodIn wsX4_vain (wsV RX4 110 RX4 yX4_takesEffect wsX4_takesEffect) := goodIn_app (goodIn_of _ (by decide +kernel)) ggX4_vain_X4_takesEffect
theorem dX4_vain_0 : decode cX4_vain 0 = .ok (.aload_n 0, 1) := by decide +kernel
theorem dX4_vain_1 : decode cX4_vain 1 = .ok (.invokevirtual 100, 3) := by decide +kernel
theorem dX4_vain_4 : decode cX4_vain 4 = .ok (.istore_n 2, 1) := by decide +kernel
theorem dX4_vain_5 : decode cX4_vain 5 = .ok (.iload_n 2, 1) := by decide +kernel
theorem dX4_vain_6 : decode cX4_vain 6 = .ok (.ifCond .eq 5, 3) := by decide +kernel
theorem dX4_vain_9 : decode cX4_vain 9 = .ok (.iload_n 2, 1) := by decide +kernel
theorem dX4_vain_10 : decode cX4_vain 10 = .ok (.ireturn, 1) := by decide +kernel
theorem dX4_vain_11 : decode cX4_vain 11 = .ok (.aload_n 0, 1) := by decide +kernel
theorem dX4_vain_12 : decode cX4_vain 12 = .ok (.getfield 37, 3) := by decide +kernel
theorem dX4_vain_15 : decode cX4_vain 15 = .ok (.aload_n 0, 1) := by decide +kernel
theorem dX4_vain_16 : decode cX4_vain 16 = .ok (.getfield 10, 3) := by decide +kernel
theorem dX4_vain_19 : decode cX4_vain 19 = .ok (.getfield 72, 3) := by decide +kernel
theorem dX4_vain_22 : decode cX4_vain 22 = .ok (.invokevirtual 103, 3) := by decide +kernel
theorem dX4_vain_25 : decode cX4_vain 25 = .ok (.iconst 0, 1) := by decide +kernel
theorem dX4_vain_26 : decode cX4_vain 26 = .ok (.istore_n 3, 1) := by decide +kernel
theorem dX4_vain_27 : decode cX4_vain 27 = .ok (.bipush (-6), 2) := by decide +kernel
theorem dX4_vain_29 : decode cX4_vain 29 = .ok (.istore 4, 2) := by decide +kernel
theorem dX4_vain_31 : decode cX4_vain 31 = .ok (.iconst 0, 1) := by decide +kernel
theorem dX4_vain_32 : decode cX4_vain 32 = .ok (.istore 5, 2) := by decide +kernel
theorem dX4_vain_34 : decode cX4_vain 34 = .ok (.iload 5, 2) := by decide +kernel
theorem dX4_vain_36 : decode cX4_vain 36 = .ok (.aload_n 0, 1) := by decide +kernel
theorem dX4_vain_37 : decode cX4_vain 37 = .ok (.getfield 23, 3) := by decide +kernel
theorem dX4_vain_40 : decode cX4_vain 40 = .ok (.getfield 107, 3) := by decide +kernel
theorem dX4_vain_43 : decode cX4_vain 43 = .ok (.if_icmp .ge 39, 3) := by decide +kernel
theorem dX4_vain_46 : decode cX4_vain 46 = .ok (.aload_n 0, 1) := by decide +kernel
theorem dX4_vain_47 : decode cX4_vain 47 = .ok (.iload 5, 2) := by decide +kernel
theorem dX4_vain_49 : decode cX4_vain 49 = .ok (.aload_n 0, 1) := by decide +kernel
theorem dX4_vain_50 : decode cX4_vain 50 = .ok (.getfield 37, 3) := by decide +kernel
theorem dX4_vain_53 : decode cX4_vain 53 = .ok (.invokevirtual 110, 3) := by decide +kernel
theorem dX4_vain_56 : decode cX4_vain 56 = .ok (.ifCond .ne 20, 3) := by decide +kernel
theorem dX4_vain_59 : decode cX4_vain 59 = .ok (.iload_n 3, 1) := by decide +kernel
theorem dX4_vain_60 : decode cX4_vain 60 = .ok (.iload_n 1, 1) := by decide +kernel
theorem dX4_vain_61 : decode cX4_vain 61 = .ok (.if_icmp .ne 8, 3) := by decide +kernel
theorem dX4_vain_64 : decode cX4_vain 64 = .ok (.iload 5, 2) := by decide +kernel
theorem dX4_vain_66 : decode cX4_vain 66 = .ok (.goto 5, 3) := by decide +kernel
theorem dX4_vain_69 : decode cX4_vain 69 = .ok (.iload 4, 2) := by decide +kernel
theorem dX4_vain_71 : decode cX4_vain 71 = .ok (.istore 4, 2) := by decide +kernel
theorem dX4_vain_73 : decode cX4_vain 73 = .ok (.iinc 3 1, 3) := by decide +kernel
theorem dX4_vain_76 : decode cX4_vain 76 = .ok (.iinc 5 1, 3) := by decide +kernel
theorem dX4_vain_79 : decode cX4_vain 79 = .ok (.goto (-45), 3) := by decide +kernel
theorem dX4_vain_82 : decode cX4_vain 82 = .ok (.iload_n 1, 1) := by decide +kernel
theorem dX4_vain_83 : decode cX4_vain 83 = .ok (.iconst (-1), 1) := by decide +kernel
theorem dX4_vain_84 : decode cX4_vain 84 = .ok (.if_icmp .ne 7, 3) := by decide +kernel
theorem dX4_vain_87 : decode cX4_vain 87 = .ok (.iload_n 3, 1) := by decide +kernel
theorem dX4_vain_88 : decode cX4_vain 88 = .ok (.goto 5, 3) := by decide +kernel
theorem dX4_vain_91 : decode cX4_vain 91 = .ok (.iload 4, 2) := by decide +kernel
theorem dX4_vain_93 : decode cX4_vain 93 = .ok (.ireturn, 1) := by decide +kernel
set_option maxRecDepth 20000 in
theorem ggX4_done_X4_refusalOfText : GoodIn wsX4_done wsX4_refusalOfText := goodIn_r _ [9, 3, 10, 11, 12, 13, 14, 15, 16, 17, 18, 19, 20, 8, 21, 22, 23, 24, 25, 26, 27, 28, 29, 30, 31, 32, 33, 34, 35, 36, 37, 38, 39, 40, 41, 42, 43, 44, 45, 46, 47, 48, 49, 50, 51, 52, 53, 54, 55, 56, 57, 58, 110, 111, 112, 113, 114, 115, 116, 128, 129, 130, 131, 132, 133, 134, 135] (by decide +kernel) (by decide +kernel)
set_option maxRecDepth 20000 in
theorem gX4_done_X4_refusalOfText : GoodIn wsX4_done (wsV RX4 100 RX4 yX4_refusalOfText wsX4_refusalOfText) := goodIn_app (goodIn_of _ (by decide +kernel)) ggX4_done_X4_refusalOfText
set_option maxRecDepth 20000 in
theorem ggX4_done_X4_play : GoodIn wsX4_done wsX4_play := goodIn_r _ [62, 3, 4, 63, 64, 65, 8, 66, 67, 68, 69, 70, 71, 1, 72, 20, 21, 73, 74, 75, 76, 77, 78, 79, 80, 81, 82, 83, 84, 85, 86, 87, 88, 89, 90, 91, 92, 93, 94, 95, 96, 97, 98, 99, 100, 101, 31, 32, 102, 103, 104, 105, 110, 111, 112, 113, 114, 115, 116, 128, 129, 130, 131, 132, 133, 134, 135, 136, 117, 118, 119, 120, 121, 122, 123, 124, 125, 126, 127] (by decide +kernel) (by decide +kernel)
set_option maxRecDepth 20000 in
theorem gX4_done_X4_play : GoodIn wsX4_done (wsV RX4 114 RX4 yX4_play wsX4_play) := goodIn_app (goodIn_of _ (by decide +kernel)) ggX4_done_X4_play
set_option maxRecDepth 20000 in
theorem ggX4_done_X2_clear : GoodIn wsX4_done wsX2_clear := goodIn_r _ [109, 18, 128, 129, 130, 131, 132, 133, 134, 135] (by decide +kernel) (by decide +kernel)
set_option maxRecDepth 20000 in
theorem gX4_done_X2_clear : GoodIn wsX4_done (wsV RX4 93 RX2 yX2_clear wsX2_clear) := goodIn_app (goodIn_of _ (by decide +kernel)) ggX4_done_X2_clear
theorem dX4_done_0 : decode cX4_done 0 = .ok (.aload_n 0, 1) := by decide +kernel
theorem dX4_done_1 : decode cX4_done 1 = .ok (.invokevirtual 100, 3) := by decide +kernel
theorem dX4_done_4 : decode cX4_done 4 = .ok (.istore_n 1, 1) := by decide +kernel
theorem dX4_done_5 : decode cX4_done 5 = .ok (.iload_n 1, 1) := by decide +kernel
theorem dX4_done_6 : decode cX4_done 6 = .ok (.ifCond .eq 5, 3) := by decide +kernel
theorem dX4_done_9 : decode cX4_done 9 = .ok (.iload_n 1, 1) := by decide +kernel
theorem dX4_done_10 : decode cX4_done 10 = .ok (.ireturn, 1) := by decide +kernel
theorem dX4_done_11 : decode cX4_done 11 = .ok (.aload_n 0, 1) := by decide +kernel
theorem dX4_done_12 : decode cX4_done 12 = .ok (.aload_n 0, 1) := by decide +kernel
theorem dX4_done_13 : decode cX4_done 13 = .ok (.getfield 10, 3) := by decide +kernel
theorem dX4_done_16 : decode cX4_done 16 = .ok (.getfield 72, 3) := by decide +kernel
theorem dX4_done_19 : decode cX4_done 19 = .ok (.invokevirtual 114, 3) := by decide +kernel
theorem dX4_done_22 : decode cX4_done 22 = .ok (.aload_n 0, 1) := by decide +kernel
theorem dX4_done_23 : decode cX4_done 23 = .ok (.getfield 23, 3) := by decide +kernel
theorem dX4_done_26 : decode cX4_done 26 = .ok (.getfield 107, 3) := by decide +kernel
theorem dX4_done_29 : decode cX4_done 29 = .ok (.istore_n 2, 1) := by decide +kernel
theorem dX4_done_30 : decode cX4_done 30 = .ok (.aload_n 0, 1) := by decide +kernel
theorem dX4_done_31 : decode cX4_done 31 = .ok (.getfield 23, 3) := by decide +kernel
theorem dX4_done_34 : decode cX4_done 34 = .ok (.invokevirtual 93, 3) := by decide +kernel
theorem dX4_done_37 : decode cX4_done 37 = .ok (.iload_n 2, 1) := by decide +kernel
theorem dX4_done_38 : decode cX4_done 38 = .ok (.ireturn, 1) := by decide +kernel
set_option maxRecDepth 20000 in
theorem ggX4_bears_X4_isPlank : GoodIn wsX4_bears wsX4_isPlank := goodIn_r _ [6, 7, 8, 5, 9] (by decide +kernel) (by decide +kernel)
set_option maxRecDepth 20000 in
theorem gX4_bears_X4_isPlank : GoodIn wsX4_bears (va_wsS RX4 48 yX4_isPlank wsX4_isPlank) := goodIn_app (goodIn_of _ (by decide +kernel)) ggX4_bears_X4_isPlank
set_option maxRecDepth 20000 in
theorem ggX4_bears_X4_isPersonOrAll : GoodIn wsX4_bears wsX4_isPersonOrAll := goodIn_r _ [12, 13, 14, 5, 15, 7, 8, 9] (by decide +kernel) (by decide +kernel)
set_option maxRecDepth 20000 in
theorem gX4_bears_X4_isPersonOrAll : GoodIn wsX4_bears (va_wsS RX4 117 yX4_isPersonOrAll wsX4_isPersonOrAll) := goodIn_app (goodIn_of _ (by decide +kernel)) ggX4_bears_X4_isPersonOrAll
set_option maxRecDepth 20000 in
theorem ggX4_bears_X4_beliefOrLoad : GoodIn wsX4_bears wsX4_beliefOrLoad := goodIn_r _ [18, 19, 20, 21, 22, 23, 24, 25, 26, 27, 28, 29, 48] (by decide +kernel) (by decide +kernel)
set_option maxRecDepth 20000 in
theorem gX4_bears_X4_beliefOrLoad : GoodIn wsX4_bears (va_wsS RX4 120 yX4_beliefOrLoad wsX4_beliefOrLoad) := goodIn_app (goodIn_of _ (by decide +kernel)) ggX4_bears_X4_beliefOrLoad
theorem dX4_bears_0 : decode cX4_bears 0 = .ok (.iload_n 1, 1) := by decide +kernel
theorem dX4_bears_1 : decode cX4_bears 1 = .ok (.invokestatic 48, 3) := by decide +kernel
theorem dX4_bears_4 : decode cX4_bears 4 = .ok (.ifCond .eq 10, 3) := by decide +kernel
theorem dX4_bears_7 : decode cX4_bears 7 = .ok (.iload_n 2, 1) := by decide +kernel
theorem dX4_bears_8 : decode cX4_bears 8 = .ok (.invokestatic 117, 3) := by decide +kernel
theorem dX4_bears_11 : decode cX4_bears 11 = .ok (.ifCond .ne 5, 3) := by decide +kernel
theorem dX4_bears_14 : decode cX4_bears 14 = .ok (.iconst (-1), 1) := by decide +kernel
theorem dX4_bears_15 : decode cX4_bears 15 = .ok (.ireturn, 1) := by decide +kernel
theorem dX4_bears_16 : decode cX4_bears 16 = .ok (.aload_n 0, 1) := by decide +kernel
theorem dX4_bears_17 : decode cX4_bears 17 = .ok (.getfield 10, 3) := by decide +kernel
theorem dX4_bears_20 : decode cX4_bears 20 = .ok (.getfield 72, 3) := by decide +kernel
theorem dX4_bears_23 : decode cX4_bears 23 = .ok (.iload_n 1, 1) := by decide +kernel
theorem dX4_bears_24 : decode cX4_bears 24 = .ok (.iload_n 2, 1) := by decide +kernel
theorem dX4_bears_25 : decode cX4_bears 25 = .ok (.invokestatic 120, 3) := by decide +kernel
theorem dX4_bears_28 : decode cX4_bears 28 = .ok (.ireturn, 1) := by decide +kernel
set_option maxRecDepth 20000 in
theorem ggX4_behind_X4_isPlank : GoodIn wsX4_behind wsX4_isPlank := goodIn_r _ [7, 8, 9, 6, 10] (by decide +kernel) (by decide +kernel)
set_option maxRecDepth 20000 in
theorem gX4_behind_X4_isPlank : GoodIn wsX4_behind (va_wsS RX4 48 yX4_isPlank wsX4_isPlank) := goodIn_app (goodIn_of _ (by decide +kernel)) ggX4_behind_X4_isPlank
set_option maxRecDepth 20000 in
theorem ggX4_behind_X4_isPersonOrAll : GoodIn wsX4_behind wsX4_isPersonOrAll := goodIn_r _ [13, 14, 15, 6, 16, 8, 9, 10] (by decide +kernel) (by decide +kernel)
set_option maxRecDepth 20000 in
theorem gX4_behind_X4_isPersonOrAll : GoodIn wsX4_behind (va_wsS RX4 117 yX4_isPersonOrAll wsX4_isPersonOrAll) := goodIn_app (goodIn_of _ (by decide +kernel)) ggX4_behind_X4_isPersonOrAll
set_option maxRecDepth 20000 in
theorem ggX4_behind_X4_refusalOfText : GoodIn wsX4_behind wsX4_refusalOfText := goodIn_r _ [20, 21, 22, 23, 24, 25, 26, 27, 28, 29, 30, 31, 32, 6, 33, 34, 35, 36, 37, 38, 39, 40, 41, 42, 43, 44, 45, 46, 47, 48, 49, 15, 16, 8, 9, 10, 50, 51, 52, 53, 54, 55, 56, 57, 58, 59, 60, 61, 62, 63, 5, 7, 127, 128, 129, 130, 131, 132, 133, 145, 146, 147, 148, 149, 150, 151, 152] (by decide +kernel) (by decide +kernel)
set_option maxRecDepth 20000 in
theorem gX4_behind_X4_refusalOfText : GoodIn wsX4_behind (wsV RX4 100 RX4 yX4_refusalOfText wsX4_refusalOfText) := goodIn_app (goodIn_of _ (by decide +kernel)) ggX4_behind_X4_refusalOfText
set_option maxRecDepth 20000 in
theorem ggX4_behind_X0_become : GoodIn wsX4_behind wsX0_become := goodIn_r _ [68, 69, 70, 6, 71, 72, 32, 33, 153] (by decide +kernel) (by decide +kernel)
set_option maxRecDepth 20000 in
theorem gX4_behind_X0_become : GoodIn wsX4_behind (wsV RX4 103 RX0 yX0_become wsX0_become) := goodIn_app (goodIn_of _ (by decide +kernel)) ggX4_behind_X0_become
set_option maxRecDepth 20000 in
theorem ggX4_behind_X4_play : GoodIn wsX4_behind wsX4_play := goodIn_r _ [76, 21, 77, 78, 79, 80, 6, 81, 82, 83, 84, 85, 86, 2, 72, 32, 33, 87, 88, 89, 67, 90, 69, 91, 92, 93, 94, 95, 96, 97, 98, 99, 100, 101, 102, 103, 104, 105, 106, 107, 108, 109, 110, 111, 112, 113, 43, 44, 114, 115, 116, 117, 127, 128, 129, 130, 131, 132, 133, 145, 146, 147, 148, 149, 150, 151, 152, 153, 134, 135, 136, 137, 138, 139, 140, 141, 142, 143, 144] (by decide +kernel) (by decide +kernel)
set_option maxRecDepth 20000 in
theorem gX4_behind_X4_play : GoodIn wsX4_behind (wsV RX4 114 RX4 yX4_play wsX4_play) := goodIn_app (goodIn_of _ (by decide +kernel)) ggX4_behind_X4_play
set_option maxRecDepth 20000 in
theorem ggX4_behind_X4_beliefOrLoad : GoodIn wsX4_behind wsX4_beliefOrLoad := goodIn_r _ [120, 121, 122, 123, 67, 124, 125, 105, 106, 107, 69, 126, 153] (by decide +kernel) (by decide +kernel)
set_option maxRecDepth 20000 in
theorem gX4_behind_X4_beliefOrLoad : GoodIn wsX4_behind (va_wsS RX4 120 yX4_beliefOrLoad wsX4_beliefOrLoad) := goodIn_app (goodIn_of _ (by decide +kernel)) ggX4_behind_X4_beliefOrLoad
theorem dX4_behind_0 : decode cX4_behind 0 = .ok (.iload_n 1, 1) := by decide +kernel
theorem dX4_behind_1 : decode cX4_behind 1 = .ok (.invokestatic 48, 3) := by decide +kernel
theorem dX4_behind_4 : decode cX4_behind 4 = .ok (.ifCond .eq 10, 3) := by decide +kernel
theorem dX4_behind_7 : decode cX4_behind 7 = .ok (.iload_n 2, 1) := by decide +kernel
theorem dX4_behind_8 : decode cX4_behind 8 = .ok (.invokestatic 117, 3) := by decide +kernel
theorem dX4_behind_11 : decode cX4_behind 11 = .ok (.ifCond .ne 5, 3) := by decide +kernel
theorem dX4_behind_14 : decode cX4_behind 14 = .ok (.iconst (-1), 1) := by decide +kernel
theorem dX4_behind_15 : decode cX4_behind 15 = .ok (.ireturn, 1) := by decide +kernel
theorem dX4_behind_16 : decode cX4_behind 16 = .ok (.aload_n 0, 1) := by decide +kernel
theorem dX4_behind_17 : decode cX4_behind 17 = .ok (.invokevirtual 100, 3) := by decide +kernel
theorem dX4_behind_20 : decode cX4_behind 20 = .ok (.istore_n 3, 1) := by decide +kernel
theorem dX4_behind_21 : decode cX4_behind 21 = .ok (.iload_n 3, 1) := by decide +kernel
theorem dX4_behind_22 : decode cX4_behind 22 = .ok (.ifCond .eq 5, 3) := by decide +kernel
theorem dX4_behind_25 : decode cX4_behind 25 = .ok (.iload_n 3, 1) := by decide +kernel
theorem dX4_behind_26 : decode cX4_behind 26 = .ok (.ireturn, 1) := by decide +kernel
theorem dX4_behind_27 : decode cX4_behind 27 = .ok (.aload_n 0, 1) := by decide +kernel
theorem dX4_behind_28 : decode cX4_behind 28 = .ok (.getfield 37, 3) := by decide +kernel
theorem dX4_behind_31 : decode cX4_behind 31 = .ok (.aload_n 0, 1) := by decide +kernel
theorem dX4_behind_32 : decode cX4_behind 32 = .ok (.getfield 10, 3) := by decide +kernel
theorem dX4_behind_35 : decode cX4_behind 35 = .ok (.getfield 72, 3) := by decide +kernel
theorem dX4_behind_38 : decode cX4_behind 38 = .ok (.invokevirtual 103, 3) := by decide +kernel
theorem dX4_behind_41 : decode cX4_behind 41 = .ok (.aload_n 0, 1) := by decide +kernel
theorem dX4_behind_42 : decode cX4_behind 42 = .ok (.aload_n 0, 1) := by decide +kernel
theorem dX4_behind_43 : decode cX4_behind 43 = .ok (.getfield 37, 3) := by decide +kernel
theorem dX4_behind_46 : decode cX4_behind 46 = .ok (.invokevirtual 114, 3) := by decide +kernel
theorem dX4_behind_49 : decode cX4_behind 49 = .ok (.aload_n 0, 1) := by decide +kernel
theorem dX4_behind_50 : decode cX4_behind 50 = .ok (.getfield 37, 3) := by decide +kernel
theorem dX4_behind_53 : decode cX4_behind 53 = .ok (.iload_n 1, 1) := by decide +kernel
theorem dX4_behind_54 : decode cX4_behind 54 = .ok (.iload_n 2, 1) := by decide +kernel
theorem dX4_behind_55 : decode cX4_behind 55 = .ok (.invokestatic 120, 3) := by decide +kernel
theorem dX4_behind_58 : decode cX4_behind 58 = .ok (.ireturn, 1) := by decide +kernel
set_option maxRecDepth 20000 in
theorem ggX4_falls_X4_isIsland : GoodIn wsX4_falls wsX4_isIsland := goodIn_r _ [7, 8, 9, 6, 10] (by decide +kernel) (by decide +kernel)
set_option maxRecDepth 20000 in
theorem gX4_falls_X4_isIsland : GoodIn wsX4_falls (va_wsS RX4 52 yX4_isIsland wsX4_isIsland) := goodIn_app (goodIn_of _ (by decide +kernel)) ggX4_falls_X4_isIsland
set_option maxRecDepth 20000 in
theorem ggX4_falls_X4_isParty : GoodIn wsX4_falls wsX4_isParty := goodIn_r _ [13, 8, 9, 6, 10] (by decide +kernel) (by decide +kernel)
set_option maxRecDepth 20000 in
theorem gX4_falls_X4_isParty : GoodIn wsX4_falls (va_wsS RX4 124 yX4_isParty wsX4_isParty) := goodIn_app (goodIn_of _ (by decide +kernel)) ggX4_falls_X4_isParty
set_option maxRecDepth 20000 in
theorem ggX4_falls_X4_isChoice : GoodIn wsX4_falls wsX4_isChoice := goodIn_r _ [16] (by decide +kernel) (by decide +kernel)
set_option maxRecDepth 20000 in
theorem gX4_falls_X4_isChoice : GoodIn wsX4_falls (va_wsS RX4 127 yX4_isChoice wsX4_isChoice) := goodIn_app (goodIn_of _ (by decide +kernel)) ggX4_falls_X4_isChoice
set_option maxRecDepth 20000 in
theorem ggX4_falls_X4_within : GoodIn wsX4_falls wsX4_within := goodIn_r _ [10] (by decide +kernel) (by decide +kernel)
set_option maxRecDepth 20000 in
theorem gX4_falls_X4_within : GoodIn wsX4_falls (va_wsS RX4 79 yX4_within wsX4_within) := goodIn_app (goodIn_of _ (by decide +kernel)) ggX4_falls_X4_within
set_option maxRecDepth 20000 in
theorem ggX4_falls_X4_splitRoute : GoodIn wsX4_falls wsX4_splitRoute := goodIn_r _ [20, 1, 21, 22, 6, 23, 46, 47, 48, 49, 50, 51, 52] (by decide +kernel) (by decide +kernel)
set_option maxRecDepth 20000 in
theorem gX4_falls_X4_splitRoute : GoodIn wsX4_falls (wsV RX4 130 RX4 yX4_splitRoute wsX4_splitRoute) := goodIn_app (goodIn_of _ (by decide +kernel)) ggX4_falls_X4_splitRoute
set_option maxRecDepth 20000 in
theorem ggX4_falls_X4_at : GoodIn wsX4_falls wsX4_at := goodIn_r _ [26] (by decide +kernel) (by decide +kernel)
set_option maxRecDepth 20000 in
theorem gX4_falls_X4_at : GoodIn wsX4_falls (va_wsS RX4 134 yX4_at wsX4_at) := goodIn_app (goodIn_of _ (by decide +kernel)) ggX4_falls_X4_at
set_option maxRecDepth 20000 in
theorem ggX4_falls_X1_across : GoodIn wsX4_falls wsX1_across := goodIn_r _ [31, 32, 33, 34, 6, 35, 8, 9, 10, 25, 26, 53, 54, 55, 56, 57, 58, 59, 60, 61, 62, 63] (by decide +kernel) (by decide +kernel)
set_option maxRecDepth 20000 in
theorem gX4_falls_X1_across : GoodIn wsX4_falls (wsV RX4 138 RX1 yX1_across wsX1_across) := goodIn_app (goodIn_of _ (by decide +kernel)) ggX4_falls_X1_across
set_option maxRecDepth 20000 in
theorem ggX4_falls_X0_load : GoodIn wsX4_falls wsX0_load := goodIn_r _ [40, 41, 42, 43, 39, 44, 45, 64] (by decide +kernel) (by decide +kernel)
set_option maxRecDepth 20000 in
theorem gX4_falls_X0_load : GoodIn wsX4_falls (wsV RX4 142 RX0 yX0_load wsX0_load) := goodIn_app (goodIn_of _ (by decide +kernel)) ggX4_falls_X0_load
theorem dX4_falls_0 : decode cX4_falls 0 = .ok (.iload_n 1, 1) := by decide +kernel
theorem dX4_falls_1 : decode cX4_falls 1 = .ok (.invokestatic 52, 3) := by decide +kernel
theorem dX4_falls_4 : decode cX4_falls 4 = .ok (.ifCond .ne 5, 3) := by decide +kernel
theorem dX4_falls_7 : decode cX4_falls 7 = .ok (.iconst (-1), 1) := by decide +kernel
theorem dX4_falls_8 : decode cX4_falls 8 = .ok (.ireturn, 1) := by decide +kernel
theorem dX4_falls_9 : decode cX4_falls 9 = .ok (.iload 4, 2) := by decide +kernel
theorem dX4_falls_11 : decode cX4_falls 11 = .ok (.invokestatic 124, 3) := by decide +kernel
theorem dX4_falls_14 : decode cX4_falls 14 = .ok (.ifCond .eq 30, 3) := by decide +kernel
theorem dX4_falls_17 : decode cX4_falls 17 = .ok (.iload 5, 2) := by decide +kernel
theorem dX4_falls_19 : decode cX4_falls 19 = .ok (.invokestatic 127, 3) := by decide +kernel
theorem dX4_falls_22 : decode cX4_falls 22 = .ok (.ifCond .eq 22, 3) := by decide +kernel
theorem dX4_falls_25 : decode cX4_falls 25 = .ok (.iload_n 3, 1) := by decide +kernel
theorem dX4_falls_26 : decode cX4_falls 26 = .ok (.iconst 0, 1) := by decide +kernel
theorem dX4_falls_27 : decode cX4_falls 27 = .ok (.bipush 6, 2) := by decide +kernel
theorem dX4_falls_29 : decode cX4_falls 29 = .ok (.invokestatic 79, 3) := by decide +kernel
theorem dX4_falls_32 : decode cX4_falls 32 = .ok (.ifCond .eq 12, 3) := by decide +kernel
theorem dX4_falls_35 : decode cX4_falls 35 = .ok (.aload_n 0, 1) := by decide +kernel
theorem dX4_falls_36 : decode cX4_falls 36 = .ok (.iload_n 2, 1) := by decide +kernel
theorem dX4_falls_37 : decode cX4_falls 37 = .ok (.iload_n 3, 1) := by decide +kernel
theorem dX4_falls_38 : decode cX4_falls 38 = .ok (.invokevirtual 130, 3) := by decide +kernel
theorem dX4_falls_41 : decode cX4_falls 41 = .ok (.ifCond .ne 6, 3) := by decide +kernel
theorem dX4_falls_44 : decode cX4_falls 44 = .ok (.bipush (-2), 2) := by decide +kernel
theorem dX4_falls_46 : decode cX4_falls 46 = .ok (.ireturn, 1) := by decide +kernel
theorem dX4_falls_47 : decode cX4_falls 47 = .ok (.iload_n 1, 1) := by decide +kernel
theorem dX4_falls_48 : decode cX4_falls 48 = .ok (.istore 6, 2) := by decide +kernel
theorem dX4_falls_50 : decode cX4_falls 50 = .ok (.bipush (-6), 2) := by decide +kernel
theorem dX4_falls_52 : decode cX4_falls 52 = .ok (.istore 7, 2) := by decide +kernel
theorem dX4_falls_54 : decode cX4_falls 54 = .ok (.iload_n 1, 1) := by decide +kernel
theorem dX4_falls_55 : decode cX4_falls 55 = .ok (.istore 8, 2) := by decide +kernel
theorem dX4_falls_57 : decode cX4_falls 57 = .ok (.iconst 0, 1) := by decide +kernel
theorem dX4_falls_58 : decode cX4_falls 58 = .ok (.istore 9, 2) := by decide +kernel
theorem dX4_falls_60 : decode cX4_falls 60 = .ok (.iload 9, 2) := by decide +kernel
theorem dX4_falls_62 : decode cX4_falls 62 = .ok (.iload_n 3, 1) := by decide +kernel
theorem dX4_falls_63 : decode cX4_falls 63 = .ok (.if_icmp .ge 91, 3) := by decide +kernel
theorem dX4_falls_66 : decode cX4_falls 66 = .ok (.aload_n 0, 1) := by decide +kernel
theorem dX4_falls_67 : decode cX4_falls 67 = .ok (.getfield 45, 3) := by decide +kernel
theorem dX4_falls_70 : decode cX4_falls 70 = .ok (.iload 9, 2) := by decide +kernel
theorem dX4_falls_72 : decode cX4_falls 72 = .ok (.invokestatic 134, 3) := by decide +kernel
theorem dX4_falls_75 : decode cX4_falls 75 = .ok (.istore 10, 2) := by decide +kernel
theorem dX4_falls_77 : decode cX4_falls 77 = .ok (.aload_n 0, 1) := by decide +kernel
theorem dX4_falls_78 : decode cX4_falls 78 = .ok (.getfield 10, 3) := by decide +kernel
theorem dX4_falls_81 : decode cX4_falls 81 = .ok (.iload 10, 2) := by decide +kernel
theorem dX4_falls_83 : decode cX4_falls 83 = .ok (.iload 6, 2) := by decide +kernel
theorem dX4_falls_85 : decode cX4_falls 85 = .ok (.invokevirtual 138, 3) := by decide +kernel
theorem dX4_falls_88 : decode cX4_falls 88 = .ok (.istore 11, 2) := by decide +kernel
theorem dX4_falls_90 : decode cX4_falls 90 = .ok (.iload 11, 2) := by decide +kernel
theorem dX4_falls_92 : decode cX4_falls 92 = .ok (.iconst (-1), 1) := by decide +kernel
theorem dX4_falls_93 : decode cX4_falls 93 = .ok (.if_icmp .ne 6, 3) := by decide +kernel
theorem dX4_falls_96 : decode cX4_falls 96 = .ok (.bipush (-5), 2) := by decide +kernel
theorem dX4_falls_98 : decode cX4_falls 98 = .ok (.ireturn, 1) := by decide +kernel
theorem dX4_falls_99 : decode cX4_falls 99 = .ok (.iload 7, 2) := by decide +kernel
theorem dX4_falls_101 : decode cX4_falls 101 = .ok (.bipush (-6), 2) := by decide +kernel
theorem dX4_falls_103 : decode cX4_falls 103 = .ok (.if_icmp .ne 25, 3) := by decide +kernel
theorem dX4_falls_106 : decode cX4_falls 106 = .ok (.aload_n 0, 1) := by decide +kernel
theorem dX4_falls_107 : decode cX4_falls 107 = .ok (.getfield 10, 3) := by decide +kernel
theorem dX4_falls_110 : decode cX4_falls 110 = .ok (.getfield 72, 3) := by decide +kernel
theorem dX4_falls_113 : decode cX4_falls 113 = .ok (.iload 10, 2) := by decide +kernel
theorem dX4_falls_115 : decode cX4_falls 115 = .ok (.iconst 0, 1) := by decide +kernel
theorem dX4_falls_116 : decode cX4_falls 116 = .ok (.invokevirtual 142, 3) := by decide +kernel
theorem dX4_falls_119 : decode cX4_falls 119 = .ok (.iload 4, 2) := by decide +kernel
theorem dX4_falls_121 : decode cX4_falls 121 = .ok (.if_icmp .ge 7, 3) := by decide +kernel
theorem dX4_falls_124 : decode cX4_falls 124 = .ok (.iload 9, 2) := by decide +kernel
theorem dX4_falls_126 : decode cX4_falls 126 = .ok (.istore 7, 2) := by decide +kernel
theorem dX4_falls_128 : decode cX4_falls 128 = .ok (.iload 7, 2) := by decide +kernel
theorem dX4_falls_130 : decode cX4_falls 130 = .ok (.bipush (-6), 2) := by decide +kernel
theorem dX4_falls_132 : decode cX4_falls 132 = .ok (.if_icmp .ne 8, 3) := by decide +kernel
theorem dX4_falls_135 : decode cX4_falls 135 = .ok (.iload 11, 2) := by decide +kernel
theorem dX4_falls_137 : decode cX4_falls 137 = .ok (.goto 5, 3) := by decide +kernel
theorem dX4_falls_140 : decode cX4_falls 140 = .ok (.iload 8, 2) := by decide +kernel
theorem dX4_falls_142 : decode cX4_falls 142 = .ok (.istore 8, 2) := by decide +kernel
theorem dX4_falls_144 : decode cX4_falls 144 = .ok (.iload 11, 2) := by decide +kernel
theorem dX4_falls_146 : decode cX4_falls 146 = .ok (.istore 6, 2) := by decide +kernel
theorem dX4_falls_148 : decode cX4_falls 148 = .ok (.iinc 9 1, 3) := by decide +kernel
theorem dX4_falls_151 : decode cX4_falls 151 = .ok (.goto (-91), 3) := by decide +kernel
theorem dX4_falls_154 : decode cX4_falls 154 = .ok (.iload 5, 2) := by decide +kernel
theorem dX4_falls_156 : decode cX4_falls 156 = .ok (.ifCond .ne 8, 3) := by decide +kernel
theorem dX4_falls_159 : decode cX4_falls 159 = .ok (.iload 7, 2) := by decide +kernel
theorem dX4_falls_161 : decode cX4_falls 161 = .ok (.goto 5, 3) := by decide +kernel
theorem dX4_falls_164 : decode cX4_falls 164 = .ok (.iload 8, 2) := by decide +kernel
theorem dX4_falls_166 : decode cX4_falls 166 = .ok (.ireturn, 1) := by decide +kernel
set_option maxRecDepth 20000 in
theorem ggX4_tellings_X4_isIsland : GoodIn wsX4_tellings wsX4_isIsland := goodIn_r _ [7, 8, 9, 6, 10] (by decide +kernel) (by decide +kernel)
set_option maxRecDepth 20000 in
theorem gX4_tellings_X4_isIsland : GoodIn wsX4_tellings (va_wsS RX4 52 yX4_isIsland wsX4_isIsland) := goodIn_app (goodIn_of _ (by decide +kernel)) ggX4_tellings_X4_isIsland
set_option maxRecDepth 20000 in
theorem ggX4_tellings_X4_isParty : GoodIn wsX4_tellings wsX4_isParty := goodIn_r _ [13, 8, 9, 6, 10] (by decide +kernel) (by decide +kernel)
set_option maxRecDepth 20000 in
theorem gX4_tellings_X4_isParty : GoodIn wsX4_tellings (va_wsS RX4 124 yX4_isParty wsX4_isParty) := goodIn_app (goodIn_of _ (by decide +kernel)) ggX4_tellings_X4_isParty
set_option maxRecDepth 20000 in
theorem ggX4_tellings_X4_tellingsFor : GoodIn wsX4_tellings wsX4_tellingsFor := goodIn_r _ [17, 18, 2, 19, 20, 21, 22, 23, 24, 25, 26, 6, 27, 28, 29, 30, 31, 32, 33, 34, 35, 36, 37, 38, 39, 40, 41, 42, 43, 44, 45, 46, 47, 48, 49, 50, 51, 52, 53, 54, 55, 56, 57, 58, 59, 60, 61, 62, 63, 64, 65, 66, 67, 68, 69, 120, 121, 122, 123, 124, 125, 126, 134, 135, 136, 137, 138, 139, 140, 141, 142, 143, 144, 145] (by decide +kernel) (by decide +kernel)
set_option maxRecDepth 20000 in
theorem gX4_tellings_X4_tellingsFor : GoodIn wsX4_tellings (wsV RX4 145 RX4 yX4_tellingsFor wsX4_tellingsFor) := goodIn_app (goodIn_of _ (by decide +kernel)) ggX4_tellings_X4_tellingsFor
set_option maxRecDepth 20000 in
theorem ggX4_tellings_X3_weigh : GoodIn wsX4_tellings wsX3_weigh := goodIn_r _ [74, 75, 68, 6, 69, 127, 128, 129, 130, 131, 132, 133] (by decide +kernel) (by decide +kernel)
set_option maxRecDepth 20000 in
theorem gX4_tellings_X3_weigh : GoodIn wsX4_tellings (wsV RX4 148 RX3 yX3_weigh wsX3_weigh) := goodIn_app (goodIn_of _ (by decide +kernel)) ggX4_tellings_X3_weigh
set_option maxRecDepth 20000 in
theorem ggX4_tellings_X3_findCheapest : GoodIn wsX4_tellings wsX3_findCheapest := goodIn_r _ [79, 80, 81, 82, 83, 73, 84, 85, 86, 87, 88, 89, 90, 91, 92, 93, 94, 95, 96, 97, 98, 99, 100, 101, 26, 6, 27, 28, 29, 30, 102, 103, 104, 105, 75, 106, 107, 108, 109, 46, 110, 111, 112, 113, 114, 8, 9, 10, 68, 69, 127, 128, 129, 130, 131, 132, 133, 134, 135, 136, 137, 138, 139, 140, 141, 142, 143, 144] (by decide +kernel) (by decide +kernel)
set_option maxRecDepth 20000 in
theorem gX4_tellings_X3_findCheapest : GoodIn wsX4_tellings (wsV RX4 152 RX3 yX3_findCheapest wsX3_findCheapest) := goodIn_app (goodIn_of _ (by decide +kernel)) ggX4_tellings_X3_findCheapest
set_option maxRecDepth 20000 in
theorem ggX4_tellings_X3_found : GoodIn wsX4_tellings wsX3_found := goodIn_r _ [101, 86, 127, 128, 129, 130, 131, 132, 133] (by decide +kernel) (by decide +kernel)
set_option maxRecDepth 20000 in
theorem gX4_tellings_X3_found : GoodIn wsX4_tellings (wsV RX4 156 RX3 yX3_found wsX3_found) := goodIn_app (goodIn_of _ (by decide +kernel)) ggX4_tellings_X3_found
set_option maxRecDepth 20000 in
theorem ggX4_tellings_X3_step : GoodIn wsX4_tellings wsX3_step := goodIn_r _ [119, 86, 97, 29, 6, 30, 127, 128, 129, 130, 131, 132, 133] (by decide +kernel) (by decide +kernel)
set_option maxRecDepth 20000 in
theorem gX4_tellings_X3_step : GoodIn wsX4_tellings (wsV RX4 164 RX3 yX3_step wsX3_step) := goodIn_app (goodIn_of _ (by decide +kernel)) ggX4_tellings_X3_step
theorem dX4_tellings_0 : decode cX4_tellings 0 = .ok (.iload_n 1, 1) := by decide +kernel
theorem dX4_tellings_1 : decode cX4_tellings 1 = .ok (.invokestatic 52, 3) := by decide +kernel
theorem dX4_tellings_4 : decode cX4_tellings 4 = .ok (.ifCond .eq 10, 3) := by decide +kernel
theorem dX4_tellings_7 : decode cX4_tellings 7 = .ok (.iload_n 2, 1) := by decide +kernel
theorem dX4_tellings_8 : decode cX4_tellings 8 = .ok (.invokestatic 52, 3) := by decide +kernel
theorem dX4_tellings_11 : decode cX4_tellings 11 = .ok (.ifCond .ne 5, 3) := by decide +kernel
theorem dX4_tellings_14 : decode cX4_tellings 14 = .ok (.iconst (-1), 1) := by decide +kernel
theorem dX4_tellings_15 : decode cX4_tellings 15 = .ok (.ireturn, 1) := by decide +kernel
theorem dX4_tellings_16 : decode cX4_tellings 16 = .ok (.iload_n 3, 1) := by decide +kernel
theorem dX4_tellings_17 : decode cX4_tellings 17 = .ok (.invokestatic 124, 3) := by decide +kernel
theorem dX4_tellings_20 : decode cX4_tellings 20 = .ok (.ifCond .ne 6, 3) := by decide +kernel
theorem dX4_tellings_23 : decode cX4_tellings 23 = .ok (.bipush (-2), 2) := by decide +kernel
theorem dX4_tellings_25 : decode cX4_tellings 25 = .ok (.ireturn, 1) := by decide +kernel
theorem dX4_tellings_26 : decode cX4_tellings 26 = .ok (.iconst 0, 1) := by decide +kernel
theorem dX4_tellings_27 : decode cX4_tellings 27 = .ok (.istore 5, 2) := by decide +kernel
theorem dX4_tellings_29 : decode cX4_tellings 29 = .ok (.iload 5, 2) := by decide +kernel
theorem dX4_tellings_31 : decode cX4_tellings 31 = .ok (.bipush 6, 2) := by decide +kernel
theorem dX4_tellings_33 : decode cX4_tellings 33 = .ok (.if_icmp .ge 25, 3) := by decide +kernel
theorem dX4_tellings_36 : decode cX4_tellings 36 = .ok (.aload_n 0, 1) := by decide +kernel
theorem dX4_tellings_37 : decode cX4_tellings 37 = .ok (.getfield 30, 3) := by decide +kernel
theorem dX4_tellings_40 : decode cX4_tellings 40 = .ok (.iload 5, 2) := by decide +kernel
theorem dX4_tellings_42 : decode cX4_tellings 42 = .ok (.aload_n 0, 1) := by decide +kernel
theorem dX4_tellings_43 : decode cX4_tellings 43 = .ok (.iload 5, 2) := by decide +kernel
theorem dX4_tellings_45 : decode cX4_tellings 45 = .ok (.iload_n 3, 1) := by decide +kernel
theorem dX4_tellings_46 : decode cX4_tellings 46 = .ok (.invokevirtual 145, 3) := by decide +kernel
theorem dX4_tellings_49 : decode cX4_tellings 49 = .ok (.invokevirtual 148, 3) := by decide +kernel
theorem dX4_tellings_52 : decode cX4_tellings 52 = .ok (.iinc 5 1, 3) := by decide +kernel
theorem dX4_tellings_55 : decode cX4_tellings 55 = .ok (.goto (-26), 3) := by decide +kernel
theorem dX4_tellings_58 : decode cX4_tellings 58 = .ok (.aload_n 0, 1) := by decide +kernel
theorem dX4_tellings_59 : decode cX4_tellings 59 = .ok (.getfield 30, 3) := by decide +kernel
theorem dX4_tellings_62 : decode cX4_tellings 62 = .ok (.aload_n 0, 1) := by decide +kernel
theorem dX4_tellings_63 : decode cX4_tellings 63 = .ok (.getfield 10, 3) := by decide +kernel
theorem dX4_tellings_66 : decode cX4_tellings 66 = .ok (.iload_n 1, 1) := by decide +kernel
theorem dX4_tellings_67 : decode cX4_tellings 67 = .ok (.iload_n 2, 1) := by decide +kernel
theorem dX4_tellings_68 : decode cX4_tellings 68 = .ok (.invokevirtual 152, 3) := by decide +kernel
theorem dX4_tellings_71 : decode cX4_tellings 71 = .ok (.iload 4, 2) := by decide +kernel
theorem dX4_tellings_73 : decode cX4_tellings 73 = .ok (.iconst (-1), 1) := by decide +kernel
theorem dX4_tellings_74 : decode cX4_tellings 74 = .ok (.if_icmp .ne 28, 3) := by decide +kernel
theorem dX4_tellings_77 : decode cX4_tellings 77 = .ok (.aload_n 0, 1) := by decide +kernel
theorem dX4_tellings_78 : decode cX4_tellings 78 = .ok (.getfield 30, 3) := by decide +kernel
theorem dX4_tellings_81 : decode cX4_tellings 81 = .ok (.invokevirtual 156, 3) := by decide +kernel
theorem dX4_tellings_84 : decode cX4_tellings 84 = .ok (.ifCond .eq 15, 3) := by decide +kernel
theorem dX4_tellings_87 : decode cX4_tellings 87 = .ok (.aload_n 0, 1) := by decide +kernel
theorem dX4_tellings_88 : decode cX4_tellings 88 = .ok (.getfield 30, 3) := by decide +kernel
theorem dX4_tellings_91 : decode cX4_tellings 91 = .ok (.getfield 160, 3) := by decide +kernel
theorem dX4_tellings_94 : decode cX4_tellings 94 = .ok (.lneg, 1) := by decide +kernel
theorem dX4_tellings_95 : decode cX4_tellings 95 = .ok (.l2i, 1) := by decide +kernel
theorem dX4_tellings_96 : decode cX4_tellings 96 = .ok (.goto 5, 3) := by decide +kernel
theorem dX4_tellings_99 : decode cX4_tellings 99 = .ok (.bipush (-6), 2) := by decide +kernel
theorem dX4_tellings_101 : decode cX4_tellings 101 = .ok (.ireturn, 1) := by decide +kernel
theorem dX4_tellings_102 : decode cX4_tellings 102 = .ok (.aload_n 0, 1) := by decide +kernel
theorem dX4_tellings_103 : decode cX4_tellings 103 = .ok (.getfield 30, 3) := by decide +kernel
theorem dX4_tellings_106 : decode cX4_tellings 106 = .ok (.iload 4, 2) := by decide +kernel
theorem dX4_tellings_108 : decode cX4_tellings 108 = .ok (.invokevirtual 164, 3) := by decide +kernel
theorem dX4_tellings_111 : decode cX4_tellings 111 = .ok (.ireturn, 1) := by decide +kernel
set_option maxRecDepth 20000 in
theorem ggX4_stands_X4_isIsland : GoodIn wsX4_stands wsX4_isIsland := goodIn_r _ [4, 5, 6, 3, 7] (by decide +kernel) (by decide +kernel)
set_option maxRecDepth 20000 in
theorem gX4_stands_X4_isIsland : GoodIn wsX4_stands (va_wsS RX4 52 yX4_isIsland wsX4_isIsland) := goodIn_app (goodIn_of _ (by decide +kernel)) ggX4_stands_X4_isIsland
set_option maxRecDepth 20000 in
theorem ggX4_stands_X4_isParty : GoodIn wsX4_stands wsX4_isParty := goodIn_r _ [10, 5, 6, 3, 7] (by decide +kernel) (by decide +kernel)
set_option maxRecDepth 20000 in
theorem gX4_stands_X4_isParty : GoodIn wsX4_stands (va_wsS RX4 124 yX4_isParty wsX4_isParty) := goodIn_app (goodIn_of _ (by decide +kernel)) ggX4_stands_X4_isParty
set_option maxRecDepth 20000 in
theorem ggX4_stands_X4_standsBehind : GoodIn wsX4_stands wsX4_standsBehind := goodIn_r _ [14, 15, 16, 17, 18, 19, 20, 21, 22, 23, 24, 25, 26, 27, 28, 29, 30, 31, 32, 33, 34, 3, 35, 36, 37, 38, 39, 40, 41, 42, 43, 44, 45, 46, 47, 48, 49, 50, 51, 52, 53, 54, 55, 56, 57, 58, 59, 60, 61, 62, 63, 64, 65, 66, 67, 68, 69, 70, 71, 72, 73, 74, 75, 76, 77, 78, 79, 80, 5, 6, 7, 81, 82, 83, 84, 85, 86, 87, 88, 89, 90, 91, 92, 93, 94, 95, 96, 97, 98, 99, 100, 101, 102, 103, 104, 105, 106, 107] (by decide +kernel) (by decide +kernel)
set_option maxRecDepth 20000 in
theorem gX4_stands_X4_standsBehind : GoodIn wsX4_stands (wsV RX4 168 RX4 yX4_standsBehind wsX4_standsBehind) := goodIn_app (goodIn_of _ (by decide +kernel)) ggX4_stands_X4_standsBehind
theorem dX4_stands_0 : decode cX4_stands 0 = .ok (.iload_n 1, 1) := by decide +kernel
theorem dX4_stands_1 : decode cX4_stands 1 = .ok (.invokestatic 52, 3) := by decide +kernel
theorem dX4_stands_4 : decode cX4_stands 4 = .ok (.ifCond .eq 10, 3) := by decide +kernel
theorem dX4_stands_7 : decode cX4_stands 7 = .ok (.iload_n 2, 1) := by decide +kernel
theorem dX4_stands_8 : decode cX4_stands 8 = .ok (.invokestatic 52, 3) := by decide +kernel
theorem dX4_stands_11 : decode cX4_stands 11 = .ok (.ifCond .ne 5, 3) := by decide +kernel
theorem dX4_stands_14 : decode cX4_stands 14 = .ok (.iconst (-1), 1) := by decide +kernel
theorem dX4_stands_15 : decode cX4_stands 15 = .ok (.ireturn, 1) := by decide +kernel
theorem dX4_stands_16 : decode cX4_stands 16 = .ok (.iload_n 3, 1) := by decide +kernel
theorem dX4_stands_17 : decode cX4_stands 17 = .ok (.invokestatic 124, 3) := by decide +kernel
theorem dX4_stands_20 : decode cX4_stands 20 = .ok (.ifCond .ne 6, 3) := by decide +kernel
theorem dX4_stands_23 : decode cX4_stands 23 = .ok (.bipush (-2), 2) := by decide +kernel
theorem dX4_stands_25 : decode cX4_stands 25 = .ok (.ireturn, 1) := by decide +kernel
theorem dX4_stands_26 : decode cX4_stands 26 = .ok (.iload_n 1, 1) := by decide +kernel
theorem dX4_stands_27 : decode cX4_stands 27 = .ok (.iload_n 2, 1) := by decide +kernel
theorem dX4_stands_28 : decode cX4_stands 28 = .ok (.if_icmp .ne 6, 3) := by decide +kernel
theorem dX4_stands_31 : decode cX4_stands 31 = .ok (.bipush (-6), 2) := by decide +kernel
theorem dX4_stands_33 : decode cX4_stands 33 = .ok (.ireturn, 1) := by decide +kernel
theorem dX4_stands_34 : decode cX4_stands 34 = .ok (.iconst 0, 1) := by decide +kernel
theorem dX4_stands_35 : decode cX4_stands 35 = .ok (.istore 4, 2) := by decide +kernel
theorem dX4_stands_37 : decode cX4_stands 37 = .ok (.iload 4, 2) := by decide +kernel
theorem dX4_stands_39 : decode cX4_stands 39 = .ok (.bipush 9, 2) := by decide +kernel
theorem dX4_stands_41 : decode cX4_stands 41 = .ok (.if_icmp .ge 21, 3) := by decide +kernel
theorem dX4_stands_44 : decode cX4_stands 44 = .ok (.aload_n 0, 1) := by decide +kernel
theorem dX4_stands_45 : decode cX4_stands 45 = .ok (.iload 4, 2) := by decide +kernel
theorem dX4_stands_47 : decode cX4_stands 47 = .ok (.iload_n 1, 1) := by decide +kernel
theorem dX4_stands_48 : decode cX4_stands 48 = .ok (.iload_n 2, 1) := by decide +kernel
theorem dX4_stands_49 : decode cX4_stands 49 = .ok (.iload_n 3, 1) := by decide +kernel
theorem dX4_stands_50 : decode cX4_stands 50 = .ok (.invokevirtual 168, 3) := by decide +kernel
theorem dX4_stands_53 : decode cX4_stands 53 = .ok (.ifCond .eq 9, 3) := by decide +kernel
theorem dX4_stands_56 : decode cX4_stands 56 = .ok (.iinc 4 1, 3) := by decide +kernel
theorem dX4_stands_59 : decode cX4_stands 59 = .ok (.goto (-22), 3) := by decide +kernel
theorem dX4_stands_62 : decode cX4_stands 62 = .ok (.iload 4, 2) := by decide +kernel
theorem dX4_stands_64 : decode cX4_stands 64 = .ok (.ireturn, 1) := by decide +kernel
set_option maxRecDepth 20000 in
theorem ggX4_word_X4_isChoice : GoodIn wsX4_word wsX4_isChoice := goodIn_r _ [7] (by decide +kernel) (by decide +kernel)
set_option maxRecDepth 20000 in
theorem gX4_word_X4_isChoice : GoodIn wsX4_word (va_wsS RX4 127 yX4_isChoice wsX4_isChoice) := goodIn_app (goodIn_of _ (by decide +kernel)) ggX4_word_X4_isChoice
set_option maxRecDepth 20000 in
theorem ggX4_word_X0_become : GoodIn wsX4_word wsX0_become := goodIn_r _ [12, 13, 14, 6, 15, 16, 17, 18, 59] (by decide +kernel) (by decide +kernel)
set_option maxRecDepth 20000 in
theorem gX4_word_X0_become : GoodIn wsX4_word (wsV RX4 103 RX0 yX0_become wsX0_become) := goodIn_app (goodIn_of _ (by decide +kernel)) ggX4_word_X0_become
set_option maxRecDepth 20000 in
theorem ggX4_word_X4_denyToAll : GoodIn wsX4_word wsX4_denyToAll := goodIn_r _ [22, 2, 23, 24, 25, 26, 27, 28, 29, 6, 30, 16, 17, 18, 31, 32, 33, 11, 34, 13, 35, 36, 37, 38, 39, 40, 41, 42, 43, 44, 45, 46, 47, 48, 49, 50, 51, 52, 53, 54, 55, 56, 57, 58, 59] (by decide +kernel) (by decide +kernel)
set_option maxRecDepth 20000 in
theorem gX4_word_X4_denyToAll : GoodIn wsX4_word (wsV RX4 172 RX4 yX4_denyToAll wsX4_denyToAll) := goodIn_app (goodIn_of _ (by decide +kernel)) ggX4_word_X4_denyToAll
theorem dX4_word_0 : decode cX4_word 0 = .ok (.iload_n 1, 1) := by decide +kernel
theorem dX4_word_1 : decode cX4_word 1 = .ok (.invokestatic 127, 3) := by decide +kernel
theorem dX4_word_4 : decode cX4_word 4 = .ok (.ifCond .ne 6, 3) := by decide +kernel
theorem dX4_word_7 : decode cX4_word 7 = .ok (.bipush (-2), 2) := by decide +kernel
theorem dX4_word_9 : decode cX4_word 9 = .ok (.ireturn, 1) := by decide +kernel
theorem dX4_word_10 : decode cX4_word 10 = .ok (.iconst 0, 1) := by decide +kernel
theorem dX4_word_11 : decode cX4_word 11 = .ok (.istore_n 2, 1) := by decide +kernel
theorem dX4_word_12 : decode cX4_word 12 = .ok (.iconst 0, 1) := by decide +kernel
theorem dX4_word_13 : decode cX4_word 13 = .ok (.istore_n 3, 1) := by decide +kernel
theorem dX4_word_14 : decode cX4_word 14 = .ok (.iconst 0, 1) := by decide +kernel
theorem dX4_word_15 : decode cX4_word 15 = .ok (.istore 4, 2) := by decide +kernel
theorem dX4_word_17 : decode cX4_word 17 = .ok (.iload 4, 2) := by decide +kernel
theorem dX4_word_19 : decode cX4_word 19 = .ok (.bipush 6, 2) := by decide +kernel
theorem dX4_word_21 : decode cX4_word 21 = .ok (.if_icmp .ge 71, 3) := by decide +kernel
theorem dX4_word_24 : decode cX4_word 24 = .ok (.iconst 0, 1) := by decide +kernel
theorem dX4_word_25 : decode cX4_word 25 = .ok (.istore 5, 2) := by decide +kernel
theorem dX4_word_27 : decode cX4_word 27 = .ok (.iload 5, 2) := by decide +kernel
theorem dX4_word_29 : decode cX4_word 29 = .ok (.bipush 6, 2) := by decide +kernel
theorem dX4_word_31 : decode cX4_word 31 = .ok (.if_icmp .ge 55, 3) := by decide +kernel
theorem dX4_word_34 : decode cX4_word 34 = .ok (.aload_n 0, 1) := by decide +kernel
theorem dX4_word_35 : decode cX4_word 35 = .ok (.getfield 37, 3) := by decide +kernel
theorem dX4_word_38 : decode cX4_word 38 = .ok (.aload_n 0, 1) := by decide +kernel
theorem dX4_word_39 : decode cX4_word 39 = .ok (.getfield 10, 3) := by decide +kernel
theorem dX4_word_42 : decode cX4_word 42 = .ok (.getfield 72, 3) := by decide +kernel
theorem dX4_word_45 : decode cX4_word 45 = .ok (.invokevirtual 103, 3) := by decide +kernel
theorem dX4_word_48 : decode cX4_word 48 = .ok (.aload_n 0, 1) := by decide +kernel
theorem dX4_word_49 : decode cX4_word 49 = .ok (.aload_n 0, 1) := by decide +kernel
theorem dX4_word_50 : decode cX4_word 50 = .ok (.getfield 37, 3) := by decide +kernel
theorem dX4_word_53 : decode cX4_word 53 = .ok (.iload 4, 2) := by decide +kernel
theorem dX4_word_55 : decode cX4_word 55 = .ok (.iload 5, 2) := by decide +kernel
theorem dX4_word_57 : decode cX4_word 57 = .ok (.invokevirtual 172, 3) := by decide +kernel
theorem dX4_word_60 : decode cX4_word 60 = .ok (.istore 6, 2) := by decide +kernel
theorem dX4_word_62 : decode cX4_word 62 = .ok (.iload 6, 2) := by decide +kernel
theorem dX4_word_64 : decode cX4_word 64 = .ok (.iload_n 3, 1) := by decide +kernel
theorem dX4_word_65 : decode cX4_word 65 = .ok (.if_icmp .le 15, 3) := by decide +kernel
theorem dX4_word_68 : decode cX4_word 68 = .ok (.iload 6, 2) := by decide +kernel
theorem dX4_word_70 : decode cX4_word 70 = .ok (.istore_n 3, 1) := by decide +kernel
theorem dX4_word_71 : decode cX4_word 71 = .ok (.bipush 10, 2) := by decide +kernel
theorem dX4_word_73 : decode cX4_word 73 = .ok (.iload 4, 2) := by decide +kernel
theorem dX4_word_75 : decode cX4_word 75 = .ok (.imul, 1) := by decide +kernel
theorem dX4_word_76 : decode cX4_word 76 = .ok (.iload 5, 2) := by decide +kernel
theorem dX4_word_78 : decode cX4_word 78 = .ok (.iadd, 1) := by decide +kernel
theorem dX4_word_79 : decode cX4_word 79 = .ok (.istore_n 2, 1) := by decide +kernel
theorem dX4_word_80 : decode cX4_word 80 = .ok (.iinc 5 1, 3) := by decide +kernel
theorem dX4_word_83 : decode cX4_word 83 = .ok (.goto (-56), 3) := by decide +kernel
theorem dX4_word_86 : decode cX4_word 86 = .ok (.iinc 4 1, 3) := by decide +kernel
theorem dX4_word_89 : decode cX4_word 89 = .ok (.goto (-72), 3) := by decide +kernel
theorem dX4_word_92 : decode cX4_word 92 = .ok (.iload_n 1, 1) := by decide +kernel
theorem dX4_word_93 : decode cX4_word 93 = .ok (.ifCond .ne 7, 3) := by decide +kernel
theorem dX4_word_96 : decode cX4_word 96 = .ok (.iload_n 2, 1) := by decide +kernel
theorem dX4_word_97 : decode cX4_word 97 = .ok (.goto 4, 3) := by decide +kernel
theorem dX4_word_100 : decode cX4_word 100 = .ok (.iload_n 3, 1) := by decide +kernel
theorem dX4_word_101 : decode cX4_word 101 = .ok (.ireturn, 1) := by decide +kernel
set_option maxRecDepth 20000 in
theorem ggX4_rumour_X4_isPlank : GoodIn wsX4_rumour wsX4_isPlank := goodIn_r _ [7, 8, 9, 6, 10] (by decide +kernel) (by decide +kernel)
set_option maxRecDepth 20000 in
theorem gX4_rumour_X4_isPlank : GoodIn wsX4_rumour (va_wsS RX4 48 yX4_isPlank wsX4_isPlank) := goodIn_app (goodIn_of _ (by decide +kernel)) ggX4_rumour_X4_isPlank
set_option maxRecDepth 20000 in
theorem ggX4_rumour_X4_isParty : GoodIn wsX4_rumour wsX4_isParty := goodIn_r _ [13, 8, 9, 6, 10] (by decide +kernel) (by decide +kernel)
set_option maxRecDepth 20000 in
theorem gX4_rumour_X4_isParty : GoodIn wsX4_rumour (va_wsS RX4 124 yX4_isParty wsX4_isParty) := goodIn_app (goodIn_of _ (by decide +kernel)) ggX4_rumour_X4_isParty
set_option maxRecDepth 20000 in
theorem ggX4_rumour_X0_become : GoodIn wsX4_rumour wsX0_become := goodIn_r _ [18, 19, 20, 6, 21, 22, 23, 24, 86] (by decide +kernel) (by decide +kernel)
set_option maxRecDepth 20000 in
theorem gX4_rumour_X0_become : GoodIn wsX4_rumour (wsV RX4 103 RX0 yX0_become wsX0_become) := goodIn_app (goodIn_of _ (by decide +kernel)) ggX4_rumour_X0_become
set_option maxRecDepth 20000 in
theorem ggX4_rumour_X0_load : GoodIn wsX4_rumour wsX0_load := goodIn_r _ [28, 29, 30, 31, 17, 32, 19, 86] (by decide +kernel) (by decide +kernel)
set_option maxRecDepth 20000 in
theorem gX4_rumour_X0_load : GoodIn wsX4_rumour (wsV RX4 142 RX0 yX0_load wsX0_load) := goodIn_app (goodIn_of _ (by decide +kernel)) ggX4_rumour_X0_load
set_option maxRecDepth 20000 in
theorem ggX4_rumour_X4_spread : GoodIn wsX4_rumour wsX4_spread := goodIn_r _ [36, 2, 37, 38, 39, 40, 41, 42, 23, 6, 24, 43, 30, 31, 17, 32, 19, 44, 45, 46, 47, 48, 49, 50, 51, 52, 53, 54, 55, 56, 57, 22, 58, 59, 60, 61, 62, 63, 68, 69, 70, 71, 72, 73, 74, 75, 76, 77, 78, 79, 80, 81, 82, 83, 84, 85, 86] (by decide +kernel) (by decide +kernel)
set_option maxRecDepth 20000 in
theorem gX4_rumour_X4_spread : GoodIn wsX4_rumour (wsV RX4 175 RX4 yX4_spread wsX4_spread) := goodIn_app (goodIn_of _ (by decide +kernel)) ggX4_rumour_X4_spread
set_option maxRecDepth 20000 in
theorem ggX4_rumour_X0_fadeADay : GoodIn wsX4_rumour wsX0_fadeADay := goodIn_r _ [67, 19, 86] (by decide +kernel) (by decide +kernel)
set_option maxRecDepth 20000 in
theorem gX4_rumour_X0_fadeADay : GoodIn wsX4_rumour (wsV RX4 179 RX0 yX0_fadeADay wsX0_fadeADay) := goodIn_app (goodIn_of _ (by decide +kernel)) ggX4_rumour_X0_fadeADay
theorem dX4_rumour_0 : decode cX4_rumour 0 = .ok (.iload_n 1, 1) := by decide +kernel
theorem dX4_rumour_1 : decode cX4_rumour 1 = .ok (.invokestatic 48, 3) := by decide +kernel
theorem dX4_rumour_4 : decode cX4_rumour 4 = .ok (.ifCond .ne 5, 3) := by decide +kernel
theorem dX4_rumour_7 : decode cX4_rumour 7 = .ok (.iconst (-1), 1) := by decide +kernel
theorem dX4_rumour_8 : decode cX4_rumour 8 = .ok (.ireturn, 1) := by decide +kernel
theorem dX4_rumour_9 : decode cX4_rumour 9 = .ok (.iload_n 2, 1) := by decide +kernel
theorem dX4_rumour_10 : decode cX4_rumour 10 = .ok (.invokestatic 124, 3) := by decide +kernel
theorem dX4_rumour_13 : decode cX4_rumour 13 = .ok (.ifCond .ne 6, 3) := by decide +kernel
theorem dX4_rumour_16 : decode cX4_rumour 16 = .ok (.bipush (-2), 2) := by decide +kernel
theorem dX4_rumour_18 : decode cX4_rumour 18 = .ok (.ireturn, 1) := by decide +kernel
theorem dX4_rumour_19 : decode cX4_rumour 19 = .ok (.aload_n 0, 1) := by decide +kernel
theorem dX4_rumour_20 : decode cX4_rumour 20 = .ok (.getfield 37, 3) := by decide +kernel
theorem dX4_rumour_23 : decode cX4_rumour 23 = .ok (.aload_n 0, 1) := by decide +kernel
theorem dX4_rumour_24 : decode cX4_rumour 24 = .ok (.getfield 10, 3) := by decide +kernel
theorem dX4_rumour_27 : decode cX4_rumour 27 = .ok (.getfield 72, 3) := by decide +kernel
theorem dX4_rumour_30 : decode cX4_rumour 30 = .ok (.invokevirtual 103, 3) := by decide +kernel
theorem dX4_rumour_33 : decode cX4_rumour 33 = .ok (.aload_n 0, 1) := by decide +kernel
theorem dX4_rumour_34 : decode cX4_rumour 34 = .ok (.getfield 37, 3) := by decide +kernel
theorem dX4_rumour_37 : decode cX4_rumour 37 = .ok (.iload_n 1, 1) := by decide +kernel
theorem dX4_rumour_38 : decode cX4_rumour 38 = .ok (.iconst 0, 1) := by decide +kernel
theorem dX4_rumour_39 : decode cX4_rumour 39 = .ok (.invokevirtual 142, 3) := by decide +kernel
theorem dX4_rumour_42 : decode cX4_rumour 42 = .ok (.iload_n 2, 1) := by decide +kernel
theorem dX4_rumour_43 : decode cX4_rumour 43 = .ok (.if_icmp .lt 5, 3) := by decide +kernel
theorem dX4_rumour_46 : decode cX4_rumour 46 = .ok (.iconst 0, 1) := by decide +kernel
theorem dX4_rumour_47 : decode cX4_rumour 47 = .ok (.ireturn, 1) := by decide +kernel
theorem dX4_rumour_48 : decode cX4_rumour 48 = .ok (.iconst 1, 1) := by decide +kernel
theorem dX4_rumour_49 : decode cX4_rumour 49 = .ok (.istore_n 3, 1) := by decide +kernel
theorem dX4_rumour_50 : decode cX4_rumour 50 = .ok (.iload_n 3, 1) := by decide +kernel
theorem dX4_rumour_51 : decode cX4_rumour 51 = .ok (.bipush 30, 2) := by decide +kernel
theorem dX4_rumour_53 : decode cX4_rumour 53 = .ok (.if_icmp .gt 40, 3) := by decide +kernel
theorem dX4_rumour_56 : decode cX4_rumour 56 = .ok (.aload_n 0, 1) := by decide +kernel
theorem dX4_rumour_57 : decode cX4_rumour 57 = .ok (.aload_n 0, 1) := by decide +kernel
theorem dX4_rumour_58 : decode cX4_rumour 58 = .ok (.getfield 37, 3) := by decide +kernel
theorem dX4_rumour_61 : decode cX4_rumour 61 = .ok (.iload_n 1, 1) := by decide +kernel
theorem dX4_rumour_62 : decode cX4_rumour 62 = .ok (.invokevirtual 175, 3) := by decide +kernel
theorem dX4_rumour_65 : decode cX4_rumour 65 = .ok (.aload_n 0, 1) := by decide +kernel
theorem dX4_rumour_66 : decode cX4_rumour 66 = .ok (.getfield 37, 3) := by decide +kernel
theorem dX4_rumour_69 : decode cX4_rumour 69 = .ok (.iload_n 1, 1) := by decide +kernel
theorem dX4_rumour_70 : decode cX4_rumour 70 = .ok (.iconst 0, 1) := by decide +kernel
theorem dX4_rumour_71 : decode cX4_rumour 71 = .ok (.invokevirtual 142, 3) := by decide +kernel
theorem dX4_rumour_74 : decode cX4_rumour 74 = .ok (.iload_n 2, 1) := by decide +kernel
theorem dX4_rumour_75 : decode cX4_rumour 75 = .ok (.if_icmp .lt 5, 3) := by decide +kernel
theorem dX4_rumour_78 : decode cX4_rumour 78 = .ok (.iload_n 3, 1) := by decide +kernel
theorem dX4_rumour_79 : decode cX4_rumour 79 = .ok (.ireturn, 1) := by decide +kernel
theorem dX4_rumour_80 : decode cX4_rumour 80 = .ok (.aload_n 0, 1) := by decide +kernel
theorem dX4_rumour_81 : decode cX4_rumour 81 = .ok (.getfield 37, 3) := by decide +kernel
theorem dX4_rumour_84 : decode cX4_rumour 84 = .ok (.invokevirtual 179, 3) := by decide +kernel
theorem dX4_rumour_87 : decode cX4_rumour 87 = .ok (.iinc 3 1, 3) := by decide +kernel
theorem dX4_rumour_90 : decode cX4_rumour 90 = .ok (.goto (-40), 3) := by decide +kernel
theorem dX4_rumour_93 : decode cX4_rumour 93 = .ok (.bipush (-6), 2) := by decide +kernel
theorem dX4_rumour_95 : decode cX4_rumour 95 = .ok (.ireturn, 1) := by decide +kernel
set_option maxRecDepth 20000 in
theorem ggX4_odds_X4_isPlank : GoodIn wsX4_odds wsX4_isPlank := goodIn_r _ [7, 8, 9, 6, 10] (by decide +kernel) (by decide +kernel)
set_option maxRecDepth 20000 in
theorem gX4_odds_X4_isPlank : GoodIn wsX4_odds (va_wsS RX4 48 yX4_isPlank wsX4_isPlank) := goodIn_app (goodIn_of _ (by decide +kernel)) ggX4_odds_X4_isPlank
set_option maxRecDepth 20000 in
theorem ggX4_odds_X4_isPerson : GoodIn wsX4_odds wsX4_isPerson := goodIn_r _ [13, 8, 9, 6, 10] (by decide +kernel) (by decide +kernel)
set_option maxRecDepth 20000 in
theorem gX4_odds_X4_isPerson : GoodIn wsX4_odds (va_wsS RX4 55 yX4_isPerson wsX4_isPerson) := goodIn_app (goodIn_of _ (by decide +kernel)) ggX4_odds_X4_isPerson
set_option maxRecDepth 20000 in
theorem ggX4_odds_X4_isChoice : GoodIn wsX4_odds wsX4_isChoice := goodIn_r _ [16] (by decide +kernel) (by decide +kernel)
set_option maxRecDepth 20000 in
theorem gX4_odds_X4_isChoice : GoodIn wsX4_odds (va_wsS RX4 127 yX4_isChoice wsX4_isChoice) := goodIn_app (goodIn_of _ (by decide +kernel)) ggX4_odds_X4_isChoice
set_option maxRecDepth 20000 in
theorem ggX4_odds_X0_become : GoodIn wsX4_odds wsX0_become := goodIn_r _ [21, 22, 23, 6, 24, 25, 26, 27, 88] (by decide +kernel) (by decide +kernel)
set_option maxRecDepth 20000 in
theorem gX4_odds_X0_become : GoodIn wsX4_odds (wsV RX4 103 RX0 yX0_become wsX0_become) := goodIn_app (goodIn_of _ (by decide +kernel)) ggX4_odds_X0_become
set_option maxRecDepth 20000 in
theorem ggX4_odds_X4_tellToAll : GoodIn wsX4_odds wsX4_tellToAll := goodIn_r _ [31, 2, 32, 33, 34, 35, 36, 37, 38, 39, 40, 41, 42, 43, 44, 26, 6, 27, 45, 46, 47, 20, 48, 22, 49, 50, 25, 51, 52, 53, 54, 55, 56, 70, 71, 72, 73, 74, 75, 76, 77, 78, 79, 80, 81, 82, 83, 84, 85, 86, 87, 88] (by decide +kernel) (by decide +kernel)
set_option maxRecDepth 20000 in
theorem gX4_odds_X4_tellToAll : GoodIn wsX4_odds (wsV RX4 182 RX4 yX4_tellToAll wsX4_tellToAll) := goodIn_app (goodIn_of _ (by decide +kernel)) ggX4_odds_X4_tellToAll
set_option maxRecDepth 20000 in
theorem ggX4_odds_X4_denyToAll : GoodIn wsX4_odds wsX4_denyToAll := goodIn_r _ [60, 2, 61, 62, 63, 35, 64, 37, 49, 6, 50, 25, 26, 27, 45, 46, 47, 20, 48, 22, 51, 52, 53, 54, 55, 56, 70, 71, 72, 73, 74, 75, 76, 77, 78, 79, 80, 81, 82, 83, 84, 85, 86, 87, 88] (by decide +kernel) (by decide +kernel)
set_option maxRecDepth 20000 in
theorem gX4_odds_X4_denyToAll : GoodIn wsX4_odds (wsV RX4 172 RX4 yX4_denyToAll wsX4_denyToAll) := goodIn_app (goodIn_of _ (by decide +kernel)) ggX4_odds_X4_denyToAll
set_option maxRecDepth 20000 in
theorem ggX4_odds_X0_load : GoodIn wsX4_odds wsX0_load := goodIn_r _ [68, 69, 46, 47, 20, 48, 22, 88] (by decide +kernel) (by decide +kernel)
set_option maxRecDepth 20000 in
theorem gX4_odds_X0_load : GoodIn wsX4_odds (wsV RX4 142 RX0 yX0_load wsX0_load) := goodIn_app (goodIn_of _ (by decide +kernel)) ggX4_odds_X0_load
theorem dX4_odds_0 : decode cX4_odds 0 = .ok (.iload_n 1, 1) := by decide +kernel
theorem dX4_odds_1 : decode cX4_odds 1 = .ok (.invokestatic 48, 3) := by decide +kernel
theorem dX4_odds_4 : decode cX4_odds 4 = .ok (.ifCond .eq 22, 3) := by decide +kernel
theorem dX4_odds_7 : decode cX4_odds 7 = .ok (.iload_n 2, 1) := by decide +kernel
theorem dX4_odds_8 : decode cX4_odds 8 = .ok (.invokestatic 55, 3) := by decide +kernel
theorem dX4_odds_11 : decode cX4_odds 11 = .ok (.ifCond .eq 15, 3) := by decide +kernel
theorem dX4_odds_14 : decode cX4_odds 14 = .ok (.iload_n 3, 1) := by decide +kernel
theorem dX4_odds_15 : decode cX4_odds 15 = .ok (.invokestatic 55, 3) := by decide +kernel
theorem dX4_odds_18 : decode cX4_odds 18 = .ok (.ifCond .eq 8, 3) := by decide +kernel
theorem dX4_odds_21 : decode cX4_odds 21 = .ok (.iload_n 2, 1) := by decide +kernel
theorem dX4_odds_22 : decode cX4_odds 22 = .ok (.iload_n 3, 1) := by decide +kernel
theorem dX4_odds_23 : decode cX4_odds 23 = .ok (.if_icmp .ne 5, 3) := by decide +kernel
theorem dX4_odds_26 : decode cX4_odds 26 = .ok (.iconst (-1), 1) := by decide +kernel
theorem dX4_odds_27 : decode cX4_odds 27 = .ok (.ireturn, 1) := by decide +kernel
theorem dX4_odds_28 : decode cX4_odds 28 = .ok (.iload 4, 2) := by decide +kernel
theorem dX4_odds_30 : decode cX4_odds 30 = .ok (.invokestatic 127, 3) := by decide +kernel
theorem dX4_odds_33 : decode cX4_odds 33 = .ok (.ifCond .ne 6, 3) := by decide +kernel
theorem dX4_odds_36 : decode cX4_odds 36 = .ok (.bipush (-2), 2) := by decide +kernel
theorem dX4_odds_38 : decode cX4_odds 38 = .ok (.ireturn, 1) := by decide +kernel
theorem dX4_odds_39 : decode cX4_odds 39 = .ok (.aload_n 0, 1) := by decide +kernel
theorem dX4_odds_40 : decode cX4_odds 40 = .ok (.getfield 37, 3) := by decide +kernel
theorem dX4_odds_43 : decode cX4_odds 43 = .ok (.aload_n 0, 1) := by decide +kernel
theorem dX4_odds_44 : decode cX4_odds 44 = .ok (.getfield 10, 3) := by decide +kernel
theorem dX4_odds_47 : decode cX4_odds 47 = .ok (.getfield 72, 3) := by decide +kernel
theorem dX4_odds_50 : decode cX4_odds 50 = .ok (.invokevirtual 103, 3) := by decide +kernel
theorem dX4_odds_53 : decode cX4_odds 53 = .ok (.iload 4, 2) := by decide +kernel
theorem dX4_odds_55 : decode cX4_odds 55 = .ok (.ifCond .ne 27, 3) := by decide +kernel
theorem dX4_odds_58 : decode cX4_odds 58 = .ok (.aload_n 0, 1) := by decide +kernel
theorem dX4_odds_59 : decode cX4_odds 59 = .ok (.aload_n 0, 1) := by decide +kernel
theorem dX4_odds_60 : decode cX4_odds 60 = .ok (.getfield 37, 3) := by decide +kernel
theorem dX4_odds_63 : decode cX4_odds 63 = .ok (.iload_n 2, 1) := by decide +kernel
theorem dX4_odds_64 : decode cX4_odds 64 = .ok (.iload_n 1, 1) := by decide +kernel
theorem dX4_odds_65 : decode cX4_odds 65 = .ok (.invokevirtual 182, 3) := by decide +kernel
theorem dX4_odds_68 : decode cX4_odds 68 = .ok (.aload_n 0, 1) := by decide +kernel
theorem dX4_odds_69 : decode cX4_odds 69 = .ok (.aload_n 0, 1) := by decide +kernel
theorem dX4_odds_70 : decode cX4_odds 70 = .ok (.getfield 37, 3) := by decide +kernel
theorem dX4_odds_73 : decode cX4_odds 73 = .ok (.iload_n 3, 1) := by decide +kernel
theorem dX4_odds_74 : decode cX4_odds 74 = .ok (.iload_n 1, 1) := by decide +kernel
theorem dX4_odds_75 : decode cX4_odds 75 = .ok (.invokevirtual 172, 3) := by decide +kernel
theorem dX4_odds_78 : decode cX4_odds 78 = .ok (.pop, 1) := by decide +kernel
theorem dX4_odds_79 : decode cX4_odds 79 = .ok (.goto 24, 3) := by decide +kernel
theorem dX4_odds_82 : decode cX4_odds 82 = .ok (.aload_n 0, 1) := by decide +kernel
theorem dX4_odds_83 : decode cX4_odds 83 = .ok (.aload_n 0, 1) := by decide +kernel
theorem dX4_odds_84 : decode cX4_odds 84 = .ok (.getfield 37, 3) := by decide +kernel
theorem dX4_odds_87 : decode cX4_odds 87 = .ok (.iload_n 3, 1) := by decide +kernel
theorem dX4_odds_88 : decode cX4_odds 88 = .ok (.iload_n 1, 1) := by decide +kernel
theorem dX4_odds_89 : decode cX4_odds 89 = .ok (.invokevirtual 172, 3) := by decide +kernel
theorem dX4_odds_92 : decode cX4_odds 92 = .ok (.pop, 1) := by decide +kernel
theorem dX4_odds_93 : decode cX4_odds 93 = .ok (.aload_n 0, 1) := by decide +kernel
theorem dX4_odds_94 : decode cX4_odds 94 = .ok (.aload_n 0, 1) := by decide +kernel
theorem dX4_odds_95 : decode cX4_odds 95 = .ok (.getfield 37, 3) := by decide +kernel
theorem dX4_odds_98 : decode cX4_odds 98 = .ok (.iload_n 2, 1) := by decide +kernel
theorem dX4_odds_99 : decode cX4_odds 99 = .ok (.iload_n 1, 1) := by decide +kernel
theorem dX4_odds_100 : decode cX4_odds 100 = .ok (.invokevirtual 182, 3) := by decide +kernel
theorem dX4_odds_103 : decode cX4_odds 103 = .ok (.aload_n 0, 1) := by decide +kernel
theorem dX4_odds_104 : decode cX4_odds 104 = .ok (.getfield 37, 3) := by decide +kernel
theorem dX4_odds_107 : decode cX4_odds 107 = .ok (.iload_n 1, 1) := by decide +kernel
theorem dX4_odds_108 : decode cX4_odds 108 = .ok (.iconst 0, 1) := by decide +kernel
theorem dX4_odds_109 : decode cX4_odds 109 = .ok (.invokevirtual 142, 3) := by decide +kernel
theorem dX4_odds_112 : decode cX4_odds 112 = .ok (.ireturn, 1) := by decide +kernel
set_option maxRecDepth 20000 in
theorem ggX4_tenths_X4_isPlank : GoodIn wsX4_tenths wsX4_isPlank := goodIn_r _ [6, 7, 8, 5, 9] (by decide +kernel) (by decide +kernel)
set_option maxRecDepth 20000 in
theorem gX4_tenths_X4_isPlank : GoodIn wsX4_tenths (va_wsS RX4 48 yX4_isPlank wsX4_isPlank) := goodIn_app (goodIn_of _ (by decide +kernel)) ggX4_tenths_X4_isPlank
set_option maxRecDepth 20000 in
theorem ggX4_tenths_X4_within : GoodIn wsX4_tenths wsX4_within := goodIn_r _ [9] (by decide +kernel) (by decide +kernel)
set_option maxRecDepth 20000 in
theorem gX4_tenths_X4_within : GoodIn wsX4_tenths (va_wsS RX4 79 yX4_within wsX4_within) := goodIn_app (goodIn_of _ (by decide +kernel)) ggX4_tenths_X4_within
set_option maxRecDepth 20000 in
theorem ggX4_tenths_X4_at : GoodIn wsX4_tenths wsX4_at := goodIn_r _ [12] (by decide +kernel) (by decide +kernel)
set_option maxRecDepth 20000 in
theorem gX4_tenths_X4_at : GoodIn wsX4_tenths (va_wsS RX4 134 yX4_at wsX4_at) := goodIn_app (goodIn_of _ (by decide +kernel)) ggX4_tenths_X4_at
set_option maxRecDepth 20000 in
theorem ggX4_tenths_X4_put : GoodIn wsX4_tenths wsX4_put := goodIn_r _ [15] (by decide +kernel) (by decide +kernel)
set_option maxRecDepth 20000 in
theorem gX4_tenths_X4_put : GoodIn wsX4_tenths (va_wsS RX4 189 yX4_put wsX4_put) := goodIn_app (goodIn_of _ (by decide +kernel)) ggX4_tenths_X4_put
theorem dX4_tenths_0 : decode cX4_tenths 0 = .ok (.iload_n 1, 1) := by decide +kernel
theorem dX4_tenths_1 : decode cX4_tenths 1 = .ok (.invokestatic 48, 3) := by decide +kernel
theorem dX4_tenths_4 : decode cX4_tenths 4 = .ok (.ifCond .ne 5, 3) := by decide +kernel
theorem dX4_tenths_7 : decode cX4_tenths 7 = .ok (.iconst (-1), 1) := by decide +kernel
theorem dX4_tenths_8 : decode cX4_tenths 8 = .ok (.ireturn, 1) := by decide +kernel
theorem dX4_tenths_9 : decode cX4_tenths 9 = .ok (.iload_n 2, 1) := by decide +kernel
theorem dX4_tenths_10 : decode cX4_tenths 10 = .ok (.iconst 0, 1) := by decide +kernel
theorem dX4_tenths_11 : decode cX4_tenths 11 = .ok (.bipush 10, 2) := by decide +kernel
theorem dX4_tenths_13 : decode cX4_tenths 13 = .ok (.invokestatic 79, 3) := by decide +kernel
theorem dX4_tenths_16 : decode cX4_tenths 16 = .ok (.ifCond .ne 6, 3) := by decide +kernel
theorem dX4_tenths_19 : decode cX4_tenths 19 = .ok (.bipush (-2), 2) := by decide +kernel
theorem dX4_tenths_21 : decode cX4_tenths 21 = .ok (.ireturn, 1) := by decide +kernel
theorem dX4_tenths_22 : decode cX4_tenths 22 = .ok (.aload_n 0, 1) := by decide +kernel
theorem dX4_tenths_23 : decode cX4_tenths 23 = .ok (.getfield 10, 3) := by decide +kernel
theorem dX4_tenths_26 : decode cX4_tenths 26 = .ok (.getfield 186, 3) := by decide +kernel
theorem dX4_tenths_29 : decode cX4_tenths 29 = .ok (.iload_n 1, 1) := by decide +kernel
theorem dX4_tenths_30 : decode cX4_tenths 30 = .ok (.invokestatic 134, 3) := by decide +kernel
theorem dX4_tenths_33 : decode cX4_tenths 33 = .ok (.istore_n 3, 1) := by decide +kernel
theorem dX4_tenths_34 : decode cX4_tenths 34 = .ok (.aload_n 0, 1) := by decide +kernel
theorem dX4_tenths_35 : decode cX4_tenths 35 = .ok (.getfield 10, 3) := by decide +kernel
theorem dX4_tenths_38 : decode cX4_tenths 38 = .ok (.getfield 186, 3) := by decide +kernel
theorem dX4_tenths_41 : decode cX4_tenths 41 = .ok (.iload_n 1, 1) := by decide +kernel
theorem dX4_tenths_42 : decode cX4_tenths 42 = .ok (.iload_n 2, 1) := by decide +kernel
theorem dX4_tenths_43 : decode cX4_tenths 43 = .ok (.invokestatic 189, 3) := by decide +kernel
theorem dX4_tenths_46 : decode cX4_tenths 46 = .ok (.iload_n 3, 1) := by decide +kernel
theorem dX4_tenths_47 : decode cX4_tenths 47 = .ok (.ireturn, 1) := by decide +kernel
set_option maxRecDepth 20000 in
theorem ggX4_safe_X4_isIsland : GoodIn wsX4_safe wsX4_isIsland := goodIn_r _ [5, 6, 7, 4, 8] (by decide +kernel) (by decide +kernel)
set_option maxRecDepth 20000 in
theorem gX4_safe_X4_isIsland : GoodIn wsX4_safe (va_wsS RX4 52 yX4_isIsland wsX4_isIsland) := goodIn_app (goodIn_of _ (by decide +kernel)) ggX4_safe_X4_isIsland
set_option maxRecDepth 20000 in
theorem ggX4_safe_X4_findSafest : GoodIn wsX4_safe wsX4_findSafest := goodIn_r _ [12, 1, 13, 14, 15, 16, 4, 17, 18, 19, 20, 21, 22, 23, 24, 25, 26, 27, 28, 29, 30, 31, 32, 33, 34, 35, 36, 37, 38, 39, 40, 41, 42, 43, 44, 45, 46, 47, 48, 49, 50, 51, 52, 53, 54, 55, 56, 57, 58, 59, 60, 61, 62, 63, 64, 65, 66, 67, 68, 6, 7, 8, 73, 74, 75, 76, 77, 78, 79, 80, 81, 82, 83, 84, 85, 86, 87, 88, 89, 90, 91, 92, 93, 94, 95, 96, 97] (by decide +kernel) (by decide +kernel)
set_option maxRecDepth 20000 in
theorem gX4_safe_X4_findSafest : GoodIn wsX4_safe (wsV RX4 193 RX4 yX4_findSafest wsX4_findSafest) := goodIn_app (goodIn_of _ (by decide +kernel)) ggX4_safe_X4_findSafest
set_option maxRecDepth 20000 in
theorem ggX4_safe_X3_step : GoodIn wsX4_safe wsX3_step := goodIn_r _ [72, 37, 48, 16, 4, 17, 91, 92, 93, 94, 95, 96, 97] (by decide +kernel) (by decide +kernel)
set_option maxRecDepth 20000 in
theorem gX4_safe_X3_step : GoodIn wsX4_safe (wsV RX4 164 RX3 yX3_step wsX3_step) := goodIn_app (goodIn_of _ (by decide +kernel)) ggX4_safe_X3_step
theorem dX4_safe_0 : decode cX4_safe 0 = .ok (.iload_n 1, 1) := by decide +kernel
theorem dX4_safe_1 : decode cX4_safe 1 = .ok (.invokestatic 52, 3) := by decide +kernel
theorem dX4_safe_4 : decode cX4_safe 4 = .ok (.ifCond .eq 10, 3) := by decide +kernel
theorem dX4_safe_7 : decode cX4_safe 7 = .ok (.iload_n 2, 1) := by decide +kernel
theorem dX4_safe_8 : decode cX4_safe 8 = .ok (.invokestatic 52, 3) := by decide +kernel
theorem dX4_safe_11 : decode cX4_safe 11 = .ok (.ifCond .ne 5, 3) := by decide +kernel
theorem dX4_safe_14 : decode cX4_safe 14 = .ok (.iconst (-1), 1) := by decide +kernel
theorem dX4_safe_15 : decode cX4_safe 15 = .ok (.ireturn, 1) := by decide +kernel
theorem dX4_safe_16 : decode cX4_safe 16 = .ok (.aload_n 0, 1) := by decide +kernel
theorem dX4_safe_17 : decode cX4_safe 17 = .ok (.iload_n 1, 1) := by decide +kernel
theorem dX4_safe_18 : decode cX4_safe 18 = .ok (.iload_n 2, 1) := by decide +kernel
theorem dX4_safe_19 : decode cX4_safe 19 = .ok (.invokevirtual 193, 3) := by decide +kernel
theorem dX4_safe_22 : decode cX4_safe 22 = .ok (.aload_n 0, 1) := by decide +kernel
theorem dX4_safe_23 : decode cX4_safe 23 = .ok (.getfield 30, 3) := by decide +kernel
theorem dX4_safe_26 : decode cX4_safe 26 = .ok (.iload_n 3, 1) := by decide +kernel
theorem dX4_safe_27 : decode cX4_safe 27 = .ok (.invokevirtual 164, 3) := by decide +kernel
theorem dX4_safe_30 : decode cX4_safe 30 = .ok (.ireturn, 1) := by decide +kernel
set_option maxRecDepth 20000 in
theorem ggX4_chance_X4_isIsland : GoodIn wsX4_chance wsX4_isIsland := goodIn_r _ [9, 10, 11, 8, 12] (by decide +kernel) (by decide +kernel)
set_option maxRecDepth 20000 in
theorem gX4_chance_X4_isIsland : GoodIn wsX4_chance (va_wsS RX4 52 yX4_isIsland wsX4_isIsland) := goodIn_app (goodIn_of _ (by decide +kernel)) ggX4_chance_X4_isIsland
set_option maxRecDepth 20000 in
theorem ggX4_chance_X4_isChoice : GoodIn wsX4_chance wsX4_isChoice := goodIn_r _ [15] (by decide +kernel) (by decide +kernel)
set_option maxRecDepth 20000 in
theorem gX4_chance_X4_isChoice : GoodIn wsX4_chance (va_wsS RX4 127 yX4_isChoice wsX4_isChoice) := goodIn_app (goodIn_of _ (by decide +kernel)) ggX4_chance_X4_isChoice
set_option maxRecDepth 20000 in
theorem ggX4_chance_X4_findSafest : GoodIn wsX4_chance wsX4_findSafest := goodIn_r _ [19, 3, 20, 21, 22, 23, 8, 24, 25, 26, 27, 28, 29, 30, 31, 32, 33, 34, 35, 36, 37, 38, 39, 40, 41, 42, 43, 44, 45, 46, 47, 48, 49, 50, 51, 52, 53, 54, 55, 56, 57, 58, 59, 60, 61, 62, 63, 64, 65, 66, 67, 68, 69, 70, 71, 72, 73, 74, 75, 10, 11, 12, 80, 81, 82, 83, 84, 85, 86, 94, 95, 96, 97, 98, 99, 100, 101, 102, 103, 104, 87, 88, 89, 90, 91, 92, 93] (by decide +kernel) (by decide +kernel)
set_option maxRecDepth 20000 in
theorem gX4_chance_X4_findSafest : GoodIn wsX4_chance (wsV RX4 193 RX4 yX4_findSafest wsX4_findSafest) := goodIn_app (goodIn_of _ (by decide +kernel)) ggX4_chance_X4_findSafest
set_option maxRecDepth 20000 in
theorem ggX4_chance_X3_found : GoodIn wsX4_chance wsX3_found := goodIn_r _ [59, 44, 87, 88, 89, 90, 91, 92, 93] (by decide +kernel) (by decide +kernel)
set_option maxRecDepth 20000 in
theorem gX4_chance_X3_found : GoodIn wsX4_chance (wsV RX4 156 RX3 yX3_found wsX3_found) := goodIn_app (goodIn_of _ (by decide +kernel)) ggX4_chance_X3_found
set_option maxRecDepth 20000 in
theorem ggX4_chance_X4_sharedDivisor : GoodIn wsX4_chance wsX4_sharedDivisor := goodIn_r _ [79] (by decide +kernel) (by decide +kernel)
set_option maxRecDepth 20000 in
theorem gX4_chance_X4_sharedDivisor : GoodIn wsX4_chance (va_wsS RX4 202 yX4_sharedDivisor wsX4_sharedDivisor) := goodIn_app (goodIn_of _ (by decide +kernel)) ggX4_chance_X4_sharedDivisor
theorem dX4_chance_0 : decode cX4_chance 0 = .ok (.iload_n 1, 1) := by decide +kernel
theorem dX4_chance_1 : decode cX4_chance 1 = .ok (.invokestatic 52, 3) := by decide +kernel
theorem dX4_chance_4 : decode cX4_chance 4 = .ok (.ifCond .eq 10, 3) := by decide +kernel
theorem dX4_chance_7 : decode cX4_chance 7 = .ok (.iload_n 2, 1) := by decide +kernel
theorem dX4_chance_8 : decode cX4_chance 8 = .ok (.invokestatic 52, 3) := by decide +kernel
theorem dX4_chance_11 : decode cX4_chance 11 = .ok (.ifCond .ne 7, 3) := by decide +kernel
theorem dX4_chance_14 : decode cX4_chance 14 = .ok (.ldc2_w 196, 3) := by decide +kernel
theorem dX4_chance_17 : decode cX4_chance 17 = .ok (.lreturn, 1) := by decide +kernel
theorem dX4_chance_18 : decode cX4_chance 18 = .ok (.iload_n 3, 1) := by decide +kernel
theorem dX4_chance_19 : decode cX4_chance 19 = .ok (.invokestatic 127, 3) := by decide +kernel
theorem dX4_chance_22 : decode cX4_chance 22 = .ok (.ifCond .ne 7, 3) := by decide +kernel
theorem dX4_chance_25 : decode cX4_chance 25 = .ok (.ldc2_w 198, 3) := by decide +kernel
theorem dX4_chance_28 : decode cX4_chance 28 = .ok (.lreturn, 1) := by decide +kernel
theorem dX4_chance_29 : decode cX4_chance 29 = .ok (.aload_n 0, 1) := by decide +kernel
theorem dX4_chance_30 : decode cX4_chance 30 = .ok (.iload_n 1, 1) := by decide +kernel
theorem dX4_chance_31 : decode cX4_chance 31 = .ok (.iload_n 2, 1) := by decide +kernel
theorem dX4_chance_32 : decode cX4_chance 32 = .ok (.invokevirtual 193, 3) := by decide +kernel
theorem dX4_chance_35 : decode cX4_chance 35 = .ok (.aload_n 0, 1) := by decide +kernel
theorem dX4_chance_36 : decode cX4_chance 36 = .ok (.getfield 30, 3) := by decide +kernel
theorem dX4_chance_39 : decode cX4_chance 39 = .ok (.invokevirtual 156, 3) := by decide +kernel
theorem dX4_chance_42 : decode cX4_chance 42 = .ok (.ifCond .eq 13, 3) := by decide +kernel
theorem dX4_chance_45 : decode cX4_chance 45 = .ok (.aload_n 0, 1) := by decide +kernel
theorem dX4_chance_46 : decode cX4_chance 46 = .ok (.getfield 30, 3) := by decide +kernel
theorem dX4_chance_49 : decode cX4_chance 49 = .ok (.getfield 160, 3) := by decide +kernel
theorem dX4_chance_52 : decode cX4_chance 52 = .ok (.goto 4, 3) := by decide +kernel
theorem dX4_chance_55 : decode cX4_chance 55 = .ok (.lconst 0, 1) := by decide +kernel
theorem dX4_chance_56 : decode cX4_chance 56 = .ok (.lstore 4, 2) := by decide +kernel
theorem dX4_chance_58 : decode cX4_chance 58 = .ok (.ldc2_w 200, 3) := by decide +kernel
theorem dX4_chance_61 : decode cX4_chance 61 = .ok (.lload 4, 2) := by decide +kernel
theorem dX4_chance_63 : decode cX4_chance 63 = .ok (.invokestatic 202, 3) := by decide +kernel
theorem dX4_chance_66 : decode cX4_chance 66 = .ok (.lstore 6, 2) := by decide +kernel
theorem dX4_chance_68 : decode cX4_chance 68 = .ok (.lload 6, 2) := by decide +kernel
theorem dX4_chance_70 : decode cX4_chance 70 = .ok (.lconst 0, 1) := by decide +kernel
theorem dX4_chance_71 : decode cX4_chance 71 = .ok (.lcmp, 1) := by decide +kernel
theorem dX4_chance_72 : decode cX4_chance 72 = .ok (.ifCond .gt 5, 3) := by decide +kernel
theorem dX4_chance_75 : decode cX4_chance 75 = .ok (.lconst 0, 1) := by decide +kernel
theorem dX4_chance_76 : decode cX4_chance 76 = .ok (.lreturn, 1) := by decide +kernel
theorem dX4_chance_77 : decode cX4_chance 77 = .ok (.iload_n 3, 1) := by decide +kernel
theorem dX4_chance_78 : decode cX4_chance 78 = .ok (.ifCond .ne 11, 3) := by decide +kernel
theorem dX4_chance_81 : decode cX4_chance 81 = .ok (.lload 4, 2) := by decide +kernel
theorem dX4_chance_83 : decode cX4_chance 83 = .ok (.lload 6, 2) := by decide +kernel
theorem dX4_chance_85 : decode cX4_chance 85 = .ok (.ldiv, 1) := by decide +kernel
theorem dX4_chance_86 : decode cX4_chance 86 = .ok (.goto 9, 3) := by decide +kernel
theorem dX4_chance_89 : decode cX4_chance 89 = .ok (.ldc2_w 200, 3) := by decide +kernel
theorem dX4_chance_92 : decode cX4_chance 92 = .ok (.lload 6, 2) := by decide +kernel
theorem dX4_chance_94 : decode cX4_chance 94 = .ok (.ldiv, 1) := by decide +kernel
theorem dX4_chance_95 : decode cX4_chance 95 = .ok (.lreturn, 1) := by decide +kernel
set_option maxRecDepth 20000 in
theorem ggX4_seen_X4_isPlank : GoodIn wsX4_seen wsX4_isPlank := goodIn_r _ [8, 9, 10, 7, 11] (by decide +kernel) (by decide +kernel)
set_option maxRecDepth 20000 in
theorem gX4_seen_X4_isPlank : GoodIn wsX4_seen (va_wsS RX4 48 yX4_isPlank wsX4_isPlank) := goodIn_app (goodIn_of _ (by decide +kernel)) ggX4_seen_X4_isPlank
set_option maxRecDepth 20000 in
theorem ggX4_seen_X4_within : GoodIn wsX4_seen wsX4_within := goodIn_r _ [11] (by decide +kernel) (by decide +kernel)
set_option maxRecDepth 20000 in
theorem gX4_seen_X4_within : GoodIn wsX4_seen (va_wsS RX4 79 yX4_within wsX4_within) := goodIn_app (goodIn_of _ (by decide +kernel)) ggX4_seen_X4_within
set_option maxRecDepth 20000 in
theorem ggX4_seen_X4_put : GoodIn wsX4_seen wsX4_put := goodIn_r _ [14] (by decide +kernel) (by decide +kernel)
set_option maxRecDepth 20000 in
theorem gX4_seen_X4_put : GoodIn wsX4_seen (va_wsS RX4 189 yX4_put wsX4_put) := goodIn_app (goodIn_of _ (by decide +kernel)) ggX4_seen_X4_put
theorem dX4_seen_0 : decode cX4_seen 0 = .ok (.iload_n 1, 1) := by decide +kernel
theorem dX4_seen_1 : decode cX4_seen 1 = .ok (.invokestatic 48, 3) := by decide +kernel
theorem dX4_seen_4 : decode cX4_seen 4 = .ok (.ifCond .ne 5, 3) := by decide +kernel
theorem dX4_seen_7 : decode cX4_seen 7 = .ok (.iconst (-1), 1) := by decide +kernel
theorem dX4_seen_8 : decode cX4_seen 8 = .ok (.ireturn, 1) := by decide +kernel
theorem dX4_seen_9 : decode cX4_seen 9 = .ok (.iload_n 2, 1) := by decide +kernel
theorem dX4_seen_10 : decode cX4_seen 10 = .ok (.iconst 0, 1) := by decide +kernel
theorem dX4_seen_11 : decode cX4_seen 11 = .ok (.bipush 6, 2) := by decide +kernel
theorem dX4_seen_13 : decode cX4_seen 13 = .ok (.invokestatic 79, 3) := by decide +kernel
theorem dX4_seen_16 : decode cX4_seen 16 = .ok (.ifCond .ne 6, 3) := by decide +kernel
theorem dX4_seen_19 : decode cX4_seen 19 = .ok (.bipush (-2), 2) := by decide +kernel
theorem dX4_seen_21 : decode cX4_seen 21 = .ok (.ireturn, 1) := by decide +kernel
theorem dX4_seen_22 : decode cX4_seen 22 = .ok (.aload_n 0, 1) := by decide +kernel
theorem dX4_seen_23 : decode cX4_seen 23 = .ok (.getfield 10, 3) := by decide +kernel
theorem dX4_seen_26 : decode cX4_seen 26 = .ok (.getfield 206, 3) := by decide +kernel
theorem dX4_seen_29 : decode cX4_seen 29 = .ok (.bipush 6, 2) := by decide +kernel
theorem dX4_seen_31 : decode cX4_seen 31 = .ok (.if_icmp .lt 6, 3) := by decide +kernel
theorem dX4_seen_34 : decode cX4_seen 34 = .ok (.bipush (-4), 2) := by decide +kernel
theorem dX4_seen_36 : decode cX4_seen 36 = .ok (.ireturn, 1) := by decide +kernel
theorem dX4_seen_37 : decode cX4_seen 37 = .ok (.aload_n 0, 1) := by decide +kernel
theorem dX4_seen_38 : decode cX4_seen 38 = .ok (.getfield 10, 3) := by decide +kernel
theorem dX4_seen_41 : decode cX4_seen 41 = .ok (.getfield 209, 3) := by decide +kernel
theorem dX4_seen_44 : decode cX4_seen 44 = .ok (.aload_n 0, 1) := by decide +kernel
theorem dX4_seen_45 : decode cX4_seen 45 = .ok (.getfield 10, 3) := by decide +kernel
theorem dX4_seen_48 : decode cX4_seen 48 = .ok (.getfield 206, 3) := by decide +kernel
theorem dX4_seen_51 : decode cX4_seen 51 = .ok (.iload_n 1, 1) := by decide +kernel
theorem dX4_seen_52 : decode cX4_seen 52 = .ok (.invokestatic 189, 3) := by decide +kernel
theorem dX4_seen_55 : decode cX4_seen 55 = .ok (.aload_n 0, 1) := by decide +kernel
theorem dX4_seen_56 : decode cX4_seen 56 = .ok (.getfield 10, 3) := by decide +kernel
theorem dX4_seen_59 : decode cX4_seen 59 = .ok (.getfield 212, 3) := by decide +kernel
theorem dX4_seen_62 : decode cX4_seen 62 = .ok (.aload_n 0, 1) := by decide +kernel
theorem dX4_seen_63 : decode cX4_seen 63 = .ok (.getfield 10, 3) := by decide +kernel
theorem dX4_seen_66 : decode cX4_seen 66 = .ok (.getfield 206, 3) := by decide +kernel
theorem dX4_seen_69 : decode cX4_seen 69 = .ok (.iload_n 2, 1) := by decide +kernel
theorem dX4_seen_70 : decode cX4_seen 70 = .ok (.invokestatic 189, 3) := by decide +kernel
theorem dX4_seen_73 : decode cX4_seen 73 = .ok (.aload_n 0, 1) := by decide +kernel
theorem dX4_seen_74 : decode cX4_seen 74 = .ok (.getfield 10, 3) := by decide +kernel
theorem dX4_seen_77 : decode cX4_seen 77 = .ok (.dup, 1) := by decide +kernel
theorem dX4_seen_78 : decode cX4_seen 78 = .ok (.getfield 206, 3) := by decide +kernel
theorem dX4_seen_81 : decode cX4_seen 81 = .ok (.iconst 1, 1) := by decide +kernel
theorem dX4_seen_82 : decode cX4_seen 82 = .ok (.iadd, 1) := by decide +kernel
theorem dX4_seen_83 : decode cX4_seen 83 = .ok (.putfield 206, 3) := by decide +kernel
theorem dX4_seen_86 : decode cX4_seen 86 = .ok (.aload_n 0, 1) := by decide +kernel
theorem dX4_seen_87 : decode cX4_seen 87 = .ok (.getfield 10, 3) := by decide +kernel
theorem dX4_seen_90 : decode cX4_seen 90 = .ok (.getfield 206, 3) := by decide +kernel
theorem dX4_seen_93 : decode cX4_seen 93 = .ok (.ireturn, 1) := by decide +kernel
theorem dX4_forget_0 : decode cX4_forget 0 = .ok (.aload_n 0, 1) := by decide +kernel
theorem dX4_forget_1 : decode cX4_forget 1 = .ok (.getfield 10, 3) := by decide +kernel
theorem dX4_forget_4 : decode cX4_forget 4 = .ok (.getfield 206, 3) := by decide +kernel
theorem dX4_forget_7 : decode cX4_forget 7 = .ok (.istore_n 1, 1) := by decide +kernel
theorem dX4_forget_8 : decode cX4_forget 8 = .ok (.aload_n 0, 1) := by decide +kernel
theorem dX4_forget_9 : decode cX4_forget 9 = .ok (.getfield 10, 3) := by decide +kernel
theorem dX4_forget_12 : decode cX4_forget 12 = .ok (.iconst 0, 1) := by decide +kernel
theorem dX4_forget_13 : decode cX4_forget 13 = .ok (.putfield 206, 3) := by decide +kernel
theorem dX4_forget_16 : decode cX4_forget 16 = .ok (.iload_n 1, 1) := by decide +kernel
theorem dX4_forget_17 : decode cX4_forget 17 = .ok (.ireturn, 1) := by decide +kernel
set_option maxRecDepth 20000 in
theorem ggX4_filled_X2_read : GoodIn wsX4_filled wsX2_read := goodIn_r _ [8, 9, 10, 11, 12, 13, 14, 15, 16, 17, 18, 7, 19, 20, 21, 22, 23, 24, 25, 26, 27, 28, 29, 30, 31, 32, 33, 34, 35, 36, 37, 38, 39, 40, 41, 42, 43, 44, 45, 46, 47, 48, 49, 50, 51, 52, 129, 130, 131, 132, 133, 134, 135, 136] (by decide +kernel) (by decide +kernel)
end
section
set_option maxRecDepth 20000 in
theorem gX4_filled_X2_read : GoodIn wsX4_filled (wsV RX4 96 RX2 yX2_read wsX2_read) := goodIn_app (goodIn_of _ (by decide +kernel)) ggX4_filled_X2_read
set_option maxRecDepth 20000 in
theorem ggX4_filled_X4_guess : GoodIn wsX4_filled wsX4_guess := goodIn_r _ [56, 1, 2, 3, 57, 25, 14, 26, 122, 123, 124, 125, 126, 127, 128, 129, 130, 131, 132, 133, 134, 135, 136] (by decide +kernel) (by decide +kernel)
set_option maxRecDepth 20000 in
theorem gX4_filled_X4_guess : GoodIn wsX4_filled (wsV RX4 218 RX4 yX4_guess wsX4_guess) := goodIn_app (goodIn_of _ (by decide +kernel)) ggX4_filled_X4_guess
set_option maxRecDepth 20000 in
theorem ggX4_filled_X4_fits : GoodIn wsX4_filled wsX4_fits := goodIn_r _ [61, 62, 63, 64, 1, 65, 66, 67, 68, 69, 70, 71, 72, 73, 74, 75, 14, 76, 77, 13, 15, 78, 79, 80, 81, 82, 83, 3, 84, 85, 86, 87, 88, 89, 90, 91, 92, 93, 94, 95, 96, 97, 98, 99, 100, 101, 102, 103, 104, 105, 106, 107, 108, 109, 110, 111, 112, 25, 26, 113, 114, 115, 116, 117, 118, 119, 120, 121, 122, 123, 124, 125, 126, 127, 128, 137, 138, 139, 140, 141, 142, 143, 144, 145, 146, 147, 129, 130, 131, 132, 133, 134, 135, 136, 148] (by decide +kernel) (by decide +kernel)
set_option maxRecDepth 20000 in
theorem gX4_filled_X4_fits : GoodIn wsX4_filled (wsV RX4 222 RX4 yX4_fits wsX4_fits) := goodIn_app (goodIn_of _ (by decide +kernel)) ggX4_filled_X4_fits
set_option maxRecDepth 20000 in
theorem ggX4_filled_X4_at : GoodIn wsX4_filled wsX4_at := goodIn_r _ [15] (by decide +kernel) (by decide +kernel)
set_option maxRecDepth 20000 in
theorem gX4_filled_X4_at : GoodIn wsX4_filled (va_wsS RX4 134 yX4_at wsX4_at) := goodIn_app (goodIn_of _ (by decide +kernel)) ggX4_filled_X4_at
theorem dX4_filled_0 : decode cX4_filled 0 = .ok (.aload_n 0, 1) := by decide +kernel
theorem dX4_filled_1 : decode cX4_filled 1 = .ok (.getfield 23, 3) := by decide +kernel
theorem dX4_filled_4 : decode cX4_filled 4 = .ok (.invokevirtual 96, 3) := by decide +kernel
theorem dX4_filled_7 : decode cX4_filled 7 = .ok (.bipush (-6), 2) := by decide +kernel
theorem dX4_filled_9 : decode cX4_filled 9 = .ok (.if_icmp .eq 6, 3) := by decide +kernel
theorem dX4_filled_12 : decode cX4_filled 12 = .ok (.bipush (-5), 2) := by decide +kernel
theorem dX4_filled_14 : decode cX4_filled 14 = .ok (.ireturn, 1) := by decide +kernel
theorem dX4_filled_15 : decode cX4_filled 15 = .ok (.iconst 0, 1) := by decide +kernel
theorem dX4_filled_16 : decode cX4_filled 16 = .ok (.istore_n 2, 1) := by decide +kernel
theorem dX4_filled_17 : decode cX4_filled 17 = .ok (.iconst 0, 1) := by decide +kernel
theorem dX4_filled_18 : decode cX4_filled 18 = .ok (.istore_n 3, 1) := by decide +kernel
theorem dX4_filled_19 : decode cX4_filled 19 = .ok (.iconst 1, 1) := by decide +kernel
theorem dX4_filled_20 : decode cX4_filled 20 = .ok (.istore 4, 2) := by decide +kernel
theorem dX4_filled_22 : decode cX4_filled 22 = .ok (.iconst 0, 1) := by decide +kernel
theorem dX4_filled_23 : decode cX4_filled 23 = .ok (.istore 5, 2) := by decide +kernel
theorem dX4_filled_25 : decode cX4_filled 25 = .ok (.iload 5, 2) := by decide +kernel
theorem dX4_filled_27 : decode cX4_filled 27 = .ok (.aload_n 0, 1) := by decide +kernel
theorem dX4_filled_28 : decode cX4_filled 28 = .ok (.getfield 23, 3) := by decide +kernel
theorem dX4_filled_31 : decode cX4_filled 31 = .ok (.getfield 215, 3) := by decide +kernel
theorem dX4_filled_34 : decode cX4_filled 34 = .ok (.if_icmp .ge 16, 3) := by decide +kernel
theorem dX4_filled_37 : decode cX4_filled 37 = .ok (.iload 4, 2) := by decide +kernel
theorem dX4_filled_39 : decode cX4_filled 39 = .ok (.bipush 6, 2) := by decide +kernel
theorem dX4_filled_41 : decode cX4_filled 41 = .ok (.imul, 1) := by decide +kernel
theorem dX4_filled_42 : decode cX4_filled 42 = .ok (.istore 4, 2) := by decide +kernel
theorem dX4_filled_44 : decode cX4_filled 44 = .ok (.iinc 5 1, 3) := by decide +kernel
theorem dX4_filled_47 : decode cX4_filled 47 = .ok (.goto (-22), 3) := by decide +kernel
theorem dX4_filled_50 : decode cX4_filled 50 = .ok (.iconst 0, 1) := by decide +kernel
theorem dX4_filled_51 : decode cX4_filled 51 = .ok (.istore 5, 2) := by decide +kernel
theorem dX4_filled_53 : decode cX4_filled 53 = .ok (.iload 5, 2) := by decide +kernel
theorem dX4_filled_55 : decode cX4_filled 55 = .ok (.iload 4, 2) := by decide +kernel
theorem dX4_filled_57 : decode cX4_filled 57 = .ok (.if_icmp .ge 36, 3) := by decide +kernel
theorem dX4_filled_60 : decode cX4_filled 60 = .ok (.aload_n 0, 1) := by decide +kernel
theorem dX4_filled_61 : decode cX4_filled 61 = .ok (.iload 5, 2) := by decide +kernel
theorem dX4_filled_63 : decode cX4_filled 63 = .ok (.invokevirtual 218, 3) := by decide +kernel
theorem dX4_filled_66 : decode cX4_filled 66 = .ok (.aload_n 0, 1) := by decide +kernel
theorem dX4_filled_67 : decode cX4_filled 67 = .ok (.invokevirtual 222, 3) := by decide +kernel
theorem dX4_filled_70 : decode cX4_filled 70 = .ok (.ifCond .eq 17, 3) := by decide +kernel
theorem dX4_filled_73 : decode cX4_filled 73 = .ok (.iload_n 2, 1) := by decide +kernel
theorem dX4_filled_74 : decode cX4_filled 74 = .ok (.ifCond .ne 8, 3) := by decide +kernel
theorem dX4_filled_77 : decode cX4_filled 77 = .ok (.iload 5, 2) := by decide +kernel
theorem dX4_filled_79 : decode cX4_filled 79 = .ok (.goto 4, 3) := by decide +kernel
theorem dX4_filled_82 : decode cX4_filled 82 = .ok (.iload_n 3, 1) := by decide +kernel
theorem dX4_filled_83 : decode cX4_filled 83 = .ok (.istore_n 3, 1) := by decide +kernel
theorem dX4_filled_84 : decode cX4_filled 84 = .ok (.iinc 2 1, 3) := by decide +kernel
theorem dX4_filled_87 : decode cX4_filled 87 = .ok (.iinc 5 1, 3) := by decide +kernel
theorem dX4_filled_90 : decode cX4_filled 90 = .ok (.goto (-37), 3) := by decide +kernel
theorem dX4_filled_93 : decode cX4_filled 93 = .ok (.iload_n 1, 1) := by decide +kernel
theorem dX4_filled_94 : decode cX4_filled 94 = .ok (.iconst (-1), 1) := by decide +kernel
theorem dX4_filled_95 : decode cX4_filled 95 = .ok (.if_icmp .ne 5, 3) := by decide +kernel
theorem dX4_filled_98 : decode cX4_filled 98 = .ok (.iload_n 2, 1) := by decide +kernel
theorem dX4_filled_99 : decode cX4_filled 99 = .ok (.ireturn, 1) := by decide +kernel
theorem dX4_filled_100 : decode cX4_filled 100 = .ok (.iload_n 2, 1) := by decide +kernel
theorem dX4_filled_101 : decode cX4_filled 101 = .ok (.ifCond .eq 18, 3) := by decide +kernel
theorem dX4_filled_104 : decode cX4_filled 104 = .ok (.iload_n 1, 1) := by decide +kernel
theorem dX4_filled_105 : decode cX4_filled 105 = .ok (.ifCond .lt 14, 3) := by decide +kernel
theorem dX4_filled_108 : decode cX4_filled 108 = .ok (.iload_n 1, 1) := by decide +kernel
theorem dX4_filled_109 : decode cX4_filled 109 = .ok (.aload_n 0, 1) := by decide +kernel
theorem dX4_filled_110 : decode cX4_filled 110 = .ok (.getfield 23, 3) := by decide +kernel
theorem dX4_filled_113 : decode cX4_filled 113 = .ok (.getfield 215, 3) := by decide +kernel
theorem dX4_filled_116 : decode cX4_filled 116 = .ok (.if_icmp .lt 6, 3) := by decide +kernel
theorem dX4_filled_119 : decode cX4_filled 119 = .ok (.bipush (-6), 2) := by decide +kernel
theorem dX4_filled_121 : decode cX4_filled 121 = .ok (.ireturn, 1) := by decide +kernel
theorem dX4_filled_122 : decode cX4_filled 122 = .ok (.aload_n 0, 1) := by decide +kernel
theorem dX4_filled_123 : decode cX4_filled 123 = .ok (.iload_n 3, 1) := by decide +kernel
theorem dX4_filled_124 : decode cX4_filled 124 = .ok (.invokevirtual 218, 3) := by decide +kernel
theorem dX4_filled_127 : decode cX4_filled 127 = .ok (.aload_n 0, 1) := by decide +kernel
theorem dX4_filled_128 : decode cX4_filled 128 = .ok (.getfield 41, 3) := by decide +kernel
theorem dX4_filled_131 : decode cX4_filled 131 = .ok (.iload_n 1, 1) := by decide +kernel
theorem dX4_filled_132 : decode cX4_filled 132 = .ok (.invokestatic 134, 3) := by decide +kernel
theorem dX4_filled_135 : decode cX4_filled 135 = .ok (.ireturn, 1) := by decide +kernel
set_option maxRecDepth 20000 in
theorem ggX4_year_X4_isPlank : GoodIn wsX4_year wsX4_isPlank := goodIn_r _ [8, 9, 10, 7, 11] (by decide +kernel) (by decide +kernel)
set_option maxRecDepth 20000 in
theorem gX4_year_X4_isPlank : GoodIn wsX4_year (va_wsS RX4 48 yX4_isPlank wsX4_isPlank) := goodIn_app (goodIn_of _ (by decide +kernel)) ggX4_year_X4_isPlank
set_option maxRecDepth 20000 in
theorem ggX4_year_X4_within : GoodIn wsX4_year wsX4_within := goodIn_r _ [11] (by decide +kernel) (by decide +kernel)
set_option maxRecDepth 20000 in
theorem gX4_year_X4_within : GoodIn wsX4_year (va_wsS RX4 79 yX4_within wsX4_within) := goodIn_app (goodIn_of _ (by decide +kernel)) ggX4_year_X4_within
set_option maxRecDepth 20000 in
theorem ggX4_year_X0_become : GoodIn wsX4_year wsX0_become := goodIn_r _ [16, 17, 18, 7, 19, 20, 21, 22, 75] (by decide +kernel) (by decide +kernel)
set_option maxRecDepth 20000 in
theorem gX4_year_X0_become : GoodIn wsX4_year (wsV RX4 103 RX0 yX0_become wsX0_become) := goodIn_app (goodIn_of _ (by decide +kernel)) ggX4_year_X0_become
set_option maxRecDepth 20000 in
theorem ggX4_year_X1_tell : GoodIn wsX4_year wsX1_tell := goodIn_r _ [27, 28, 29, 30, 31, 32, 33, 34, 26, 35, 21, 7, 22, 36, 37, 38, 15, 39, 17, 40, 41, 20, 42, 43, 44, 45, 46, 47, 64, 65, 66, 67, 68, 69, 70, 71, 72, 73, 74, 75] (by decide +kernel) (by decide +kernel)
set_option maxRecDepth 20000 in
theorem gX4_year_X1_tell : GoodIn wsX4_year (wsV RX4 226 RX1 yX1_tell wsX1_tell) := goodIn_app (goodIn_of _ (by decide +kernel)) ggX4_year_X1_tell
set_option maxRecDepth 20000 in
theorem ggX4_year_X0_fadeADay : GoodIn wsX4_year wsX0_fadeADay := goodIn_r _ [51, 17, 75] (by decide +kernel) (by decide +kernel)
set_option maxRecDepth 20000 in
theorem gX4_year_X0_fadeADay : GoodIn wsX4_year (wsV RX4 179 RX0 yX0_fadeADay wsX0_fadeADay) := goodIn_app (goodIn_of _ (by decide +kernel)) ggX4_year_X0_fadeADay
set_option maxRecDepth 20000 in
theorem ggX4_year_X0_load : GoodIn wsX4_year wsX0_load := goodIn_r _ [55, 56, 37, 38, 15, 39, 17, 75] (by decide +kernel) (by decide +kernel)
set_option maxRecDepth 20000 in
theorem gX4_year_X0_load : GoodIn wsX4_year (wsV RX4 142 RX0 yX0_load wsX0_load) := goodIn_app (goodIn_of _ (by decide +kernel)) ggX4_year_X0_load
theorem dX4_year_0 : decode cX4_year 0 = .ok (.iload_n 3, 1) := by decide +kernel
theorem dX4_year_1 : decode cX4_year 1 = .ok (.iconst (-1), 1) := by decide +kernel
theorem dX4_year_2 : decode cX4_year 2 = .ok (.if_icmp .eq 12, 3) := by decide +kernel
theorem dX4_year_5 : decode cX4_year 5 = .ok (.iload_n 3, 1) := by decide +kernel
theorem dX4_year_6 : decode cX4_year 6 = .ok (.invokestatic 48, 3) := by decide +kernel
theorem dX4_year_9 : decode cX4_year 9 = .ok (.ifCond .ne 5, 3) := by decide +kernel
theorem dX4_year_12 : decode cX4_year 12 = .ok (.iconst (-1), 1) := by decide +kernel
theorem dX4_year_13 : decode cX4_year 13 = .ok (.ireturn, 1) := by decide +kernel
theorem dX4_year_14 : decode cX4_year 14 = .ok (.iload_n 1, 1) := by decide +kernel
theorem dX4_year_15 : decode cX4_year 15 = .ok (.iconst 0, 1) := by decide +kernel
theorem dX4_year_16 : decode cX4_year 16 = .ok (.sipush 9999, 3) := by decide +kernel
theorem dX4_year_19 : decode cX4_year 19 = .ok (.invokestatic 79, 3) := by decide +kernel
theorem dX4_year_22 : decode cX4_year 22 = .ok (.ifCond .eq 13, 3) := by decide +kernel
theorem dX4_year_25 : decode cX4_year 25 = .ok (.iload_n 2, 1) := by decide +kernel
theorem dX4_year_26 : decode cX4_year 26 = .ok (.iconst 1, 1) := by decide +kernel
theorem dX4_year_27 : decode cX4_year 27 = .ok (.bipush 99, 2) := by decide +kernel
theorem dX4_year_29 : decode cX4_year 29 = .ok (.invokestatic 79, 3) := by decide +kernel
theorem dX4_year_32 : decode cX4_year 32 = .ok (.ifCond .ne 6, 3) := by decide +kernel
theorem dX4_year_35 : decode cX4_year 35 = .ok (.bipush (-2), 2) := by decide +kernel
theorem dX4_year_37 : decode cX4_year 37 = .ok (.ireturn, 1) := by decide +kernel
theorem dX4_year_38 : decode cX4_year 38 = .ok (.aload_n 0, 1) := by decide +kernel
theorem dX4_year_39 : decode cX4_year 39 = .ok (.getfield 37, 3) := by decide +kernel
theorem dX4_year_42 : decode cX4_year 42 = .ok (.aload_n 0, 1) := by decide +kernel
theorem dX4_year_43 : decode cX4_year 43 = .ok (.getfield 10, 3) := by decide +kernel
theorem dX4_year_46 : decode cX4_year 46 = .ok (.getfield 72, 3) := by decide +kernel
theorem dX4_year_49 : decode cX4_year 49 = .ok (.invokevirtual 103, 3) := by decide +kernel
theorem dX4_year_52 : decode cX4_year 52 = .ok (.iload_n 1, 1) := by decide +kernel
theorem dX4_year_53 : decode cX4_year 53 = .ok (.istore 4, 2) := by decide +kernel
theorem dX4_year_55 : decode cX4_year 55 = .ok (.iconst 0, 1) := by decide +kernel
theorem dX4_year_56 : decode cX4_year 56 = .ok (.istore 5, 2) := by decide +kernel
theorem dX4_year_58 : decode cX4_year 58 = .ok (.iconst 1, 1) := by decide +kernel
theorem dX4_year_59 : decode cX4_year 59 = .ok (.istore 6, 2) := by decide +kernel
theorem dX4_year_61 : decode cX4_year 61 = .ok (.iload 6, 2) := by decide +kernel
theorem dX4_year_63 : decode cX4_year 63 = .ok (.iload_n 2, 1) := by decide +kernel
theorem dX4_year_64 : decode cX4_year 64 = .ok (.if_icmp .gt 75, 3) := by decide +kernel
theorem dX4_year_67 : decode cX4_year 67 = .ok (.bipush 75, 2) := by decide +kernel
theorem dX4_year_69 : decode cX4_year 69 = .ok (.iload 4, 2) := by decide +kernel
theorem dX4_year_71 : decode cX4_year 71 = .ok (.imul, 1) := by decide +kernel
theorem dX4_year_72 : decode cX4_year 72 = .ok (.bipush 74, 2) := by decide +kernel
theorem dX4_year_74 : decode cX4_year 74 = .ok (.iadd, 1) := by decide +kernel
theorem dX4_year_75 : decode cX4_year 75 = .ok (.ldc 225, 2) := by decide +kernel
theorem dX4_year_77 : decode cX4_year 77 = .ok (.irem, 1) := by decide +kernel
theorem dX4_year_78 : decode cX4_year 78 = .ok (.istore 4, 2) := by decide +kernel
theorem dX4_year_80 : decode cX4_year 80 = .ok (.aload_n 0, 1) := by decide +kernel
theorem dX4_year_81 : decode cX4_year 81 = .ok (.getfield 10, 3) := by decide +kernel
theorem dX4_year_84 : decode cX4_year 84 = .ok (.aload_n 0, 1) := by decide +kernel
theorem dX4_year_85 : decode cX4_year 85 = .ok (.getfield 37, 3) := by decide +kernel
theorem dX4_year_88 : decode cX4_year 88 = .ok (.iload 4, 2) := by decide +kernel
theorem dX4_year_90 : decode cX4_year 90 = .ok (.bipush 6, 2) := by decide +kernel
theorem dX4_year_92 : decode cX4_year 92 = .ok (.irem, 1) := by decide +kernel
theorem dX4_year_93 : decode cX4_year 93 = .ok (.iload 4, 2) := by decide +kernel
theorem dX4_year_95 : decode cX4_year 95 = .ok (.bipush 6, 2) := by decide +kernel
theorem dX4_year_97 : decode cX4_year 97 = .ok (.idiv, 1) := by decide +kernel
theorem dX4_year_98 : decode cX4_year 98 = .ok (.bipush 6, 2) := by decide +kernel
theorem dX4_year_100 : decode cX4_year 100 = .ok (.irem, 1) := by decide +kernel
theorem dX4_year_101 : decode cX4_year 101 = .ok (.iload 4, 2) := by decide +kernel
theorem dX4_year_103 : decode cX4_year 103 = .ok (.bipush 36, 2) := by decide +kernel
theorem dX4_year_105 : decode cX4_year 105 = .ok (.idiv, 1) := by decide +kernel
theorem dX4_year_106 : decode cX4_year 106 = .ok (.bipush 6, 2) := by decide +kernel
theorem dX4_year_108 : decode cX4_year 108 = .ok (.irem, 1) := by decide +kernel
theorem dX4_year_109 : decode cX4_year 109 = .ok (.invokevirtual 226, 3) := by decide +kernel
theorem dX4_year_112 : decode cX4_year 112 = .ok (.ifCond .eq 6, 3) := by decide +kernel
theorem dX4_year_115 : decode cX4_year 115 = .ok (.iinc 5 1, 3) := by decide +kernel
theorem dX4_year_118 : decode cX4_year 118 = .ok (.iload 6, 2) := by decide +kernel
theorem dX4_year_120 : decode cX4_year 120 = .ok (.bipush 10, 2) := by decide +kernel
theorem dX4_year_122 : decode cX4_year 122 = .ok (.irem, 1) := by decide +kernel
theorem dX4_year_123 : decode cX4_year 123 = .ok (.ifCond .ne 10, 3) := by decide +kernel
theorem dX4_year_126 : decode cX4_year 126 = .ok (.aload_n 0, 1) := by decide +kernel
theorem dX4_year_127 : decode cX4_year 127 = .ok (.getfield 37, 3) := by decide +kernel
theorem dX4_year_130 : decode cX4_year 130 = .ok (.invokevirtual 179, 3) := by decide +kernel
theorem dX4_year_133 : decode cX4_year 133 = .ok (.iinc 6 1, 3) := by decide +kernel
theorem dX4_year_136 : decode cX4_year 136 = .ok (.goto (-75), 3) := by decide +kernel
theorem dX4_year_139 : decode cX4_year 139 = .ok (.iload_n 3, 1) := by decide +kernel
theorem dX4_year_140 : decode cX4_year 140 = .ok (.iconst (-1), 1) := by decide +kernel
theorem dX4_year_141 : decode cX4_year 141 = .ok (.if_icmp .ne 8, 3) := by decide +kernel
theorem dX4_year_144 : decode cX4_year 144 = .ok (.iload 5, 2) := by decide +kernel
theorem dX4_year_146 : decode cX4_year 146 = .ok (.goto 12, 3) := by decide +kernel
theorem dX4_year_149 : decode cX4_year 149 = .ok (.aload_n 0, 1) := by decide +kernel
theorem dX4_year_150 : decode cX4_year 150 = .ok (.getfield 37, 3) := by decide +kernel
theorem dX4_year_153 : decode cX4_year 153 = .ok (.iload_n 3, 1) := by decide +kernel
theorem dX4_year_154 : decode cX4_year 154 = .ok (.iconst 0, 1) := by decide +kernel
theorem dX4_year_155 : decode cX4_year 155 = .ok (.invokevirtual 142, 3) := by decide +kernel
theorem dX4_year_158 : decode cX4_year 158 = .ok (.ireturn, 1) := by decide +kernel
set_option maxRecDepth 20000 in
theorem ggX4_image_X1_init : GoodIn wsX4_image wsX1_init := goodIn_r _ [8, 9, 10, 11, 12, 13, 14, 15, 16, 17, 18, 19, 20, 21, 22, 23, 24, 25, 26, 27, 28, 29, 30, 31, 32, 4, 33, 34, 35, 36, 37, 38, 39, 40, 41, 42, 43, 44, 45, 46, 65, 66, 67, 68, 69, 70, 71, 72, 73, 74, 75, 76] (by decide +kernel) (by decide +kernel)
set_option maxRecDepth 20000 in
theorem gX4_image_X1_init : GoodIn wsX4_image (wsX1_init) := ggX4_image_X1_init
set_option maxRecDepth 20000 in
theorem ggX4_image_X1_become : GoodIn wsX4_image wsX1_become := goodIn_r _ [50, 13, 14, 15, 16, 17, 18, 19, 20, 24, 25, 51, 52, 35, 53, 43, 44, 45, 54, 55, 56, 23, 57, 29, 65, 66, 67, 68, 69, 70, 71, 72, 73, 74, 75, 76] (by decide +kernel) (by decide +kernel)
set_option maxRecDepth 20000 in
theorem gX4_image_X1_become : GoodIn wsX4_image (wsV RX4 230 RX1 yX1_become wsX1_become) := goodIn_app (goodIn_of _ (by decide +kernel)) ggX4_image_X1_become
theorem dX4_image_0 : decode cX4_image 0 = .ok (.iload_n 1, 1) := by decide +kernel
theorem dX4_image_1 : decode cX4_image 1 = .ok (.ifCond .lt 12, 3) := by decide +kernel
theorem dX4_image_4 : decode cX4_image 4 = .ok (.iload_n 1, 1) := by decide +kernel
theorem dX4_image_5 : decode cX4_image 5 = .ok (.aload_n 0, 1) := by decide +kernel
theorem dX4_image_6 : decode cX4_image 6 = .ok (.getfield 16, 3) := by decide +kernel
theorem dX4_image_9 : decode cX4_image 9 = .ok (.arraylength, 1) := by decide +kernel
theorem dX4_image_10 : decode cX4_image 10 = .ok (.if_icmp .lt 6, 3) := by decide +kernel
theorem dX4_image_13 : decode cX4_image 13 = .ok (.bipush (-2), 2) := by decide +kernel
theorem dX4_image_15 : decode cX4_image 15 = .ok (.ireturn, 1) := by decide +kernel
theorem dX4_image_16 : decode cX4_image 16 = .ok (.aload_n 0, 1) := by decide +kernel
theorem dX4_image_17 : decode cX4_image 17 = .ok (.getfield 16, 3) := by decide +kernel
theorem dX4_image_20 : decode cX4_image 20 = .ok (.iload_n 1, 1) := by decide +kernel
theorem dX4_image_21 : decode cX4_image 21 = .ok (.aaload, 1) := by decide +kernel
theorem dX4_image_22 : decode cX4_image 22 = .ok (.astore_n 2, 1) := by decide +kernel
theorem dX4_image_23 : decode cX4_image 23 = .ok (.aload_n 2, 1) := by decide +kernel
theorem dX4_image_24 : decode cX4_image 24 = .ok (.ifnonnull 18, 3) := by decide +kernel
theorem dX4_image_27 : decode cX4_image 27 = .ok (.new 7, 3) := by decide +kernel
theorem dX4_image_30 : decode cX4_image 30 = .ok (.dup, 1) := by decide +kernel
theorem dX4_image_31 : decode cX4_image 31 = .ok (.invokespecial 9, 3) := by decide +kernel
theorem dX4_image_34 : decode cX4_image 34 = .ok (.astore_n 2, 1) := by decide +kernel
theorem dX4_image_35 : decode cX4_image 35 = .ok (.aload_n 0, 1) := by decide +kernel
theorem dX4_image_36 : decode cX4_image 36 = .ok (.getfield 16, 3) := by decide +kernel
theorem dX4_image_39 : decode cX4_image 39 = .ok (.iload_n 1, 1) := by decide +kernel
theorem dX4_image_40 : decode cX4_image 40 = .ok (.aload_n 2, 1) := by decide +kernel
theorem dX4_image_41 : decode cX4_image 41 = .ok (.aastore, 1) := by decide +kernel
theorem dX4_image_42 : decode cX4_image 42 = .ok (.aload_n 2, 1) := by decide +kernel
theorem dX4_image_43 : decode cX4_image 43 = .ok (.aload_n 0, 1) := by decide +kernel
theorem dX4_image_44 : decode cX4_image 44 = .ok (.getfield 10, 3) := by decide +kernel
theorem dX4_image_47 : decode cX4_image 47 = .ok (.invokevirtual 230, 3) := by decide +kernel
theorem dX4_image_50 : decode cX4_image 50 = .ok (.iconst 1, 1) := by decide +kernel
theorem dX4_image_51 : decode cX4_image 51 = .ok (.ireturn, 1) := by decide +kernel
set_option maxRecDepth 20000 in
theorem ggX4_restore_X1_become : GoodIn wsX4_restore wsX1_become := goodIn_r _ [7, 8, 9, 10, 11, 12, 13, 14, 15, 16, 17, 18, 19, 20, 21, 22, 23, 24, 25, 26, 27, 28, 29, 30, 38, 39, 40, 41, 42, 43, 44, 45, 46, 47, 48, 49] (by decide +kernel) (by decide +kernel)
set_option maxRecDepth 20000 in
theorem gX4_restore_X1_become : GoodIn wsX4_restore (wsV RX4 230 RX1 yX1_become wsX1_become) := goodIn_app (goodIn_of _ (by decide +kernel)) ggX4_restore_X1_become
theorem dX4_restore_0 : decode cX4_restore 0 = .ok (.iload_n 1, 1) := by decide +kernel
theorem dX4_restore_1 : decode cX4_restore 1 = .ok (.ifCond .lt 12, 3) := by decide +kernel
theorem dX4_restore_4 : decode cX4_restore 4 = .ok (.iload_n 1, 1) := by decide +kernel
theorem dX4_restore_5 : decode cX4_restore 5 = .ok (.aload_n 0, 1) := by decide +kernel
theorem dX4_restore_6 : decode cX4_restore 6 = .ok (.getfield 16, 3) := by decide +kernel
theorem dX4_restore_9 : decode cX4_restore 9 = .ok (.arraylength, 1) := by decide +kernel
theorem dX4_restore_10 : decode cX4_restore 10 = .ok (.if_icmp .lt 6, 3) := by decide +kernel
theorem dX4_restore_13 : decode cX4_restore 13 = .ok (.bipush (-2), 2) := by decide +kernel
theorem dX4_restore_15 : decode cX4_restore 15 = .ok (.ireturn, 1) := by decide +kernel
theorem dX4_restore_16 : decode cX4_restore 16 = .ok (.aload_n 0, 1) := by decide +kernel
theorem dX4_restore_17 : decode cX4_restore 17 = .ok (.getfield 16, 3) := by decide +kernel
theorem dX4_restore_20 : decode cX4_restore 20 = .ok (.iload_n 1, 1) := by decide +kernel
theorem dX4_restore_21 : decode cX4_restore 21 = .ok (.aaload, 1) := by decide +kernel
theorem dX4_restore_22 : decode cX4_restore 22 = .ok (.astore_n 2, 1) := by decide +kernel
theorem dX4_restore_23 : decode cX4_restore 23 = .ok (.aload_n 2, 1) := by decide +kernel
theorem dX4_restore_24 : decode cX4_restore 24 = .ok (.ifnonnull 6, 3) := by decide +kernel
theorem dX4_restore_27 : decode cX4_restore 27 = .ok (.bipush (-3), 2) := by decide +kernel
theorem dX4_restore_29 : decode cX4_restore 29 = .ok (.ireturn, 1) := by decide +kernel
theorem dX4_restore_30 : decode cX4_restore 30 = .ok (.aload_n 0, 1) := by decide +kernel
theorem dX4_restore_31 : decode cX4_restore 31 = .ok (.getfield 10, 3) := by decide +kernel
theorem dX4_restore_34 : decode cX4_restore 34 = .ok (.aload_n 2, 1) := by decide +kernel
theorem dX4_restore_35 : decode cX4_restore 35 = .ok (.invokevirtual 230, 3) := by decide +kernel
theorem dX4_restore_38 : decode cX4_restore 38 = .ok (.iconst 1, 1) := by decide +kernel
theorem dX4_restore_39 : decode cX4_restore 39 = .ok (.ireturn, 1) := by decide +kernel
set_option maxRecDepth 20000 in
theorem ggX4_told_X4_at : GoodIn wsX4_told wsX4_at := goodIn_r _ [15] (by decide +kernel) (by decide +kernel)
set_option maxRecDepth 20000 in
theorem gX4_told_X4_at : GoodIn wsX4_told (va_wsS RX4 134 yX4_at wsX4_at) := goodIn_app (goodIn_of _ (by decide +kernel)) ggX4_told_X4_at
theorem dX4_told_0 : decode cX4_told 0 = .ok (.iload_n 1, 1) := by decide +kernel
theorem dX4_told_1 : decode cX4_told 1 = .ok (.ifCond .ne 11, 3) := by decide +kernel
theorem dX4_told_4 : decode cX4_told 4 = .ok (.aload_n 0, 1) := by decide +kernel
theorem dX4_told_5 : decode cX4_told 5 = .ok (.getfield 23, 3) := by decide +kernel
theorem dX4_told_8 : decode cX4_told 8 = .ok (.getfield 90, 3) := by decide +kernel
theorem dX4_told_11 : decode cX4_told 11 = .ok (.ireturn, 1) := by decide +kernel
theorem dX4_told_12 : decode cX4_told 12 = .ok (.iload_n 1, 1) := by decide +kernel
theorem dX4_told_13 : decode cX4_told 13 = .ok (.iconst 1, 1) := by decide +kernel
theorem dX4_told_14 : decode cX4_told 14 = .ok (.if_icmp .ne 11, 3) := by decide +kernel
theorem dX4_told_17 : decode cX4_told 17 = .ok (.aload_n 0, 1) := by decide +kernel
theorem dX4_told_18 : decode cX4_told 18 = .ok (.getfield 10, 3) := by decide +kernel
theorem dX4_told_21 : decode cX4_told 21 = .ok (.getfield 83, 3) := by decide +kernel
theorem dX4_told_24 : decode cX4_told 24 = .ok (.ireturn, 1) := by decide +kernel
theorem dX4_told_25 : decode cX4_told 25 = .ok (.iload_n 1, 1) := by decide +kernel
theorem dX4_told_26 : decode cX4_told 26 = .ok (.iconst 2, 1) := by decide +kernel
theorem dX4_told_27 : decode cX4_told 27 = .ok (.if_icmp .ne 11, 3) := by decide +kernel
theorem dX4_told_30 : decode cX4_told 30 = .ok (.aload_n 0, 1) := by decide +kernel
theorem dX4_told_31 : decode cX4_told 31 = .ok (.getfield 10, 3) := by decide +kernel
theorem dX4_told_34 : decode cX4_told 34 = .ok (.getfield 206, 3) := by decide +kernel
theorem dX4_told_37 : decode cX4_told 37 = .ok (.ireturn, 1) := by decide +kernel
theorem dX4_told_38 : decode cX4_told 38 = .ok (.iload_n 1, 1) := by decide +kernel
theorem dX4_told_39 : decode cX4_told 39 = .ok (.bipush 10, 2) := by decide +kernel
theorem dX4_told_41 : decode cX4_told 41 = .ok (.irem, 1) := by decide +kernel
theorem dX4_told_42 : decode cX4_told 42 = .ok (.istore_n 2, 1) := by decide +kernel
theorem dX4_told_43 : decode cX4_told 43 = .ok (.iload_n 1, 1) := by decide +kernel
theorem dX4_told_44 : decode cX4_told 44 = .ok (.bipush 10, 2) := by decide +kernel
theorem dX4_told_46 : decode cX4_told 46 = .ok (.if_icmp .lt 9, 3) := by decide +kernel
theorem dX4_told_49 : decode cX4_told 49 = .ok (.iload_n 2, 1) := by decide +kernel
theorem dX4_told_50 : decode cX4_told 50 = .ok (.bipush 6, 2) := by decide +kernel
theorem dX4_told_52 : decode cX4_told 52 = .ok (.if_icmp .lt 6, 3) := by decide +kernel
theorem dX4_told_55 : decode cX4_told 55 = .ok (.bipush (-2), 2) := by decide +kernel
theorem dX4_told_57 : decode cX4_told 57 = .ok (.ireturn, 1) := by decide +kernel
theorem dX4_told_58 : decode cX4_told 58 = .ok (.iload_n 1, 1) := by decide +kernel
theorem dX4_told_59 : decode cX4_told 59 = .ok (.bipush 10, 2) := by decide +kernel
theorem dX4_told_61 : decode cX4_told 61 = .ok (.idiv, 1) := by decide +kernel
theorem dX4_told_62 : decode cX4_told 62 = .ok (.tableswitch 108 1 4 #[30, 42, 54, 96], 30) := by decide +kernel
theorem dX4_told_92 : decode cX4_told 92 = .ok (.aload_n 0, 1) := by decide +kernel
theorem dX4_told_93 : decode cX4_told 93 = .ok (.getfield 10, 3) := by decide +kernel
theorem dX4_told_96 : decode cX4_told 96 = .ok (.getfield 62, 3) := by decide +kernel
theorem dX4_told_99 : decode cX4_told 99 = .ok (.iload_n 2, 1) := by decide +kernel
theorem dX4_told_100 : decode cX4_told 100 = .ok (.invokestatic 134, 3) := by decide +kernel
theorem dX4_told_103 : decode cX4_told 103 = .ok (.ireturn, 1) := by decide +kernel
theorem dX4_told_104 : decode cX4_told 104 = .ok (.aload_n 0, 1) := by decide +kernel
theorem dX4_told_105 : decode cX4_told 105 = .ok (.getfield 10, 3) := by decide +kernel
theorem dX4_told_108 : decode cX4_told 108 = .ok (.getfield 69, 3) := by decide +kernel
theorem dX4_told_111 : decode cX4_told 111 = .ok (.iload_n 2, 1) := by decide +kernel
theorem dX4_told_112 : decode cX4_told 112 = .ok (.invokestatic 134, 3) := by decide +kernel
theorem dX4_told_115 : decode cX4_told 115 = .ok (.ireturn, 1) := by decide +kernel
theorem dX4_told_116 : decode cX4_told 116 = .ok (.bipush 100, 2) := by decide +kernel
theorem dX4_told_118 : decode cX4_told 118 = .ok (.aload_n 0, 1) := by decide +kernel
theorem dX4_told_119 : decode cX4_told 119 = .ok (.getfield 10, 3) := by decide +kernel
theorem dX4_told_122 : decode cX4_told 122 = .ok (.getfield 233, 3) := by decide +kernel
theorem dX4_told_125 : decode cX4_told 125 = .ok (.iload_n 2, 1) := by decide +kernel
theorem dX4_told_126 : decode cX4_told 126 = .ok (.invokestatic 134, 3) := by decide +kernel
theorem dX4_told_129 : decode cX4_told 129 = .ok (.imul, 1) := by decide +kernel
theorem dX4_told_130 : decode cX4_told 130 = .ok (.bipush 10, 2) := by decide +kernel
theorem dX4_told_132 : decode cX4_told 132 = .ok (.aload_n 0, 1) := by decide +kernel
theorem dX4_told_133 : decode cX4_told 133 = .ok (.getfield 10, 3) := by decide +kernel
theorem dX4_told_136 : decode cX4_told 136 = .ok (.getfield 236, 3) := by decide +kernel
theorem dX4_told_139 : decode cX4_told 139 = .ok (.iload_n 2, 1) := by decide +kernel
theorem dX4_told_140 : decode cX4_told 140 = .ok (.invokestatic 134, 3) := by decide +kernel
theorem dX4_told_143 : decode cX4_told 143 = .ok (.imul, 1) := by decide +kernel
theorem dX4_told_144 : decode cX4_told 144 = .ok (.iadd, 1) := by decide +kernel
theorem dX4_told_145 : decode cX4_told 145 = .ok (.aload_n 0, 1) := by decide +kernel
theorem dX4_told_146 : decode cX4_told 146 = .ok (.getfield 10, 3) := by decide +kernel
theorem dX4_told_149 : decode cX4_told 149 = .ok (.getfield 239, 3) := by decide +kernel
theorem dX4_told_152 : decode cX4_told 152 = .ok (.iload_n 2, 1) := by decide +kernel
theorem dX4_told_153 : decode cX4_told 153 = .ok (.invokestatic 134, 3) := by decide +kernel
theorem dX4_told_156 : decode cX4_told 156 = .ok (.iadd, 1) := by decide +kernel
theorem dX4_told_157 : decode cX4_told 157 = .ok (.ireturn, 1) := by decide +kernel
theorem dX4_told_158 : decode cX4_told 158 = .ok (.aload_n 0, 1) := by decide +kernel
theorem dX4_told_159 : decode cX4_told 159 = .ok (.getfield 10, 3) := by decide +kernel
theorem dX4_told_162 : decode cX4_told 162 = .ok (.getfield 186, 3) := by decide +kernel
theorem dX4_told_165 : decode cX4_told 165 = .ok (.iload_n 2, 1) := by decide +kernel
theorem dX4_told_166 : decode cX4_told 166 = .ok (.invokestatic 134, 3) := by decide +kernel
theorem dX4_told_169 : decode cX4_told 169 = .ok (.ireturn, 1) := by decide +kernel
theorem dX4_told_170 : decode cX4_told 170 = .ok (.bipush (-2), 2) := by decide +kernel
theorem dX4_told_172 : decode cX4_told 172 = .ok (.ireturn, 1) := by decide +kernel
theorem dX4_within_0 : decode cX4_within 0 = .ok (.iload_n 0, 1) := by decide +kernel
theorem dX4_within_1 : decode cX4_within 1 = .ok (.iload_n 1, 1) := by decide +kernel
theorem dX4_within_2 : decode cX4_within 2 = .ok (.if_icmp .lt 12, 3) := by decide +kernel
theorem dX4_within_5 : decode cX4_within 5 = .ok (.iload_n 0, 1) := by decide +kernel
theorem dX4_within_6 : decode cX4_within 6 = .ok (.iload_n 2, 1) := by decide +kernel
theorem dX4_within_7 : decode cX4_within 7 = .ok (.if_icmp .gt 7, 3) := by decide +kernel
theorem dX4_within_10 : decode cX4_within 10 = .ok (.iconst 1, 1) := by decide +kernel
theorem dX4_within_11 : decode cX4_within 11 = .ok (.goto 4, 3) := by decide +kernel
theorem dX4_within_14 : decode cX4_within 14 = .ok (.iconst 0, 1) := by decide +kernel
theorem dX4_within_15 : decode cX4_within 15 = .ok (.ireturn, 1) := by decide +kernel
set_option maxRecDepth 20000 in
theorem ggX4_isPerson_X4_within : GoodIn wsX4_isPerson wsX4_within := goodIn_r _ [4] (by decide +kernel) (by decide +kernel)
set_option maxRecDepth 20000 in
theorem gX4_isPerson_X4_within : GoodIn wsX4_isPerson (va_wsS RX4 79 yX4_within wsX4_within) := goodIn_app (goodIn_of _ (by decide +kernel)) ggX4_isPerson_X4_within
theorem dX4_isPerson_0 : decode cX4_isPerson 0 = .ok (.iload_n 0, 1) := by decide +kernel
theorem dX4_isPerson_1 : decode cX4_isPerson 1 = .ok (.iconst 0, 1) := by decide +kernel
theorem dX4_isPerson_2 : decode cX4_isPerson 2 = .ok (.iconst 5, 1) := by decide +kernel
theorem dX4_isPerson_3 : decode cX4_isPerson 3 = .ok (.invokestatic 79, 3) := by decide +kernel
theorem dX4_isPerson_6 : decode cX4_isPerson 6 = .ok (.ireturn, 1) := by decide +kernel
set_option maxRecDepth 20000 in
theorem ggX4_isPersonOrAll_X4_isPerson : GoodIn wsX4_isPersonOrAll wsX4_isPerson := goodIn_r _ [4, 5, 6, 3, 7] (by decide +kernel) (by decide +kernel)
set_option maxRecDepth 20000 in
theorem gX4_isPersonOrAll_X4_isPerson : GoodIn wsX4_isPersonOrAll (va_wsS RX4 55 yX4_isPerson wsX4_isPerson) := goodIn_app (goodIn_of _ (by decide +kernel)) ggX4_isPersonOrAll_X4_isPerson
theorem dX4_isPersonOrAll_0 : decode cX4_isPersonOrAll 0 = .ok (.iload_n 0, 1) := by decide +kernel
theorem dX4_isPersonOrAll_1 : decode cX4_isPersonOrAll 1 = .ok (.iconst (-1), 1) := by decide +kernel
theorem dX4_isPersonOrAll_2 : decode cX4_isPersonOrAll 2 = .ok (.if_icmp .eq 10, 3) := by decide +kernel
theorem dX4_isPersonOrAll_5 : decode cX4_isPersonOrAll 5 = .ok (.iload_n 0, 1) := by decide +kernel
theorem dX4_isPersonOrAll_6 : decode cX4_isPersonOrAll 6 = .ok (.invokestatic 55, 3) := by decide +kernel
theorem dX4_isPersonOrAll_9 : decode cX4_isPersonOrAll 9 = .ok (.ifCond .eq 7, 3) := by decide +kernel
theorem dX4_isPersonOrAll_12 : decode cX4_isPersonOrAll 12 = .ok (.iconst 1, 1) := by decide +kernel
theorem dX4_isPersonOrAll_13 : decode cX4_isPersonOrAll 13 = .ok (.goto 4, 3) := by decide +kernel
theorem dX4_isPersonOrAll_16 : decode cX4_isPersonOrAll 16 = .ok (.iconst 0, 1) := by decide +kernel
theorem dX4_isPersonOrAll_17 : decode cX4_isPersonOrAll 17 = .ok (.ireturn, 1) := by decide +kernel
set_option maxRecDepth 20000 in
theorem ggX4_isIsland_X4_within : GoodIn wsX4_isIsland wsX4_within := goodIn_r _ [4] (by decide +kernel) (by decide +kernel)
set_option maxRecDepth 20000 in
theorem gX4_isIsland_X4_within : GoodIn wsX4_isIsland (va_wsS RX4 79 yX4_within wsX4_within) := goodIn_app (goodIn_of _ (by decide +kernel)) ggX4_isIsland_X4_within
theorem dX4_isIsland_0 : decode cX4_isIsland 0 = .ok (.iload_n 0, 1) := by decide +kernel
theorem dX4_isIsland_1 : decode cX4_isIsland 1 = .ok (.iconst 0, 1) := by decide +kernel
theorem dX4_isIsland_2 : decode cX4_isIsland 2 = .ok (.iconst 5, 1) := by decide +kernel
theorem dX4_isIsland_3 : decode cX4_isIsland 3 = .ok (.invokestatic 79, 3) := by decide +kernel
theorem dX4_isIsland_6 : decode cX4_isIsland 6 = .ok (.ireturn, 1) := by decide +kernel
set_option maxRecDepth 20000 in
theorem ggX4_isPlank_X4_within : GoodIn wsX4_isPlank wsX4_within := goodIn_r _ [4] (by decide +kernel) (by decide +kernel)
set_option maxRecDepth 20000 in
theorem gX4_isPlank_X4_within : GoodIn wsX4_isPlank (va_wsS RX4 79 yX4_within wsX4_within) := goodIn_app (goodIn_of _ (by decide +kernel)) ggX4_isPlank_X4_within
theorem dX4_isPlank_0 : decode cX4_isPlank 0 = .ok (.iload_n 0, 1) := by decide +kernel
theorem dX4_isPlank_1 : decode cX4_isPlank 1 = .ok (.iconst 0, 1) := by decide +kernel
theorem dX4_isPlank_2 : decode cX4_isPlank 2 = .ok (.iconst 5, 1) := by decide +kernel
theorem dX4_isPlank_3 : decode cX4_isPlank 3 = .ok (.invokestatic 79, 3) := by decide +kernel
theorem dX4_isPlank_6 : decode cX4_isPlank 6 = .ok (.ireturn, 1) := by decide +kernel
set_option maxRecDepth 20000 in
theorem ggX4_isParty_X4_within : GoodIn wsX4_isParty wsX4_within := goodIn_r _ [4] (by decide +kernel) (by decide +kernel)
set_option maxRecDepth 20000 in
theorem gX4_isParty_X4_within : GoodIn wsX4_isParty (va_wsS RX4 79 yX4_within wsX4_within) := goodIn_app (goodIn_of _ (by decide +kernel)) ggX4_isParty_X4_within
theorem dX4_isParty_0 : decode cX4_isParty 0 = .ok (.iload_n 0, 1) := by decide +kernel
theorem dX4_isParty_1 : decode cX4_isParty 1 = .ok (.iconst 1, 1) := by decide +kernel
theorem dX4_isParty_2 : decode cX4_isParty 2 = .ok (.bipush 6, 2) := by decide +kernel
theorem dX4_isParty_4 : decode cX4_isParty 4 = .ok (.invokestatic 79, 3) := by decide +kernel
theorem dX4_isParty_7 : decode cX4_isParty 7 = .ok (.ireturn, 1) := by decide +kernel
theorem dX4_isChoice_0 : decode cX4_isChoice 0 = .ok (.iload_n 0, 1) := by decide +kernel
theorem dX4_isChoice_1 : decode cX4_isChoice 1 = .ok (.ifCond .eq 8, 3) := by decide +kernel
theorem dX4_isChoice_4 : decode cX4_isChoice 4 = .ok (.iload_n 0, 1) := by decide +kernel
theorem dX4_isChoice_5 : decode cX4_isChoice 5 = .ok (.iconst 1, 1) := by decide +kernel
theorem dX4_isChoice_6 : decode cX4_isChoice 6 = .ok (.if_icmp .ne 7, 3) := by decide +kernel
theorem dX4_isChoice_9 : decode cX4_isChoice 9 = .ok (.iconst 1, 1) := by decide +kernel
theorem dX4_isChoice_10 : decode cX4_isChoice 10 = .ok (.goto 4, 3) := by decide +kernel
theorem dX4_isChoice_13 : decode cX4_isChoice 13 = .ok (.iconst 0, 1) := by decide +kernel
theorem dX4_isChoice_14 : decode cX4_isChoice 14 = .ok (.ireturn, 1) := by decide +kernel
theorem dX4_at_0 : decode cX4_at 0 = .ok (.iload_n 1, 1) := by decide +kernel
theorem dX4_at_1 : decode cX4_at 1 = .ok (.ifCond .lt 15, 3) := by decide +kernel
theorem dX4_at_4 : decode cX4_at 4 = .ok (.iload_n 1, 1) := by decide +kernel
theorem dX4_at_5 : decode cX4_at 5 = .ok (.aload_n 0, 1) := by decide +kernel
theorem dX4_at_6 : decode cX4_at 6 = .ok (.arraylength, 1) := by decide +kernel
theorem dX4_at_7 : decode cX4_at 7 = .ok (.if_icmp .ge 9, 3) := by decide +kernel
theorem dX4_at_10 : decode cX4_at 10 = .ok (.aload_n 0, 1) := by decide +kernel
theorem dX4_at_11 : decode cX4_at 11 = .ok (.iload_n 1, 1) := by decide +kernel
theorem dX4_at_12 : decode cX4_at 12 = .ok (.iaload, 1) := by decide +kernel
theorem dX4_at_13 : decode cX4_at 13 = .ok (.goto 4, 3) := by decide +kernel
theorem dX4_at_16 : decode cX4_at 16 = .ok (.iconst 0, 1) := by decide +kernel
theorem dX4_at_17 : decode cX4_at 17 = .ok (.ireturn, 1) := by decide +kernel
theorem dX4_put_0 : decode cX4_put 0 = .ok (.iload_n 1, 1) := by decide +kernel
theorem dX4_put_1 : decode cX4_put 1 = .ok (.ifCond .lt 13, 3) := by decide +kernel
theorem dX4_put_4 : decode cX4_put 4 = .ok (.iload_n 1, 1) := by decide +kernel
theorem dX4_put_5 : decode cX4_put 5 = .ok (.aload_n 0, 1) := by decide +kernel
theorem dX4_put_6 : decode cX4_put 6 = .ok (.arraylength, 1) := by decide +kernel
theorem dX4_put_7 : decode cX4_put 7 = .ok (.if_icmp .ge 7, 3) := by decide +kernel
theorem dX4_put_10 : decode cX4_put 10 = .ok (.aload_n 0, 1) := by decide +kernel
theorem dX4_put_11 : decode cX4_put 11 = .ok (.iload_n 1, 1) := by decide +kernel
theorem dX4_put_12 : decode cX4_put 12 = .ok (.iload_n 2, 1) := by decide +kernel
theorem dX4_put_13 : decode cX4_put 13 = .ok (.iastore, 1) := by decide +kernel
theorem dX4_put_14 : decode cX4_put 14 = .ok (.return_, 1) := by decide +kernel
set_option maxRecDepth 20000 in
theorem ggX4_hasBit_X4_at : GoodIn wsX4_hasBit wsX4_at := goodIn_r _ [4] (by decide +kernel) (by decide +kernel)
set_option maxRecDepth 20000 in
theorem gX4_hasBit_X4_at : GoodIn wsX4_hasBit (va_wsS RX4 134 yX4_at wsX4_at) := goodIn_app (goodIn_of _ (by decide +kernel)) ggX4_hasBit_X4_at
theorem dX4_hasBit_0 : decode cX4_hasBit 0 = .ok (.aload_n 0, 1) := by decide +kernel
theorem dX4_hasBit_1 : decode cX4_hasBit 1 = .ok (.iload_n 1, 1) := by decide +kernel
theorem dX4_hasBit_2 : decode cX4_hasBit 2 = .ok (.invokestatic 134, 3) := by decide +kernel
theorem dX4_hasBit_5 : decode cX4_hasBit 5 = .ok (.iload_n 2, 1) := by decide +kernel
theorem dX4_hasBit_6 : decode cX4_hasBit 6 = .ok (.ishr, 1) := by decide +kernel
theorem dX4_hasBit_7 : decode cX4_hasBit 7 = .ok (.iconst 1, 1) := by decide +kernel
theorem dX4_hasBit_8 : decode cX4_hasBit 8 = .ok (.iand, 1) := by decide +kernel
theorem dX4_hasBit_9 : decode cX4_hasBit 9 = .ok (.iconst 1, 1) := by decide +kernel
theorem dX4_hasBit_10 : decode cX4_hasBit 10 = .ok (.if_icmp .ne 7, 3) := by decide +kernel
theorem dX4_hasBit_13 : decode cX4_hasBit 13 = .ok (.iconst 1, 1) := by decide +kernel
theorem dX4_hasBit_14 : decode cX4_hasBit 14 = .ok (.goto 4, 3) := by decide +kernel
theorem dX4_hasBit_17 : decode cX4_hasBit 17 = .ok (.iconst 0, 1) := by decide +kernel
theorem dX4_hasBit_18 : decode cX4_hasBit 18 = .ok (.ireturn, 1) := by decide +kernel
set_option maxRecDepth 20000 in
theorem ggX4_putBit_X4_at : GoodIn wsX4_putBit wsX4_at := goodIn_r _ [4] (by decide +kernel) (by decide +kernel)
set_option maxRecDepth 20000 in
theorem gX4_putBit_X4_at : GoodIn wsX4_putBit (va_wsS RX4 134 yX4_at wsX4_at) := goodIn_app (goodIn_of _ (by decide +kernel)) ggX4_putBit_X4_at
set_option maxRecDepth 20000 in
theorem ggX4_putBit_X4_put : GoodIn wsX4_putBit wsX4_put := goodIn_r _ [7] (by decide +kernel) (by decide +kernel)
set_option maxRecDepth 20000 in
theorem gX4_putBit_X4_put : GoodIn wsX4_putBit (va_wsS RX4 189 yX4_put wsX4_put) := goodIn_app (goodIn_of _ (by decide +kernel)) ggX4_putBit_X4_put
theorem dX4_putBit_0 : decode cX4_putBit 0 = .ok (.aload_n 0, 1) := by decide +kernel
theorem dX4_putBit_1 : decode cX4_putBit 1 = .ok (.iload_n 1, 1) := by decide +kernel
theorem dX4_putBit_2 : decode cX4_putBit 2 = .ok (.invokestatic 134, 3) := by decide +kernel
theorem dX4_putBit_5 : decode cX4_putBit 5 = .ok (.iconst 1, 1) := by decide +kernel
theorem dX4_putBit_6 : decode cX4_putBit 6 = .ok (.iload_n 2, 1) := by decide +kernel
theorem dX4_putBit_7 : decode cX4_putBit 7 = .ok (.ishl, 1) := by decide +kernel
theorem dX4_putBit_8 : decode cX4_putBit 8 = .ok (.iconst (-1), 1) := by decide +kernel
theorem dX4_putBit_9 : decode cX4_putBit 9 = .ok (.ixor, 1) := by decide +kernel
theorem dX4_putBit_10 : decode cX4_putBit 10 = .ok (.iand, 1) := by decide +kernel
theorem dX4_putBit_11 : decode cX4_putBit 11 = .ok (.istore 4, 2) := by decide +kernel
theorem dX4_putBit_13 : decode cX4_putBit 13 = .ok (.aload_n 0, 1) := by decide +kernel
theorem dX4_putBit_14 : decode cX4_putBit 14 = .ok (.iload_n 1, 1) := by decide +kernel
theorem dX4_putBit_15 : decode cX4_putBit 15 = .ok (.iload_n 3, 1) := by decide +kernel
theorem dX4_putBit_16 : decode cX4_putBit 16 = .ok (.ifCond .eq 12, 3) := by decide +kernel
theorem dX4_putBit_19 : decode cX4_putBit 19 = .ok (.iload 4, 2) := by decide +kernel
theorem dX4_putBit_21 : decode cX4_putBit 21 = .ok (.iconst 1, 1) := by decide +kernel
theorem dX4_putBit_22 : decode cX4_putBit 22 = .ok (.iload_n 2, 1) := by decide +kernel
theorem dX4_putBit_23 : decode cX4_putBit 23 = .ok (.ishl, 1) := by decide +kernel
theorem dX4_putBit_24 : decode cX4_putBit 24 = .ok (.ior, 1) := by decide +kernel
theorem dX4_putBit_25 : decode cX4_putBit 25 = .ok (.goto 5, 3) := by decide +kernel
theorem dX4_putBit_28 : decode cX4_putBit 28 = .ok (.iload 4, 2) := by decide +kernel
theorem dX4_putBit_30 : decode cX4_putBit 30 = .ok (.invokestatic 189, 3) := by decide +kernel
theorem dX4_putBit_33 : decode cX4_putBit 33 = .ok (.return_, 1) := by decide +kernel
set_option maxRecDepth 20000 in
theorem ggX4_copy_X4_at : GoodIn wsX4_copy wsX4_at := goodIn_r _ [4] (by decide +kernel) (by decide +kernel)
set_option maxRecDepth 20000 in
theorem gX4_copy_X4_at : GoodIn wsX4_copy (va_wsS RX4 134 yX4_at wsX4_at) := goodIn_app (goodIn_of _ (by decide +kernel)) ggX4_copy_X4_at
theorem dX4_copy_0 : decode cX4_copy 0 = .ok (.iconst 0, 1) := by decide +kernel
theorem dX4_copy_1 : decode cX4_copy 1 = .ok (.istore_n 2, 1) := by decide +kernel
theorem dX4_copy_2 : decode cX4_copy 2 = .ok (.iload_n 2, 1) := by decide +kernel
theorem dX4_copy_3 : decode cX4_copy 3 = .ok (.aload_n 1, 1) := by decide +kernel
theorem dX4_copy_4 : decode cX4_copy 4 = .ok (.arraylength, 1) := by decide +kernel
theorem dX4_copy_5 : decode cX4_copy 5 = .ok (.if_icmp .ge 17, 3) := by decide +kernel
theorem dX4_copy_8 : decode cX4_copy 8 = .ok (.aload_n 1, 1) := by decide +kernel
theorem dX4_copy_9 : decode cX4_copy 9 = .ok (.iload_n 2, 1) := by decide +kernel
theorem dX4_copy_10 : decode cX4_copy 10 = .ok (.aload_n 0, 1) := by decide +kernel
theorem dX4_copy_11 : decode cX4_copy 11 = .ok (.iload_n 2, 1) := by decide +kernel
theorem dX4_copy_12 : decode cX4_copy 12 = .ok (.invokestatic 134, 3) := by decide +kernel
theorem dX4_copy_15 : decode cX4_copy 15 = .ok (.iastore, 1) := by decide +kernel
theorem dX4_copy_16 : decode cX4_copy 16 = .ok (.iinc 2 1, 3) := by decide +kernel
theorem dX4_copy_19 : decode cX4_copy 19 = .ok (.goto (-17), 3) := by decide +kernel
theorem dX4_copy_22 : decode cX4_copy 22 = .ok (.return_, 1) := by decide +kernel
theorem dX4_sharedDivisor_0 : decode cX4_sharedDivisor 0 = .ok (.lload_n 0, 1) := by decide +kernel
theorem dX4_sharedDivisor_1 : decode cX4_sharedDivisor 1 = .ok (.lstore 4, 2) := by decide +kernel
theorem dX4_sharedDivisor_3 : decode cX4_sharedDivisor 3 = .ok (.lload_n 2, 1) := by decide +kernel
theorem dX4_sharedDivisor_4 : decode cX4_sharedDivisor 4 = .ok (.lstore 6, 2) := by decide +kernel
theorem dX4_sharedDivisor_6 : decode cX4_sharedDivisor 6 = .ok (.iconst 0, 1) := by decide +kernel
theorem dX4_sharedDivisor_7 : decode cX4_sharedDivisor 7 = .ok (.istore 8, 2) := by decide +kernel
theorem dX4_sharedDivisor_9 : decode cX4_sharedDivisor 9 = .ok (.iload 8, 2) := by decide +kernel
theorem dX4_sharedDivisor_11 : decode cX4_sharedDivisor 11 = .ok (.bipush 100, 2) := by decide +kernel
theorem dX4_sharedDivisor_13 : decode cX4_sharedDivisor 13 = .ok (.if_icmp .ge 31, 3) := by decide +kernel
theorem dX4_sharedDivisor_16 : decode cX4_sharedDivisor 16 = .ok (.lload 6, 2) := by decide +kernel
theorem dX4_sharedDivisor_18 : decode cX4_sharedDivisor 18 = .ok (.lconst 0, 1) := by decide +kernel
theorem dX4_sharedDivisor_19 : decode cX4_sharedDivisor 19 = .ok (.lcmp, 1) := by decide +kernel
theorem dX4_sharedDivisor_20 : decode cX4_sharedDivisor 20 = .ok (.ifCond .eq 24, 3) := by decide +kernel
theorem dX4_sharedDivisor_23 : decode cX4_sharedDivisor 23 = .ok (.lload 4, 2) := by decide +kernel
theorem dX4_sharedDivisor_25 : decode cX4_sharedDivisor 25 = .ok (.lload 6, 2) := by decide +kernel
theorem dX4_sharedDivisor_27 : decode cX4_sharedDivisor 27 = .ok (.lrem, 1) := by decide +kernel
theorem dX4_sharedDivisor_28 : decode cX4_sharedDivisor 28 = .ok (.lstore 9, 2) := by decide +kernel
theorem dX4_sharedDivisor_30 : decode cX4_sharedDivisor 30 = .ok (.lload 6, 2) := by decide +kernel
theorem dX4_sharedDivisor_32 : decode cX4_sharedDivisor 32 = .ok (.lstore 4, 2) := by decide +kernel
theorem dX4_sharedDivisor_34 : decode cX4_sharedDivisor 34 = .ok (.lload 9, 2) := by decide +kernel
theorem dX4_sharedDivisor_36 : decode cX4_sharedDivisor 36 = .ok (.lstore 6, 2) := by decide +kernel
theorem dX4_sharedDivisor_38 : decode cX4_sharedDivisor 38 = .ok (.iinc 8 1, 3) := by decide +kernel
theorem dX4_sharedDivisor_41 : decode cX4_sharedDivisor 41 = .ok (.goto (-32), 3) := by decide +kernel
theorem dX4_sharedDivisor_44 : decode cX4_sharedDivisor 44 = .ok (.lload 4, 2) := by decide +kernel
theorem dX4_sharedDivisor_46 : decode cX4_sharedDivisor 46 = .ok (.lreturn, 1) := by decide +kernel
set_option maxRecDepth 20000 in
theorem ggX4_refusalOfText_X2_read : GoodIn wsX4_refusalOfText wsX2_read := goodIn_r _ [7, 8, 9, 10, 11, 12, 13, 14, 15, 16, 17, 6, 18, 19, 20, 21, 22, 23, 24, 25, 26, 27, 28, 29, 30, 31, 32, 33, 34, 35, 36, 37, 38, 39, 40, 41, 42, 43, 44, 45, 46, 47, 48, 49, 50, 51, 59, 60, 61, 62, 63, 64, 65, 66] (by decide +kernel) (by decide +kernel)
set_option maxRecDepth 20000 in
theorem gX4_refusalOfText_X2_read : GoodIn wsX4_refusalOfText (wsV RX4 96 RX2 yX2_read wsX2_read) := goodIn_app (goodIn_of _ (by decide +kernel)) ggX4_refusalOfText_X2_read
theorem dX4_refusalOfText_0 : decode cX4_refusalOfText 0 = .ok (.aload_n 0, 1) := by decide +kernel
theorem dX4_refusalOfText_1 : decode cX4_refusalOfText 1 = .ok (.getfield 23, 3) := by decide +kernel
theorem dX4_refusalOfText_4 : decode cX4_refusalOfText 4 = .ok (.invokevirtual 96, 3) := by decide +kernel
theorem dX4_refusalOfText_7 : decode cX4_refusalOfText 7 = .ok (.bipush (-6), 2) := by decide +kernel
theorem dX4_refusalOfText_9 : decode cX4_refusalOfText 9 = .ok (.if_icmp .eq 6, 3) := by decide +kernel
theorem dX4_refusalOfText_12 : decode cX4_refusalOfText 12 = .ok (.bipush (-5), 2) := by decide +kernel
theorem dX4_refusalOfText_14 : decode cX4_refusalOfText 14 = .ok (.ireturn, 1) := by decide +kernel
theorem dX4_refusalOfText_15 : decode cX4_refusalOfText 15 = .ok (.aload_n 0, 1) := by decide +kernel
theorem dX4_refusalOfText_16 : decode cX4_refusalOfText 16 = .ok (.getfield 23, 3) := by decide +kernel
theorem dX4_refusalOfText_19 : decode cX4_refusalOfText 19 = .ok (.getfield 215, 3) := by decide +kernel
theorem dX4_refusalOfText_22 : decode cX4_refusalOfText 22 = .ok (.ifCond .le 8, 3) := by decide +kernel
theorem dX4_refusalOfText_25 : decode cX4_refusalOfText 25 = .ok (.bipush (-3), 2) := by decide +kernel
theorem dX4_refusalOfText_27 : decode cX4_refusalOfText 27 = .ok (.goto 4, 3) := by decide +kernel
theorem dX4_refusalOfText_30 : decode cX4_refusalOfText 30 = .ok (.iconst 0, 1) := by decide +kernel
theorem dX4_refusalOfText_31 : decode cX4_refusalOfText 31 = .ok (.ireturn, 1) := by decide +kernel
set_option maxRecDepth 20000 in
theorem ggX4_beliefOrLoad_X0_load : GoodIn wsX4_beliefOrLoad wsX0_load := goodIn_r _ [5, 6, 7, 8, 4, 9, 10, 12] (by decide +kernel) (by decide +kernel)
set_option maxRecDepth 20000 in
theorem gX4_beliefOrLoad_X0_load : GoodIn wsX4_beliefOrLoad (wsV RX4 142 RX0 yX0_load wsX0_load) := goodIn_app (goodIn_of _ (by decide +kernel)) ggX4_beliefOrLoad_X0_load
set_option maxRecDepth 20000 in
theorem ggX4_beliefOrLoad_X0_of : GoodIn wsX4_beliefOrLoad wsX0_of := goodIn_r _ [9, 10, 12] (by decide +kernel) (by decide +kernel)
set_option maxRecDepth 20000 in
theorem gX4_beliefOrLoad_X0_of : GoodIn wsX4_beliefOrLoad (wsV RX4 242 RX0 yX0_of wsX0_of) := goodIn_app (goodIn_of _ (by decide +kernel)) ggX4_beliefOrLoad_X0_of
theorem dX4_beliefOrLoad_0 : decode cX4_beliefOrLoad 0 = .ok (.iload_n 2, 1) := by decide +kernel
theorem dX4_beliefOrLoad_1 : decode cX4_beliefOrLoad 1 = .ok (.iconst (-1), 1) := by decide +kernel
theorem dX4_beliefOrLoad_2 : decode cX4_beliefOrLoad 2 = .ok (.if_icmp .ne 12, 3) := by decide +kernel
theorem dX4_beliefOrLoad_5 : decode cX4_beliefOrLoad 5 = .ok (.aload_n 0, 1) := by decide +kernel
theorem dX4_beliefOrLoad_6 : decode cX4_beliefOrLoad 6 = .ok (.iload_n 1, 1) := by decide +kernel
theorem dX4_beliefOrLoad_7 : decode cX4_beliefOrLoad 7 = .ok (.iconst 0, 1) := by decide +kernel
theorem dX4_beliefOrLoad_8 : decode cX4_beliefOrLoad 8 = .ok (.invokevirtual 142, 3) := by decide +kernel
theorem dX4_beliefOrLoad_11 : decode cX4_beliefOrLoad 11 = .ok (.goto 9, 3) := by decide +kernel
theorem dX4_beliefOrLoad_14 : decode cX4_beliefOrLoad 14 = .ok (.aload_n 0, 1) := by decide +kernel
theorem dX4_beliefOrLoad_15 : decode cX4_beliefOrLoad 15 = .ok (.iload_n 1, 1) := by decide +kernel
theorem dX4_beliefOrLoad_16 : decode cX4_beliefOrLoad 16 = .ok (.iload_n 2, 1) := by decide +kernel
theorem dX4_beliefOrLoad_17 : decode cX4_beliefOrLoad 17 = .ok (.invokevirtual 242, 3) := by decide +kernel
theorem dX4_beliefOrLoad_20 : decode cX4_beliefOrLoad 20 = .ok (.ireturn, 1) := by decide +kernel
set_option maxRecDepth 20000 in
theorem ggX4_play_X4_takesEffect : GoodIn wsX4_play wsX4_takesEffect := goodIn_r _ [7, 1, 8, 9, 10, 11, 12, 13, 14, 15, 6, 16, 17, 18, 19, 20, 21, 22, 23, 24, 25, 26, 27, 28, 29, 30, 31, 32, 33, 34, 35, 36, 37, 38, 39, 40, 41, 42, 43, 44, 45, 46, 47, 48, 49, 50, 51, 52, 53, 54, 55, 56, 57, 58, 59, 60, 61, 62, 63, 64, 65, 66, 67, 68, 69, 70, 71, 72, 73, 74, 75, 76, 77, 78] (by decide +kernel) (by decide +kernel)
set_option maxRecDepth 20000 in
theorem gX4_play_X4_takesEffect : GoodIn wsX4_play (wsV RX4 110 RX4 yX4_takesEffect wsX4_takesEffect) := goodIn_app (goodIn_of _ (by decide +kernel)) ggX4_play_X4_takesEffect
theorem dX4_play_0 : decode cX4_play 0 = .ok (.iconst 0, 1) := by decide +kernel
theorem dX4_play_1 : decode cX4_play 1 = .ok (.istore_n 2, 1) := by decide +kernel
theorem dX4_play_2 : decode cX4_play 2 = .ok (.iload_n 2, 1) := by decide +kernel
theorem dX4_play_3 : decode cX4_play 3 = .ok (.aload_n 0, 1) := by decide +kernel
theorem dX4_play_4 : decode cX4_play 4 = .ok (.getfield 23, 3) := by decide +kernel
theorem dX4_play_7 : decode cX4_play 7 = .ok (.getfield 107, 3) := by decide +kernel
theorem dX4_play_10 : decode cX4_play 10 = .ok (.if_icmp .ge 16, 3) := by decide +kernel
theorem dX4_play_13 : decode cX4_play 13 = .ok (.aload_n 0, 1) := by decide +kernel
theorem dX4_play_14 : decode cX4_play 14 = .ok (.iload_n 2, 1) := by decide +kernel
theorem dX4_play_15 : decode cX4_play 15 = .ok (.aload_n 1, 1) := by decide +kernel
theorem dX4_play_16 : decode cX4_play 16 = .ok (.invokevirtual 110, 3) := by decide +kernel
theorem dX4_play_19 : decode cX4_play 19 = .ok (.pop, 1) := by decide +kernel
theorem dX4_play_20 : decode cX4_play 20 = .ok (.iinc 2 1, 3) := by decide +kernel
theorem dX4_play_23 : decode cX4_play 23 = .ok (.goto (-21), 3) := by decide +kernel
theorem dX4_play_26 : decode cX4_play 26 = .ok (.return_, 1) := by decide +kernel
set_option maxRecDepth 20000 in
theorem ggX4_takesEffect_X4_at : GoodIn wsX4_takesEffect wsX4_at := goodIn_r _ [11] (by decide +kernel) (by decide +kernel)
set_option maxRecDepth 20000 in
theorem gX4_takesEffect_X4_at : GoodIn wsX4_takesEffect (va_wsS RX4 134 yX4_at wsX4_at) := goodIn_app (goodIn_of _ (by decide +kernel)) ggX4_takesEffect_X4_at
set_option maxRecDepth 20000 in
theorem ggX4_takesEffect_X0_fadeADay : GoodIn wsX4_takesEffect wsX0_fadeADay := goodIn_r _ [16, 17, 62] (by decide +kernel) (by decide +kernel)
set_option maxRecDepth 20000 in
theorem gX4_takesEffect_X0_fadeADay : GoodIn wsX4_takesEffect (wsV RX4 179 RX0 yX0_fadeADay wsX0_fadeADay) := goodIn_app (goodIn_of _ (by decide +kernel)) ggX4_takesEffect_X0_fadeADay
set_option maxRecDepth 20000 in
theorem ggX4_takesEffect_X1_tell : GoodIn wsX4_takesEffect wsX1_tell := goodIn_r _ [22, 23, 24, 25, 26, 27, 28, 29, 21, 30, 9, 10, 11, 31, 32, 33, 15, 34, 17, 35, 36, 8, 37, 38, 39, 40, 41, 42, 63, 64, 65, 66, 67, 68, 69, 70, 71, 72, 73, 62] (by decide +kernel) (by decide +kernel)
set_option maxRecDepth 20000 in
theorem gX4_takesEffect_X1_tell : GoodIn wsX4_takesEffect (wsV RX4 226 RX1 yX1_tell wsX1_tell) := goodIn_app (goodIn_of _ (by decide +kernel)) ggX4_takesEffect_X1_tell
set_option maxRecDepth 20000 in
theorem ggX4_takesEffect_X1_deny : GoodIn wsX4_takesEffect wsX1_deny := goodIn_r _ [46, 23, 35, 10, 36, 8, 9, 11, 31, 32, 33, 15, 34, 17, 37, 38, 39, 40, 41, 42, 63, 64, 65, 66, 67, 68, 69, 70, 71, 72, 73, 62] (by decide +kernel) (by decide +kernel)
set_option maxRecDepth 20000 in
theorem gX4_takesEffect_X1_deny : GoodIn wsX4_takesEffect (wsV RX4 257 RX1 yX1_deny wsX1_deny) := goodIn_app (goodIn_of _ (by decide +kernel)) ggX4_takesEffect_X1_deny
theorem dX4_takesEffect_0 : decode cX4_takesEffect 0 = .ok (.aload_n 0, 1) := by decide +kernel
theorem dX4_takesEffect_1 : decode cX4_takesEffect 1 = .ok (.getfield 23, 3) := by decide +kernel
theorem dX4_takesEffect_4 : decode cX4_takesEffect 4 = .ok (.getfield 245, 3) := by decide +kernel
theorem dX4_takesEffect_7 : decode cX4_takesEffect 7 = .ok (.iload_n 1, 1) := by decide +kernel
theorem dX4_takesEffect_8 : decode cX4_takesEffect 8 = .ok (.invokestatic 134, 3) := by decide +kernel
theorem dX4_takesEffect_11 : decode cX4_takesEffect 11 = .ok (.istore_n 3, 1) := by decide +kernel
theorem dX4_takesEffect_12 : decode cX4_takesEffect 12 = .ok (.iload_n 3, 1) := by decide +kernel
theorem dX4_takesEffect_13 : decode cX4_takesEffect 13 = .ok (.ifCond .ne 9, 3) := by decide +kernel
theorem dX4_takesEffect_16 : decode cX4_takesEffect 16 = .ok (.aload_n 2, 1) := by decide +kernel
theorem dX4_takesEffect_17 : decode cX4_takesEffect 17 = .ok (.invokevirtual 179, 3) := by decide +kernel
theorem dX4_takesEffect_20 : decode cX4_takesEffect 20 = .ok (.iconst 1, 1) := by decide +kernel
theorem dX4_takesEffect_21 : decode cX4_takesEffect 21 = .ok (.ireturn, 1) := by decide +kernel
theorem dX4_takesEffect_22 : decode cX4_takesEffect 22 = .ok (.aload_n 0, 1) := by decide +kernel
theorem dX4_takesEffect_23 : decode cX4_takesEffect 23 = .ok (.getfield 23, 3) := by decide +kernel
theorem dX4_takesEffect_26 : decode cX4_takesEffect 26 = .ok (.getfield 248, 3) := by decide +kernel
theorem dX4_takesEffect_29 : decode cX4_takesEffect 29 = .ok (.iload_n 1, 1) := by decide +kernel
theorem dX4_takesEffect_30 : decode cX4_takesEffect 30 = .ok (.invokestatic 134, 3) := by decide +kernel
theorem dX4_takesEffect_33 : decode cX4_takesEffect 33 = .ok (.istore 4, 2) := by decide +kernel
theorem dX4_takesEffect_35 : decode cX4_takesEffect 35 = .ok (.iload 4, 2) := by decide +kernel
theorem dX4_takesEffect_37 : decode cX4_takesEffect 37 = .ok (.bipush 6, 2) := by decide +kernel
theorem dX4_takesEffect_39 : decode cX4_takesEffect 39 = .ok (.if_icmp .lt 17, 3) := by decide +kernel
theorem dX4_takesEffect_42 : decode cX4_takesEffect 42 = .ok (.aload_n 0, 1) := by decide +kernel
theorem dX4_takesEffect_43 : decode cX4_takesEffect 43 = .ok (.getfield 41, 3) := by decide +kernel
theorem dX4_takesEffect_46 : decode cX4_takesEffect 46 = .ok (.iload 4, 2) := by decide +kernel
theorem dX4_takesEffect_48 : decode cX4_takesEffect 48 = .ok (.bipush 6, 2) := by decide +kernel
theorem dX4_takesEffect_50 : decode cX4_takesEffect 50 = .ok (.isub, 1) := by decide +kernel
theorem dX4_takesEffect_51 : decode cX4_takesEffect 51 = .ok (.invokestatic 134, 3) := by decide +kernel
theorem dX4_takesEffect_54 : decode cX4_takesEffect 54 = .ok (.istore 4, 2) := by decide +kernel
theorem dX4_takesEffect_56 : decode cX4_takesEffect 56 = .ok (.aload_n 0, 1) := by decide +kernel
theorem dX4_takesEffect_57 : decode cX4_takesEffect 57 = .ok (.getfield 23, 3) := by decide +kernel
theorem dX4_takesEffect_60 : decode cX4_takesEffect 60 = .ok (.getfield 251, 3) := by decide +kernel
theorem dX4_takesEffect_63 : decode cX4_takesEffect 63 = .ok (.iload_n 1, 1) := by decide +kernel
theorem dX4_takesEffect_64 : decode cX4_takesEffect 64 = .ok (.invokestatic 134, 3) := by decide +kernel
theorem dX4_takesEffect_67 : decode cX4_takesEffect 67 = .ok (.istore 5, 2) := by decide +kernel
theorem dX4_takesEffect_69 : decode cX4_takesEffect 69 = .ok (.aload_n 0, 1) := by decide +kernel
theorem dX4_takesEffect_70 : decode cX4_takesEffect 70 = .ok (.getfield 23, 3) := by decide +kernel
theorem dX4_takesEffect_73 : decode cX4_takesEffect 73 = .ok (.getfield 254, 3) := by decide +kernel
theorem dX4_takesEffect_76 : decode cX4_takesEffect 76 = .ok (.iload_n 1, 1) := by decide +kernel
theorem dX4_takesEffect_77 : decode cX4_takesEffect 77 = .ok (.invokestatic 134, 3) := by decide +kernel
theorem dX4_takesEffect_80 : decode cX4_takesEffect 80 = .ok (.istore 6, 2) := by decide +kernel
theorem dX4_takesEffect_82 : decode cX4_takesEffect 82 = .ok (.iload_n 3, 1) := by decide +kernel
theorem dX4_takesEffect_83 : decode cX4_takesEffect 83 = .ok (.iconst 1, 1) := by decide +kernel
theorem dX4_takesEffect_84 : decode cX4_takesEffect 84 = .ok (.if_icmp .ne 20, 3) := by decide +kernel
theorem dX4_takesEffect_87 : decode cX4_takesEffect 87 = .ok (.aload_n 0, 1) := by decide +kernel
theorem dX4_takesEffect_88 : decode cX4_takesEffect 88 = .ok (.getfield 10, 3) := by decide +kernel
theorem dX4_takesEffect_91 : decode cX4_takesEffect 91 = .ok (.aload_n 2, 1) := by decide +kernel
theorem dX4_takesEffect_92 : decode cX4_takesEffect 92 = .ok (.iload 4, 2) := by decide +kernel
theorem dX4_takesEffect_94 : decode cX4_takesEffect 94 = .ok (.iload 5, 2) := by decide +kernel
theorem dX4_takesEffect_96 : decode cX4_takesEffect 96 = .ok (.iload 6, 2) := by decide +kernel
theorem dX4_takesEffect_98 : decode cX4_takesEffect 98 = .ok (.invokevirtual 226, 3) := by decide +kernel
theorem dX4_takesEffect_101 : decode cX4_takesEffect 101 = .ok (.goto 17, 3) := by decide +kernel
theorem dX4_takesEffect_104 : decode cX4_takesEffect 104 = .ok (.aload_n 0, 1) := by decide +kernel
theorem dX4_takesEffect_105 : decode cX4_takesEffect 105 = .ok (.getfield 10, 3) := by decide +kernel
theorem dX4_takesEffect_108 : decode cX4_takesEffect 108 = .ok (.aload_n 2, 1) := by decide +kernel
theorem dX4_takesEffect_109 : decode cX4_takesEffect 109 = .ok (.iload 4, 2) := by decide +kernel
theorem dX4_takesEffect_111 : decode cX4_takesEffect 111 = .ok (.iload 5, 2) := by decide +kernel
theorem dX4_takesEffect_113 : decode cX4_takesEffect 113 = .ok (.iload 6, 2) := by decide +kernel
theorem dX4_takesEffect_115 : decode cX4_takesEffect 115 = .ok (.invokevirtual 257, 3) := by decide +kernel
theorem dX4_takesEffect_118 : decode cX4_takesEffect 118 = .ok (.ireturn, 1) := by decide +kernel
set_option maxRecDepth 20000 in
theorem ggX4_splitRoute_X4_put : GoodIn wsX4_splitRoute wsX4_put := goodIn_r _ [5] (by decide +kernel) (by decide +kernel)
set_option maxRecDepth 20000 in
theorem gX4_splitRoute_X4_put : GoodIn wsX4_splitRoute (va_wsS RX4 189 yX4_put wsX4_put) := goodIn_app (goodIn_of _ (by decide +kernel)) ggX4_splitRoute_X4_put
theorem dX4_splitRoute_0 : decode cX4_splitRoute 0 = .ok (.iload_n 1, 1) := by decide +kernel
theorem dX4_splitRoute_1 : decode cX4_splitRoute 1 = .ok (.ifCond .ge 5, 3) := by decide +kernel
theorem dX4_splitRoute_4 : decode cX4_splitRoute 4 = .ok (.iconst 0, 1) := by decide +kernel
theorem dX4_splitRoute_5 : decode cX4_splitRoute 5 = .ok (.ireturn, 1) := by decide +kernel
theorem dX4_splitRoute_6 : decode cX4_splitRoute 6 = .ok (.iload_n 1, 1) := by decide +kernel
theorem dX4_splitRoute_7 : decode cX4_splitRoute 7 = .ok (.istore_n 3, 1) := by decide +kernel
theorem dX4_splitRoute_8 : decode cX4_splitRoute 8 = .ok (.iload_n 2, 1) := by decide +kernel
theorem dX4_splitRoute_9 : decode cX4_splitRoute 9 = .ok (.iconst 1, 1) := by decide +kernel
theorem dX4_splitRoute_10 : decode cX4_splitRoute 10 = .ok (.isub, 1) := by decide +kernel
theorem dX4_splitRoute_11 : decode cX4_splitRoute 11 = .ok (.istore 4, 2) := by decide +kernel
theorem dX4_splitRoute_13 : decode cX4_splitRoute 13 = .ok (.iload 4, 2) := by decide +kernel
theorem dX4_splitRoute_15 : decode cX4_splitRoute 15 = .ok (.ifCond .lt 27, 3) := by decide +kernel
theorem dX4_splitRoute_18 : decode cX4_splitRoute 18 = .ok (.aload_n 0, 1) := by decide +kernel
theorem dX4_splitRoute_19 : decode cX4_splitRoute 19 = .ok (.getfield 45, 3) := by decide +kernel
theorem dX4_splitRoute_22 : decode cX4_splitRoute 22 = .ok (.iload 4, 2) := by decide +kernel
theorem dX4_splitRoute_24 : decode cX4_splitRoute 24 = .ok (.iload_n 3, 1) := by decide +kernel
theorem dX4_splitRoute_25 : decode cX4_splitRoute 25 = .ok (.bipush 10, 2) := by decide +kernel
theorem dX4_splitRoute_27 : decode cX4_splitRoute 27 = .ok (.irem, 1) := by decide +kernel
theorem dX4_splitRoute_28 : decode cX4_splitRoute 28 = .ok (.invokestatic 189, 3) := by decide +kernel
theorem dX4_splitRoute_31 : decode cX4_splitRoute 31 = .ok (.iload_n 3, 1) := by decide +kernel
theorem dX4_splitRoute_32 : decode cX4_splitRoute 32 = .ok (.bipush 10, 2) := by decide +kernel
theorem dX4_splitRoute_34 : decode cX4_splitRoute 34 = .ok (.idiv, 1) := by decide +kernel
theorem dX4_splitRoute_35 : decode cX4_splitRoute 35 = .ok (.istore_n 3, 1) := by decide +kernel
theorem dX4_splitRoute_36 : decode cX4_splitRoute 36 = .ok (.iinc 4 (-1), 3) := by decide +kernel
theorem dX4_splitRoute_39 : decode cX4_splitRoute 39 = .ok (.goto (-26), 3) := by decide +kernel
theorem dX4_splitRoute_42 : decode cX4_splitRoute 42 = .ok (.iload_n 3, 1) := by decide +kernel
theorem dX4_splitRoute_43 : decode cX4_splitRoute 43 = .ok (.ifCond .ne 7, 3) := by decide +kernel
theorem dX4_splitRoute_46 : decode cX4_splitRoute 46 = .ok (.iconst 1, 1) := by decide +kernel
theorem dX4_splitRoute_47 : decode cX4_splitRoute 47 = .ok (.goto 4, 3) := by decide +kernel
theorem dX4_splitRoute_50 : decode cX4_splitRoute 50 = .ok (.iconst 0, 1) := by decide +kernel
theorem dX4_splitRoute_51 : decode cX4_splitRoute 51 = .ok (.ireturn, 1) := by decide +kernel
set_option maxRecDepth 20000 in
theorem ggX4_tellToAll_X1_tell : GoodIn wsX4_tellToAll wsX1_tell := goodIn_r _ [6, 7, 8, 9, 10, 11, 12, 13, 5, 14, 15, 16, 17, 18, 19, 20, 21, 22, 23, 24, 25, 26, 27, 28, 29, 30, 31, 32, 40, 41, 42, 43, 44, 45, 46, 47, 48, 49, 50, 51] (by decide +kernel) (by decide +kernel)
set_option maxRecDepth 20000 in
theorem gX4_tellToAll_X1_tell : GoodIn wsX4_tellToAll (wsV RX4 226 RX1 yX1_tell wsX1_tell) := goodIn_app (goodIn_of _ (by decide +kernel)) ggX4_tellToAll_X1_tell
theorem dX4_tellToAll_0 : decode cX4_tellToAll 0 = .ok (.iconst 0, 1) := by decide +kernel
theorem dX4_tellToAll_1 : decode cX4_tellToAll 1 = .ok (.istore 4, 2) := by decide +kernel
theorem dX4_tellToAll_3 : decode cX4_tellToAll 3 = .ok (.iload 4, 2) := by decide +kernel
theorem dX4_tellToAll_5 : decode cX4_tellToAll 5 = .ok (.bipush 6, 2) := by decide +kernel
theorem dX4_tellToAll_7 : decode cX4_tellToAll 7 = .ok (.if_icmp .ge 22, 3) := by decide +kernel
theorem dX4_tellToAll_10 : decode cX4_tellToAll 10 = .ok (.aload_n 0, 1) := by decide +kernel
theorem dX4_tellToAll_11 : decode cX4_tellToAll 11 = .ok (.getfield 10, 3) := by decide +kernel
theorem dX4_tellToAll_14 : decode cX4_tellToAll 14 = .ok (.aload_n 1, 1) := by decide +kernel
theorem dX4_tellToAll_15 : decode cX4_tellToAll 15 = .ok (.iload_n 2, 1) := by decide +kernel
theorem dX4_tellToAll_16 : decode cX4_tellToAll 16 = .ok (.iload 4, 2) := by decide +kernel
theorem dX4_tellToAll_18 : decode cX4_tellToAll 18 = .ok (.iload_n 3, 1) := by decide +kernel
theorem dX4_tellToAll_19 : decode cX4_tellToAll 19 = .ok (.invokevirtual 226, 3) := by decide +kernel
theorem dX4_tellToAll_22 : decode cX4_tellToAll 22 = .ok (.pop, 1) := by decide +kernel
theorem dX4_tellToAll_23 : decode cX4_tellToAll 23 = .ok (.iinc 4 1, 3) := by decide +kernel
theorem dX4_tellToAll_26 : decode cX4_tellToAll 26 = .ok (.goto (-23), 3) := by decide +kernel
theorem dX4_tellToAll_29 : decode cX4_tellToAll 29 = .ok (.return_, 1) := by decide +kernel
set_option maxRecDepth 20000 in
theorem ggX4_denyToAll_X1_deny : GoodIn wsX4_denyToAll wsX1_deny := goodIn_r _ [6, 7, 8, 9, 10, 11, 12, 13, 14, 15, 16, 17, 18, 19, 20, 21, 22, 23, 24, 25, 33, 34, 35, 36, 37, 38, 39, 40, 41, 42, 43, 44] (by decide +kernel) (by decide +kernel)
set_option maxRecDepth 20000 in
theorem gX4_denyToAll_X1_deny : GoodIn wsX4_denyToAll (wsV RX4 257 RX1 yX1_deny wsX1_deny) := goodIn_app (goodIn_of _ (by decide +kernel)) ggX4_denyToAll_X1_deny
theorem dX4_denyToAll_0 : decode cX4_denyToAll 0 = .ok (.iconst 0, 1) := by decide +kernel
theorem dX4_denyToAll_1 : decode cX4_denyToAll 1 = .ok (.istore 4, 2) := by decide +kernel
theorem dX4_denyToAll_3 : decode cX4_denyToAll 3 = .ok (.iconst 0, 1) := by decide +kernel
theorem dX4_denyToAll_4 : decode cX4_denyToAll 4 = .ok (.istore 5, 2) := by decide +kernel
theorem dX4_denyToAll_6 : decode cX4_denyToAll 6 = .ok (.iload 5, 2) := by decide +kernel
theorem dX4_denyToAll_8 : decode cX4_denyToAll 8 = .ok (.bipush 6, 2) := by decide +kernel
theorem dX4_denyToAll_10 : decode cX4_denyToAll 10 = .ok (.if_icmp .ge 27, 3) := by decide +kernel
theorem dX4_denyToAll_13 : decode cX4_denyToAll 13 = .ok (.aload_n 0, 1) := by decide +kernel
theorem dX4_denyToAll_14 : decode cX4_denyToAll 14 = .ok (.getfield 10, 3) := by decide +kernel
theorem dX4_denyToAll_17 : decode cX4_denyToAll 17 = .ok (.aload_n 1, 1) := by decide +kernel
theorem dX4_denyToAll_18 : decode cX4_denyToAll 18 = .ok (.iload_n 2, 1) := by decide +kernel
theorem dX4_denyToAll_19 : decode cX4_denyToAll 19 = .ok (.iload 5, 2) := by decide +kernel
theorem dX4_denyToAll_21 : decode cX4_denyToAll 21 = .ok (.iload_n 3, 1) := by decide +kernel
theorem dX4_denyToAll_22 : decode cX4_denyToAll 22 = .ok (.invokevirtual 257, 3) := by decide +kernel
theorem dX4_denyToAll_25 : decode cX4_denyToAll 25 = .ok (.ifCond .eq 6, 3) := by decide +kernel
theorem dX4_denyToAll_28 : decode cX4_denyToAll 28 = .ok (.iinc 4 1, 3) := by decide +kernel
theorem dX4_denyToAll_31 : decode cX4_denyToAll 31 = .ok (.iinc 5 1, 3) := by decide +kernel
theorem dX4_denyToAll_34 : decode cX4_denyToAll 34 = .ok (.goto (-28), 3) := by decide +kernel
theorem dX4_denyToAll_37 : decode cX4_denyToAll 37 = .ok (.iload 4, 2) := by decide +kernel
theorem dX4_denyToAll_39 : decode cX4_denyToAll 39 = .ok (.ireturn, 1) := by decide +kernel
set_option maxRecDepth 20000 in
theorem ggX4_spread_X1_mayTell : GoodIn wsX4_spread wsX1_mayTell := goodIn_r _ [6, 7, 8, 9, 10, 11, 12, 13, 14, 15, 16, 45, 46, 47, 48, 49, 50, 51, 52, 53, 54, 55, 56] (by decide +kernel) (by decide +kernel)
set_option maxRecDepth 20000 in
theorem gX4_spread_X1_mayTell : GoodIn wsX4_spread (wsV RX4 260 RX1 yX1_mayTell wsX1_mayTell) := goodIn_app (goodIn_of _ (by decide +kernel)) ggX4_spread_X1_mayTell
set_option maxRecDepth 20000 in
theorem ggX4_spread_X4_tellToAll : GoodIn wsX4_spread wsX4_tellToAll := goodIn_r _ [20, 1, 21, 22, 23, 5, 24, 25, 7, 26, 27, 28, 3, 4, 6, 8, 9, 10, 11, 12, 13, 14, 15, 16, 29, 30, 31, 32, 33, 34, 35, 36, 37, 38, 39, 40, 41, 42, 43, 44, 45, 46, 47, 48, 49, 50, 51, 52, 53, 54, 55, 56] (by decide +kernel) (by decide +kernel)
set_option maxRecDepth 20000 in
theorem gX4_spread_X4_tellToAll : GoodIn wsX4_spread (wsV RX4 182 RX4 yX4_tellToAll wsX4_tellToAll) := goodIn_app (goodIn_of _ (by decide +kernel)) ggX4_spread_X4_tellToAll
theorem dX4_spread_0 : decode cX4_spread 0 = .ok (.iconst 0, 1) := by decide +kernel
theorem dX4_spread_1 : decode cX4_spread 1 = .ok (.istore_n 3, 1) := by decide +kernel
theorem dX4_spread_2 : decode cX4_spread 2 = .ok (.iconst 0, 1) := by decide +kernel
theorem dX4_spread_3 : decode cX4_spread 3 = .ok (.istore 4, 2) := by decide +kernel
theorem dX4_spread_5 : decode cX4_spread 5 = .ok (.iload 4, 2) := by decide +kernel
theorem dX4_spread_7 : decode cX4_spread 7 = .ok (.bipush 6, 2) := by decide +kernel
theorem dX4_spread_9 : decode cX4_spread 9 = .ok (.if_icmp .ge 30, 3) := by decide +kernel
theorem dX4_spread_12 : decode cX4_spread 12 = .ok (.aload_n 0, 1) := by decide +kernel
theorem dX4_spread_13 : decode cX4_spread 13 = .ok (.getfield 10, 3) := by decide +kernel
theorem dX4_spread_16 : decode cX4_spread 16 = .ok (.aload_n 1, 1) := by decide +kernel
theorem dX4_spread_17 : decode cX4_spread 17 = .ok (.iload 4, 2) := by decide +kernel
theorem dX4_spread_19 : decode cX4_spread 19 = .ok (.iload_n 2, 1) := by decide +kernel
theorem dX4_spread_20 : decode cX4_spread 20 = .ok (.invokevirtual 260, 3) := by decide +kernel
theorem dX4_spread_23 : decode cX4_spread 23 = .ok (.ifCond .eq 10, 3) := by decide +kernel
theorem dX4_spread_26 : decode cX4_spread 26 = .ok (.iload_n 3, 1) := by decide +kernel
theorem dX4_spread_27 : decode cX4_spread 27 = .ok (.iconst 1, 1) := by decide +kernel
theorem dX4_spread_28 : decode cX4_spread 28 = .ok (.iload 4, 2) := by decide +kernel
theorem dX4_spread_30 : decode cX4_spread 30 = .ok (.ishl, 1) := by decide +kernel
theorem dX4_spread_31 : decode cX4_spread 31 = .ok (.ior, 1) := by decide +kernel
theorem dX4_spread_32 : decode cX4_spread 32 = .ok (.istore_n 3, 1) := by decide +kernel
theorem dX4_spread_33 : decode cX4_spread 33 = .ok (.iinc 4 1, 3) := by decide +kernel
theorem dX4_spread_36 : decode cX4_spread 36 = .ok (.goto (-31), 3) := by decide +kernel
theorem dX4_spread_39 : decode cX4_spread 39 = .ok (.iconst 0, 1) := by decide +kernel
theorem dX4_spread_40 : decode cX4_spread 40 = .ok (.istore 4, 2) := by decide +kernel
theorem dX4_spread_42 : decode cX4_spread 42 = .ok (.iload 4, 2) := by decide +kernel
theorem dX4_spread_44 : decode cX4_spread 44 = .ok (.bipush 6, 2) := by decide +kernel
theorem dX4_spread_46 : decode cX4_spread 46 = .ok (.if_icmp .ge 27, 3) := by decide +kernel
theorem dX4_spread_49 : decode cX4_spread 49 = .ok (.iload_n 3, 1) := by decide +kernel
theorem dX4_spread_50 : decode cX4_spread 50 = .ok (.iload 4, 2) := by decide +kernel
theorem dX4_spread_52 : decode cX4_spread 52 = .ok (.ishr, 1) := by decide +kernel
theorem dX4_spread_53 : decode cX4_spread 53 = .ok (.iconst 1, 1) := by decide +kernel
theorem dX4_spread_54 : decode cX4_spread 54 = .ok (.iand, 1) := by decide +kernel
theorem dX4_spread_55 : decode cX4_spread 55 = .ok (.iconst 1, 1) := by decide +kernel
theorem dX4_spread_56 : decode cX4_spread 56 = .ok (.if_icmp .ne 11, 3) := by decide +kernel
theorem dX4_spread_59 : decode cX4_spread 59 = .ok (.aload_n 0, 1) := by decide +kernel
theorem dX4_spread_60 : decode cX4_spread 60 = .ok (.aload_n 1, 1) := by decide +kernel
theorem dX4_spread_61 : decode cX4_spread 61 = .ok (.iload 4, 2) := by decide +kernel
theorem dX4_spread_63 : decode cX4_spread 63 = .ok (.iload_n 2, 1) := by decide +kernel
theorem dX4_spread_64 : decode cX4_spread 64 = .ok (.invokevirtual 182, 3) := by decide +kernel
theorem dX4_spread_67 : decode cX4_spread 67 = .ok (.iinc 4 1, 3) := by decide +kernel
theorem dX4_spread_70 : decode cX4_spread 70 = .ok (.goto (-28), 3) := by decide +kernel
theorem dX4_spread_73 : decode cX4_spread 73 = .ok (.return_, 1) := by decide +kernel
set_option maxRecDepth 20000 in
theorem ggX4_tellingsFor_X0_become : GoodIn wsX4_tellingsFor wsX0_become := goodIn_r _ [8, 9, 10, 11, 12, 13, 14, 15, 73] (by decide +kernel) (by decide +kernel)
set_option maxRecDepth 20000 in
theorem gX4_tellingsFor_X0_become : GoodIn wsX4_tellingsFor (wsV RX4 103 RX0 yX0_become wsX0_become) := goodIn_app (goodIn_of _ (by decide +kernel)) ggX4_tellingsFor_X0_become
set_option maxRecDepth 20000 in
theorem ggX4_tellingsFor_X0_load : GoodIn wsX4_tellingsFor wsX0_load := goodIn_r _ [19, 20, 21, 22, 7, 23, 9, 73] (by decide +kernel) (by decide +kernel)
set_option maxRecDepth 20000 in
theorem gX4_tellingsFor_X0_load : GoodIn wsX4_tellingsFor (wsV RX4 142 RX0 yX0_load wsX0_load) := goodIn_app (goodIn_of _ (by decide +kernel)) ggX4_tellingsFor_X0_load
set_option maxRecDepth 20000 in
theorem ggX4_tellingsFor_X4_spread : GoodIn wsX4_tellingsFor wsX4_spread := goodIn_r _ [27, 2, 28, 29, 30, 31, 32, 33, 14, 11, 15, 34, 21, 22, 7, 23, 9, 35, 36, 37, 38, 39, 40, 41, 42, 43, 44, 45, 46, 47, 48, 13, 49, 50, 51, 52, 53, 54, 55, 56, 57, 58, 59, 60, 61, 62, 63, 64, 65, 66, 67, 68, 69, 70, 71, 72, 73] (by decide +kernel) (by decide +kernel)
set_option maxRecDepth 20000 in
theorem gX4_tellingsFor_X4_spread : GoodIn wsX4_tellingsFor (wsV RX4 175 RX4 yX4_spread wsX4_spread) := goodIn_app (goodIn_of _ (by decide +kernel)) ggX4_tellingsFor_X4_spread
theorem dX4_tellingsFor_0 : decode cX4_tellingsFor 0 = .ok (.aload_n 0, 1) := by decide +kernel
theorem dX4_tellingsFor_1 : decode cX4_tellingsFor 1 = .ok (.getfield 37, 3) := by decide +kernel
theorem dX4_tellingsFor_4 : decode cX4_tellingsFor 4 = .ok (.aload_n 0, 1) := by decide +kernel
theorem dX4_tellingsFor_5 : decode cX4_tellingsFor 5 = .ok (.getfield 10, 3) := by decide +kernel
theorem dX4_tellingsFor_8 : decode cX4_tellingsFor 8 = .ok (.getfield 72, 3) := by decide +kernel
theorem dX4_tellingsFor_11 : decode cX4_tellingsFor 11 = .ok (.invokevirtual 103, 3) := by decide +kernel
theorem dX4_tellingsFor_14 : decode cX4_tellingsFor 14 = .ok (.aload_n 0, 1) := by decide +kernel
theorem dX4_tellingsFor_15 : decode cX4_tellingsFor 15 = .ok (.getfield 37, 3) := by decide +kernel
theorem dX4_tellingsFor_18 : decode cX4_tellingsFor 18 = .ok (.iload_n 1, 1) := by decide +kernel
theorem dX4_tellingsFor_19 : decode cX4_tellingsFor 19 = .ok (.iconst 0, 1) := by decide +kernel
theorem dX4_tellingsFor_20 : decode cX4_tellingsFor 20 = .ok (.invokevirtual 142, 3) := by decide +kernel
theorem dX4_tellingsFor_23 : decode cX4_tellingsFor 23 = .ok (.istore_n 3, 1) := by decide +kernel
theorem dX4_tellingsFor_24 : decode cX4_tellingsFor 24 = .ok (.iconst 0, 1) := by decide +kernel
theorem dX4_tellingsFor_25 : decode cX4_tellingsFor 25 = .ok (.istore 4, 2) := by decide +kernel
theorem dX4_tellingsFor_27 : decode cX4_tellingsFor 27 = .ok (.iload 4, 2) := by decide +kernel
theorem dX4_tellingsFor_29 : decode cX4_tellingsFor 29 = .ok (.bipush 6, 2) := by decide +kernel
theorem dX4_tellingsFor_31 : decode cX4_tellingsFor 31 = .ok (.if_icmp .ge 18, 3) := by decide +kernel
theorem dX4_tellingsFor_34 : decode cX4_tellingsFor 34 = .ok (.aload_n 0, 1) := by decide +kernel
theorem dX4_tellingsFor_35 : decode cX4_tellingsFor 35 = .ok (.aload_n 0, 1) := by decide +kernel
theorem dX4_tellingsFor_36 : decode cX4_tellingsFor 36 = .ok (.getfield 37, 3) := by decide +kernel
theorem dX4_tellingsFor_39 : decode cX4_tellingsFor 39 = .ok (.iload_n 1, 1) := by decide +kernel
theorem dX4_tellingsFor_40 : decode cX4_tellingsFor 40 = .ok (.invokevirtual 175, 3) := by decide +kernel
theorem dX4_tellingsFor_43 : decode cX4_tellingsFor 43 = .ok (.iinc 4 1, 3) := by decide +kernel
theorem dX4_tellingsFor_46 : decode cX4_tellingsFor 46 = .ok (.goto (-19), 3) := by decide +kernel
theorem dX4_tellingsFor_49 : decode cX4_tellingsFor 49 = .ok (.aload_n 0, 1) := by decide +kernel
theorem dX4_tellingsFor_50 : decode cX4_tellingsFor 50 = .ok (.getfield 37, 3) := by decide +kernel
theorem dX4_tellingsFor_53 : decode cX4_tellingsFor 53 = .ok (.iload_n 1, 1) := by decide +kernel
theorem dX4_tellingsFor_54 : decode cX4_tellingsFor 54 = .ok (.iconst 0, 1) := by decide +kernel
theorem dX4_tellingsFor_55 : decode cX4_tellingsFor 55 = .ok (.invokevirtual 142, 3) := by decide +kernel
theorem dX4_tellingsFor_58 : decode cX4_tellingsFor 58 = .ok (.iload_n 2, 1) := by decide +kernel
theorem dX4_tellingsFor_59 : decode cX4_tellingsFor 59 = .ok (.if_icmp .ge 5, 3) := by decide +kernel
theorem dX4_tellingsFor_62 : decode cX4_tellingsFor 62 = .ok (.iconst (-1), 1) := by decide +kernel
theorem dX4_tellingsFor_63 : decode cX4_tellingsFor 63 = .ok (.ireturn, 1) := by decide +kernel
theorem dX4_tellingsFor_64 : decode cX4_tellingsFor 64 = .ok (.iload_n 3, 1) := by decide +kernel
theorem dX4_tellingsFor_65 : decode cX4_tellingsFor 65 = .ok (.iload_n 2, 1) := by decide +kernel
theorem dX4_tellingsFor_66 : decode cX4_tellingsFor 66 = .ok (.if_icmp .ge 9, 3) := by decide +kernel
theorem dX4_tellingsFor_69 : decode cX4_tellingsFor 69 = .ok (.iload_n 2, 1) := by decide +kernel
theorem dX4_tellingsFor_70 : decode cX4_tellingsFor 70 = .ok (.iload_n 3, 1) := by decide +kernel
theorem dX4_tellingsFor_71 : decode cX4_tellingsFor 71 = .ok (.isub, 1) := by decide +kernel
theorem dX4_tellingsFor_72 : decode cX4_tellingsFor 72 = .ok (.goto 4, 3) := by decide +kernel
theorem dX4_tellingsFor_75 : decode cX4_tellingsFor 75 = .ok (.iconst 0, 1) := by decide +kernel
theorem dX4_tellingsFor_76 : decode cX4_tellingsFor 76 = .ok (.ireturn, 1) := by decide +kernel
set_option maxRecDepth 20000 in
theorem ggX4_standsBehind_X0_load : GoodIn wsX4_standsBehind wsX0_load := goodIn_r _ [8, 9, 10, 11, 7, 12, 13, 90] (by decide +kernel) (by decide +kernel)
set_option maxRecDepth 20000 in
theorem gX4_standsBehind_X0_load : GoodIn wsX4_standsBehind (wsV RX4 142 RX0 yX0_load wsX0_load) := goodIn_app (goodIn_of _ (by decide +kernel)) ggX4_standsBehind_X0_load
set_option maxRecDepth 20000 in
theorem ggX4_standsBehind_X3_weigh : GoodIn wsX4_standsBehind wsX3_weigh := goodIn_r _ [18, 19, 20, 21, 22, 91, 92, 93, 94, 95, 96, 97] (by decide +kernel) (by decide +kernel)
set_option maxRecDepth 20000 in
theorem gX4_standsBehind_X3_weigh : GoodIn wsX4_standsBehind (wsV RX4 148 RX3 yX3_weigh wsX3_weigh) := goodIn_app (goodIn_of _ (by decide +kernel)) ggX4_standsBehind_X3_weigh
set_option maxRecDepth 20000 in
theorem ggX4_standsBehind_X3_findCheapest : GoodIn wsX4_standsBehind wsX3_findCheapest := goodIn_r _ [26, 27, 28, 29, 30, 17, 31, 32, 33, 34, 35, 36, 37, 38, 39, 40, 41, 42, 43, 44, 45, 46, 47, 48, 49, 21, 50, 51, 52, 53, 54, 55, 56, 57, 19, 58, 59, 60, 61, 62, 63, 64, 65, 66, 67, 68, 69, 70, 20, 22, 91, 92, 93, 94, 95, 96, 97, 79, 80, 81, 82, 83, 84, 85, 86, 87, 88, 89] (by decide +kernel) (by decide +kernel)
set_option maxRecDepth 20000 in
theorem gX4_standsBehind_X3_findCheapest : GoodIn wsX4_standsBehind (wsV RX4 152 RX3 yX3_findCheapest wsX3_findCheapest) := goodIn_app (goodIn_of _ (by decide +kernel)) ggX4_standsBehind_X3_findCheapest
set_option maxRecDepth 20000 in
theorem ggX4_standsBehind_X3_found : GoodIn wsX4_standsBehind wsX3_found := goodIn_r _ [48, 33, 91, 92, 93, 94, 95, 96, 97] (by decide +kernel) (by decide +kernel)
set_option maxRecDepth 20000 in
theorem gX4_standsBehind_X3_found : GoodIn wsX4_standsBehind (wsV RX4 156 RX3 yX3_found wsX3_found) := goodIn_app (goodIn_of _ (by decide +kernel)) ggX4_standsBehind_X3_found
theorem dX4_standsBehind_0 : decode cX4_standsBehind 0 = .ok (.iconst 0, 1) := by decide +kernel
theorem dX4_standsBehind_1 : decode cX4_standsBehind 1 = .ok (.istore 5, 2) := by decide +kernel
theorem dX4_standsBehind_3 : decode cX4_standsBehind 3 = .ok (.iload 5, 2) := by decide +kernel
theorem dX4_standsBehind_5 : decode cX4_standsBehind 5 = .ok (.bipush 6, 2) := by decide +kernel
theorem dX4_standsBehind_7 : decode cX4_standsBehind 7 = .ok (.if_icmp .ge 41, 3) := by decide +kernel
theorem dX4_standsBehind_10 : decode cX4_standsBehind 10 = .ok (.aload_n 0, 1) := by decide +kernel
theorem dX4_standsBehind_11 : decode cX4_standsBehind 11 = .ok (.getfield 30, 3) := by decide +kernel
theorem dX4_standsBehind_14 : decode cX4_standsBehind 14 = .ok (.iload 5, 2) := by decide +kernel
theorem dX4_standsBehind_16 : decode cX4_standsBehind 16 = .ok (.aload_n 0, 1) := by decide +kernel
theorem dX4_standsBehind_17 : decode cX4_standsBehind 17 = .ok (.getfield 10, 3) := by decide +kernel
theorem dX4_standsBehind_20 : decode cX4_standsBehind 20 = .ok (.getfield 72, 3) := by decide +kernel
theorem dX4_standsBehind_23 : decode cX4_standsBehind 23 = .ok (.iload 5, 2) := by decide +kernel
theorem dX4_standsBehind_25 : decode cX4_standsBehind 25 = .ok (.iload_n 1, 1) := by decide +kernel
theorem dX4_standsBehind_26 : decode cX4_standsBehind 26 = .ok (.invokevirtual 142, 3) := by decide +kernel
theorem dX4_standsBehind_29 : decode cX4_standsBehind 29 = .ok (.iload 4, 2) := by decide +kernel
theorem dX4_standsBehind_31 : decode cX4_standsBehind 31 = .ok (.if_icmp .lt 7, 3) := by decide +kernel
theorem dX4_standsBehind_34 : decode cX4_standsBehind 34 = .ok (.iconst 0, 1) := by decide +kernel
theorem dX4_standsBehind_35 : decode cX4_standsBehind 35 = .ok (.goto 4, 3) := by decide +kernel
theorem dX4_standsBehind_38 : decode cX4_standsBehind 38 = .ok (.iconst (-1), 1) := by decide +kernel
theorem dX4_standsBehind_39 : decode cX4_standsBehind 39 = .ok (.invokevirtual 148, 3) := by decide +kernel
theorem dX4_standsBehind_42 : decode cX4_standsBehind 42 = .ok (.iinc 5 1, 3) := by decide +kernel
theorem dX4_standsBehind_45 : decode cX4_standsBehind 45 = .ok (.goto (-42), 3) := by decide +kernel
theorem dX4_standsBehind_48 : decode cX4_standsBehind 48 = .ok (.aload_n 0, 1) := by decide +kernel
theorem dX4_standsBehind_49 : decode cX4_standsBehind 49 = .ok (.getfield 30, 3) := by decide +kernel
theorem dX4_standsBehind_52 : decode cX4_standsBehind 52 = .ok (.aload_n 0, 1) := by decide +kernel
theorem dX4_standsBehind_53 : decode cX4_standsBehind 53 = .ok (.getfield 10, 3) := by decide +kernel
theorem dX4_standsBehind_56 : decode cX4_standsBehind 56 = .ok (.iload_n 2, 1) := by decide +kernel
theorem dX4_standsBehind_57 : decode cX4_standsBehind 57 = .ok (.iload_n 3, 1) := by decide +kernel
theorem dX4_standsBehind_58 : decode cX4_standsBehind 58 = .ok (.invokevirtual 152, 3) := by decide +kernel
theorem dX4_standsBehind_61 : decode cX4_standsBehind 61 = .ok (.aload_n 0, 1) := by decide +kernel
theorem dX4_standsBehind_62 : decode cX4_standsBehind 62 = .ok (.getfield 30, 3) := by decide +kernel
theorem dX4_standsBehind_65 : decode cX4_standsBehind 65 = .ok (.invokevirtual 156, 3) := by decide +kernel
theorem dX4_standsBehind_68 : decode cX4_standsBehind 68 = .ok (.ireturn, 1) := by decide +kernel
set_option maxRecDepth 20000 in
theorem ggX4_findSafest_X4_at : GoodIn wsX4_findSafest wsX4_at := goodIn_r _ [7] (by decide +kernel) (by decide +kernel)
set_option maxRecDepth 20000 in
theorem gX4_findSafest_X4_at : GoodIn wsX4_findSafest (va_wsS RX4 134 yX4_at wsX4_at) := goodIn_app (goodIn_of _ (by decide +kernel)) ggX4_findSafest_X4_at
set_option maxRecDepth 20000 in
theorem ggX4_findSafest_X3_weigh : GoodIn wsX4_findSafest wsX3_weigh := goodIn_r _ [12, 13, 14, 6, 15, 80, 81, 82, 83, 84, 85, 86] (by decide +kernel) (by decide +kernel)
set_option maxRecDepth 20000 in
theorem gX4_findSafest_X3_weigh : GoodIn wsX4_findSafest (wsV RX4 148 RX3 yX3_weigh wsX3_weigh) := goodIn_app (goodIn_of _ (by decide +kernel)) ggX4_findSafest_X3_weigh
set_option maxRecDepth 20000 in
theorem ggX4_findSafest_X3_findLikeliest : GoodIn wsX4_findSafest wsX3_findLikeliest := goodIn_r _ [19, 20, 21, 22, 23, 24, 11, 25, 26, 27, 28, 29, 30, 31, 32, 33, 34, 35, 36, 37, 38, 39, 40, 41, 42, 43, 6, 44, 4, 5, 7, 45, 46, 47, 48, 13, 49, 50, 51, 52, 53, 54, 55, 56, 57, 58, 59, 60, 61, 14, 15, 80, 81, 82, 83, 84, 85, 86, 69, 70, 71, 72, 73, 74, 75, 76, 77, 78, 79] (by decide +kernel) (by decide +kernel)
set_option maxRecDepth 20000 in
theorem gX4_findSafest_X3_findLikeliest : GoodIn wsX4_findSafest (wsV RX4 264 RX3 yX3_findLikeliest wsX3_findLikeliest) := goodIn_app (goodIn_of _ (by decide +kernel)) ggX4_findSafest_X3_findLikeliest
theorem dX4_findSafest_0 : decode cX4_findSafest 0 = .ok (.iconst 0, 1) := by decide +kernel
theorem dX4_findSafest_1 : decode cX4_findSafest 1 = .ok (.istore_n 3, 1) := by decide +kernel
theorem dX4_findSafest_2 : decode cX4_findSafest 2 = .ok (.iload_n 3, 1) := by decide +kernel
theorem dX4_findSafest_3 : decode cX4_findSafest 3 = .ok (.bipush 6, 2) := by decide +kernel
theorem dX4_findSafest_5 : decode cX4_findSafest 5 = .ok (.if_icmp .ge 28, 3) := by decide +kernel
theorem dX4_findSafest_8 : decode cX4_findSafest 8 = .ok (.aload_n 0, 1) := by decide +kernel
theorem dX4_findSafest_9 : decode cX4_findSafest 9 = .ok (.getfield 30, 3) := by decide +kernel
theorem dX4_findSafest_12 : decode cX4_findSafest 12 = .ok (.iload_n 3, 1) := by decide +kernel
theorem dX4_findSafest_13 : decode cX4_findSafest 13 = .ok (.aload_n 0, 1) := by decide +kernel
theorem dX4_findSafest_14 : decode cX4_findSafest 14 = .ok (.getfield 10, 3) := by decide +kernel
theorem dX4_findSafest_17 : decode cX4_findSafest 17 = .ok (.getfield 186, 3) := by decide +kernel
theorem dX4_findSafest_20 : decode cX4_findSafest 20 = .ok (.iload_n 3, 1) := by decide +kernel
theorem dX4_findSafest_21 : decode cX4_findSafest 21 = .ok (.invokestatic 134, 3) := by decide +kernel
theorem dX4_findSafest_24 : decode cX4_findSafest 24 = .ok (.invokevirtual 148, 3) := by decide +kernel
theorem dX4_findSafest_27 : decode cX4_findSafest 27 = .ok (.iinc 3 1, 3) := by decide +kernel
theorem dX4_findSafest_30 : decode cX4_findSafest 30 = .ok (.goto (-28), 3) := by decide +kernel
theorem dX4_findSafest_33 : decode cX4_findSafest 33 = .ok (.aload_n 0, 1) := by decide +kernel
theorem dX4_findSafest_34 : decode cX4_findSafest 34 = .ok (.getfield 30, 3) := by decide +kernel
theorem dX4_findSafest_37 : decode cX4_findSafest 37 = .ok (.aload_n 0, 1) := by decide +kernel
theorem dX4_findSafest_38 : decode cX4_findSafest 38 = .ok (.getfield 10, 3) := by decide +kernel
theorem dX4_findSafest_41 : decode cX4_findSafest 41 = .ok (.iload_n 1, 1) := by decide +kernel
theorem dX4_findSafest_42 : decode cX4_findSafest 42 = .ok (.iload_n 2, 1) := by decide +kernel
theorem dX4_findSafest_43 : decode cX4_findSafest 43 = .ok (.invokevirtual 264, 3) := by decide +kernel
theorem dX4_findSafest_46 : decode cX4_findSafest 46 = .ok (.return_, 1) := by decide +kernel
set_option maxRecDepth 20000 in
theorem ggX4_guess_X4_put : GoodIn wsX4_guess wsX4_put := goodIn_r _ [7] (by decide +kernel) (by decide +kernel)
set_option maxRecDepth 20000 in
theorem gX4_guess_X4_put : GoodIn wsX4_guess (va_wsS RX4 189 yX4_put wsX4_put) := goodIn_app (goodIn_of _ (by decide +kernel)) ggX4_guess_X4_put
theorem dX4_guess_0 : decode cX4_guess 0 = .ok (.iload_n 1, 1) := by decide +kernel
theorem dX4_guess_1 : decode cX4_guess 1 = .ok (.istore_n 2, 1) := by decide +kernel
theorem dX4_guess_2 : decode cX4_guess 2 = .ok (.aload_n 0, 1) := by decide +kernel
theorem dX4_guess_3 : decode cX4_guess 3 = .ok (.getfield 23, 3) := by decide +kernel
theorem dX4_guess_6 : decode cX4_guess 6 = .ok (.getfield 215, 3) := by decide +kernel
theorem dX4_guess_9 : decode cX4_guess 9 = .ok (.iconst 1, 1) := by decide +kernel
theorem dX4_guess_10 : decode cX4_guess 10 = .ok (.isub, 1) := by decide +kernel
theorem dX4_guess_11 : decode cX4_guess 11 = .ok (.istore_n 3, 1) := by decide +kernel
theorem dX4_guess_12 : decode cX4_guess 12 = .ok (.iload_n 3, 1) := by decide +kernel
theorem dX4_guess_13 : decode cX4_guess 13 = .ok (.ifCond .lt 26, 3) := by decide +kernel
theorem dX4_guess_16 : decode cX4_guess 16 = .ok (.aload_n 0, 1) := by decide +kernel
theorem dX4_guess_17 : decode cX4_guess 17 = .ok (.getfield 41, 3) := by decide +kernel
theorem dX4_guess_20 : decode cX4_guess 20 = .ok (.iload_n 3, 1) := by decide +kernel
theorem dX4_guess_21 : decode cX4_guess 21 = .ok (.iload_n 2, 1) := by decide +kernel
theorem dX4_guess_22 : decode cX4_guess 22 = .ok (.bipush 6, 2) := by decide +kernel
theorem dX4_guess_24 : decode cX4_guess 24 = .ok (.irem, 1) := by decide +kernel
theorem dX4_guess_25 : decode cX4_guess 25 = .ok (.invokestatic 189, 3) := by decide +kernel
theorem dX4_guess_28 : decode cX4_guess 28 = .ok (.iload_n 2, 1) := by decide +kernel
theorem dX4_guess_29 : decode cX4_guess 29 = .ok (.bipush 6, 2) := by decide +kernel
theorem dX4_guess_31 : decode cX4_guess 31 = .ok (.idiv, 1) := by decide +kernel
theorem dX4_guess_32 : decode cX4_guess 32 = .ok (.istore_n 2, 1) := by decide +kernel
theorem dX4_guess_33 : decode cX4_guess 33 = .ok (.iinc 3 (-1), 3) := by decide +kernel
theorem dX4_guess_36 : decode cX4_guess 36 = .ok (.goto (-24), 3) := by decide +kernel
theorem dX4_guess_39 : decode cX4_guess 39 = .ok (.return_, 1) := by decide +kernel
set_option maxRecDepth 20000 in
theorem ggX4_fits_X0_become : GoodIn wsX4_fits wsX0_become := goodIn_r _ [13, 14, 15, 16, 17, 18, 19, 20, 94] (by decide +kernel) (by decide +kernel)
set_option maxRecDepth 20000 in
theorem gX4_fits_X0_become : GoodIn wsX4_fits (wsV RX4 103 RX0 yX0_become wsX0_become) := goodIn_app (goodIn_of _ (by decide +kernel)) ggX4_fits_X0_become
set_option maxRecDepth 20000 in
theorem ggX4_fits_X4_takesEffect : GoodIn wsX4_fits wsX4_takesEffect := goodIn_r _ [24, 4, 25, 26, 27, 28, 29, 2, 18, 19, 16, 20, 30, 31, 32, 12, 33, 14, 34, 35, 36, 37, 38, 39, 40, 41, 42, 43, 44, 45, 46, 47, 48, 49, 50, 51, 52, 53, 54, 55, 56, 57, 58, 59, 60, 61, 62, 68, 69, 70, 71, 72, 73, 74, 86, 87, 88, 89, 90, 91, 92, 93, 94, 75, 76, 77, 78, 79, 80, 81, 82, 83, 84, 85] (by decide +kernel) (by decide +kernel)
set_option maxRecDepth 20000 in
theorem gX4_fits_X4_takesEffect : GoodIn wsX4_fits (wsV RX4 110 RX4 yX4_takesEffect wsX4_takesEffect) := goodIn_app (goodIn_of _ (by decide +kernel)) ggX4_fits_X4_takesEffect
set_option maxRecDepth 20000 in
theorem ggX4_fits_X4_at : GoodIn wsX4_fits wsX4_at := goodIn_r _ [20] (by decide +kernel) (by decide +kernel)
set_option maxRecDepth 20000 in
theorem gX4_fits_X4_at : GoodIn wsX4_fits (va_wsS RX4 134 yX4_at wsX4_at) := goodIn_app (goodIn_of _ (by decide +kernel)) ggX4_fits_X4_at
set_option maxRecDepth 20000 in
theorem ggX4_fits_X0_load : GoodIn wsX4_fits wsX0_load := goodIn_r _ [66, 67, 48, 49, 12, 50, 14, 94] (by decide +kernel) (by decide +kernel)
set_option maxRecDepth 20000 in
theorem gX4_fits_X0_load : GoodIn wsX4_fits (wsV RX4 142 RX0 yX0_load wsX0_load) := goodIn_app (goodIn_of _ (by decide +kernel)) ggX4_fits_X0_load
theorem dX4_fits_0 : decode cX4_fits 0 = .ok (.aload_n 0, 1) := by decide +kernel
theorem dX4_fits_1 : decode cX4_fits 1 = .ok (.getfield 37, 3) := by decide +kernel
theorem dX4_fits_4 : decode cX4_fits 4 = .ok (.aload_n 0, 1) := by decide +kernel
theorem dX4_fits_5 : decode cX4_fits 5 = .ok (.getfield 10, 3) := by decide +kernel
theorem dX4_fits_8 : decode cX4_fits 8 = .ok (.getfield 72, 3) := by decide +kernel
theorem dX4_fits_11 : decode cX4_fits 11 = .ok (.invokevirtual 103, 3) := by decide +kernel
theorem dX4_fits_14 : decode cX4_fits 14 = .ok (.iconst 0, 1) := by decide +kernel
theorem dX4_fits_15 : decode cX4_fits 15 = .ok (.istore_n 1, 1) := by decide +kernel
theorem dX4_fits_16 : decode cX4_fits 16 = .ok (.iload_n 1, 1) := by decide +kernel
theorem dX4_fits_17 : decode cX4_fits 17 = .ok (.aload_n 0, 1) := by decide +kernel
theorem dX4_fits_18 : decode cX4_fits 18 = .ok (.getfield 23, 3) := by decide +kernel
theorem dX4_fits_21 : decode cX4_fits 21 = .ok (.getfield 107, 3) := by decide +kernel
theorem dX4_fits_24 : decode cX4_fits 24 = .ok (.if_icmp .ge 23, 3) := by decide +kernel
theorem dX4_fits_27 : decode cX4_fits 27 = .ok (.aload_n 0, 1) := by decide +kernel
theorem dX4_fits_28 : decode cX4_fits 28 = .ok (.iload_n 1, 1) := by decide +kernel
theorem dX4_fits_29 : decode cX4_fits 29 = .ok (.aload_n 0, 1) := by decide +kernel
theorem dX4_fits_30 : decode cX4_fits 30 = .ok (.getfield 37, 3) := by decide +kernel
theorem dX4_fits_33 : decode cX4_fits 33 = .ok (.invokevirtual 110, 3) := by decide +kernel
theorem dX4_fits_36 : decode cX4_fits 36 = .ok (.ifCond .ne 5, 3) := by decide +kernel
theorem dX4_fits_39 : decode cX4_fits 39 = .ok (.iconst 0, 1) := by decide +kernel
theorem dX4_fits_40 : decode cX4_fits 40 = .ok (.ireturn, 1) := by decide +kernel
theorem dX4_fits_41 : decode cX4_fits 41 = .ok (.iinc 1 1, 3) := by decide +kernel
theorem dX4_fits_44 : decode cX4_fits 44 = .ok (.goto (-28), 3) := by decide +kernel
theorem dX4_fits_47 : decode cX4_fits 47 = .ok (.iconst 0, 1) := by decide +kernel
theorem dX4_fits_48 : decode cX4_fits 48 = .ok (.istore_n 1, 1) := by decide +kernel
theorem dX4_fits_49 : decode cX4_fits 49 = .ok (.iload_n 1, 1) := by decide +kernel
theorem dX4_fits_50 : decode cX4_fits 50 = .ok (.aload_n 0, 1) := by decide +kernel
theorem dX4_fits_51 : decode cX4_fits 51 = .ok (.getfield 10, 3) := by decide +kernel
theorem dX4_fits_54 : decode cX4_fits 54 = .ok (.getfield 206, 3) := by decide +kernel
theorem dX4_fits_57 : decode cX4_fits 57 = .ok (.if_icmp .ge 44, 3) := by decide +kernel
theorem dX4_fits_60 : decode cX4_fits 60 = .ok (.aload_n 0, 1) := by decide +kernel
end
section
theorem dX4_fits_61 : decode cX4_fits 61 = .ok (.getfield 37, 3) := by decide +kernel
theorem dX4_fits_64 : decode cX4_fits 64 = .ok (.aload_n 0, 1) := by decide +kernel
theorem dX4_fits_65 : decode cX4_fits 65 = .ok (.getfield 10, 3) := by decide +kernel
theorem dX4_fits_68 : decode cX4_fits 68 = .ok (.getfield 209, 3) := by decide +kernel
theorem dX4_fits_71 : decode cX4_fits 71 = .ok (.iload_n 1, 1) := by decide +kernel
theorem dX4_fits_72 : decode cX4_fits 72 = .ok (.invokestatic 134, 3) := by decide +kernel
theorem dX4_fits_75 : decode cX4_fits 75 = .ok (.iconst 0, 1) := by decide +kernel
theorem dX4_fits_76 : decode cX4_fits 76 = .ok (.invokevirtual 142, 3) := by decide +kernel
theorem dX4_fits_79 : decode cX4_fits 79 = .ok (.aload_n 0, 1) := by decide +kernel
theorem dX4_fits_80 : decode cX4_fits 80 = .ok (.getfield 10, 3) := by decide +kernel
theorem dX4_fits_83 : decode cX4_fits 83 = .ok (.getfield 212, 3) := by decide +kernel
theorem dX4_fits_86 : decode cX4_fits 86 = .ok (.iload_n 1, 1) := by decide +kernel
theorem dX4_fits_87 : decode cX4_fits 87 = .ok (.invokestatic 134, 3) := by decide +kernel
theorem dX4_fits_90 : decode cX4_fits 90 = .ok (.if_icmp .eq 5, 3) := by decide +kernel
theorem dX4_fits_93 : decode cX4_fits 93 = .ok (.iconst 0, 1) := by decide +kernel
theorem dX4_fits_94 : decode cX4_fits 94 = .ok (.ireturn, 1) := by decide +kernel
theorem dX4_fits_95 : decode cX4_fits 95 = .ok (.iinc 1 1, 3) := by decide +kernel
theorem dX4_fits_98 : decode cX4_fits 98 = .ok (.goto (-49), 3) := by decide +kernel
theorem dX4_fits_101 : decode cX4_fits 101 = .ok (.iconst 1, 1) := by decide +kernel
theorem dX4_fits_102 : decode cX4_fits 102 = .ok (.ireturn, 1) := by decide +kernel
theorem dX5_init_0 : decode cX5_init 0 = .ok (.aload_n 0, 1) := by decide +kernel
theorem dX5_init_1 : decode cX5_init 1 = .ok (.invokespecial 1, 3) := by decide +kernel
theorem dX5_init_4 : decode cX5_init 4 = .ok (.aload_n 0, 1) := by decide +kernel
theorem dX5_init_5 : decode cX5_init 5 = .ok (.bipush 6, 2) := by decide +kernel
theorem dX5_init_7 : decode cX5_init 7 = .ok (.newarray .int, 2) := by decide +kernel
theorem dX5_init_9 : decode cX5_init 9 = .ok (.putfield 7, 3) := by decide +kernel
theorem dX5_init_12 : decode cX5_init 12 = .ok (.aload_n 0, 1) := by decide +kernel
theorem dX5_init_13 : decode cX5_init 13 = .ok (.bipush 6, 2) := by decide +kernel
theorem dX5_init_15 : decode cX5_init 15 = .ok (.newarray .int, 2) := by decide +kernel
theorem dX5_init_17 : decode cX5_init 17 = .ok (.putfield 13, 3) := by decide +kernel
theorem dX5_init_20 : decode cX5_init 20 = .ok (.aload_n 0, 1) := by decide +kernel
theorem dX5_init_21 : decode cX5_init 21 = .ok (.bipush 6, 2) := by decide +kernel
theorem dX5_init_23 : decode cX5_init 23 = .ok (.newarray .int, 2) := by decide +kernel
theorem dX5_init_25 : decode cX5_init 25 = .ok (.putfield 16, 3) := by decide +kernel
theorem dX5_init_28 : decode cX5_init 28 = .ok (.aload_n 0, 1) := by decide +kernel
theorem dX5_init_29 : decode cX5_init 29 = .ok (.bipush 6, 2) := by decide +kernel
theorem dX5_init_31 : decode cX5_init 31 = .ok (.newarray .int, 2) := by decide +kernel
theorem dX5_init_33 : decode cX5_init 33 = .ok (.putfield 19, 3) := by decide +kernel
theorem dX5_init_36 : decode cX5_init 36 = .ok (.aload_n 0, 1) := by decide +kernel
theorem dX5_init_37 : decode cX5_init 37 = .ok (.bipush 6, 2) := by decide +kernel
theorem dX5_init_39 : decode cX5_init 39 = .ok (.newarray .int, 2) := by decide +kernel
theorem dX5_init_41 : decode cX5_init 41 = .ok (.putfield 22, 3) := by decide +kernel
theorem dX5_init_44 : decode cX5_init 44 = .ok (.aload_n 0, 1) := by decide +kernel
theorem dX5_init_45 : decode cX5_init 45 = .ok (.bipush 36, 2) := by decide +kernel
theorem dX5_init_47 : decode cX5_init 47 = .ok (.newarray .int, 2) := by decide +kernel
theorem dX5_init_49 : decode cX5_init 49 = .ok (.putfield 25, 3) := by decide +kernel
theorem dX5_init_52 : decode cX5_init 52 = .ok (.aload_n 0, 1) := by decide +kernel
theorem dX5_init_53 : decode cX5_init 53 = .ok (.bipush 6, 2) := by decide +kernel
theorem dX5_init_55 : decode cX5_init 55 = .ok (.newarray .int, 2) := by decide +kernel
theorem dX5_init_57 : decode cX5_init 57 = .ok (.putfield 28, 3) := by decide +kernel
theorem dX5_init_60 : decode cX5_init 60 = .ok (.aload_n 0, 1) := by decide +kernel
theorem dX5_init_61 : decode cX5_init 61 = .ok (.iconst 3, 1) := by decide +kernel
theorem dX5_init_62 : decode cX5_init 62 = .ok (.putfield 31, 3) := by decide +kernel
theorem dX5_init_65 : decode cX5_init 65 = .ok (.aload_n 0, 1) := by decide +kernel
theorem dX5_init_66 : decode cX5_init 66 = .ok (.bipush 12, 2) := by decide +kernel
theorem dX5_init_68 : decode cX5_init 68 = .ok (.newarray .int, 2) := by decide +kernel
theorem dX5_init_70 : decode cX5_init 70 = .ok (.putfield 35, 3) := by decide +kernel
theorem dX5_init_73 : decode cX5_init 73 = .ok (.aload_n 0, 1) := by decide +kernel
theorem dX5_init_74 : decode cX5_init 74 = .ok (.bipush 60, 2) := by decide +kernel
theorem dX5_init_76 : decode cX5_init 76 = .ok (.newarray .int, 2) := by decide +kernel
theorem dX5_init_78 : decode cX5_init 78 = .ok (.putfield 38, 3) := by decide +kernel
theorem dX5_init_81 : decode cX5_init 81 = .ok (.aload_n 0, 1) := by decide +kernel
theorem dX5_init_82 : decode cX5_init 82 = .ok (.bipush 36, 2) := by decide +kernel
theorem dX5_init_84 : decode cX5_init 84 = .ok (.newarray .int, 2) := by decide +kernel
theorem dX5_init_86 : decode cX5_init 86 = .ok (.putfield 41, 3) := by decide +kernel
theorem dX5_init_89 : decode cX5_init 89 = .ok (.aload_n 0, 1) := by decide +kernel
theorem dX5_init_90 : decode cX5_init 90 = .ok (.bipush 6, 2) := by decide +kernel
theorem dX5_init_92 : decode cX5_init 92 = .ok (.newarray .int, 2) := by decide +kernel
theorem dX5_init_94 : decode cX5_init 94 = .ok (.putfield 44, 3) := by decide +kernel
theorem dX5_init_97 : decode cX5_init 97 = .ok (.aload_n 0, 1) := by decide +kernel
theorem dX5_init_98 : decode cX5_init 98 = .ok (.sipush 200, 3) := by decide +kernel
theorem dX5_init_101 : decode cX5_init 101 = .ok (.newarray .int, 2) := by decide +kernel
theorem dX5_init_103 : decode cX5_init 103 = .ok (.putfield 47, 3) := by decide +kernel
theorem dX5_init_106 : decode cX5_init 106 = .ok (.aload_n 0, 1) := by decide +kernel
theorem dX5_init_107 : decode cX5_init 107 = .ok (.iconst 2, 1) := by decide +kernel
theorem dX5_init_108 : decode cX5_init 108 = .ok (.newarray .boolean, 2) := by decide +kernel
theorem dX5_init_110 : decode cX5_init 110 = .ok (.putfield 50, 3) := by decide +kernel
theorem dX5_init_113 : decode cX5_init 113 = .ok (.iconst 0, 1) := by decide +kernel
theorem dX5_init_114 : decode cX5_init 114 = .ok (.istore_n 1, 1) := by decide +kernel
theorem dX5_init_115 : decode cX5_init 115 = .ok (.iload_n 1, 1) := by decide +kernel
theorem dX5_init_116 : decode cX5_init 116 = .ok (.bipush 6, 2) := by decide +kernel
theorem dX5_init_118 : decode cX5_init 118 = .ok (.if_icmp .ge 57, 3) := by decide +kernel
theorem dX5_init_121 : decode cX5_init 121 = .ok (.aload_n 0, 1) := by decide +kernel
theorem dX5_init_122 : decode cX5_init 122 = .ok (.getfield 7, 3) := by decide +kernel
theorem dX5_init_125 : decode cX5_init 125 = .ok (.iload_n 1, 1) := by decide +kernel
theorem dX5_init_126 : decode cX5_init 126 = .ok (.iload_n 1, 1) := by decide +kernel
theorem dX5_init_127 : decode cX5_init 127 = .ok (.iconst 5, 1) := by decide +kernel
theorem dX5_init_128 : decode cX5_init 128 = .ok (.if_icmp .ne 7, 3) := by decide +kernel
theorem dX5_init_131 : decode cX5_init 131 = .ok (.iconst 0, 1) := by decide +kernel
theorem dX5_init_132 : decode cX5_init 132 = .ok (.goto 4, 3) := by decide +kernel
theorem dX5_init_135 : decode cX5_init 135 = .ok (.iload_n 1, 1) := by decide +kernel
theorem dX5_init_136 : decode cX5_init 136 = .ok (.iastore, 1) := by decide +kernel
theorem dX5_init_137 : decode cX5_init 137 = .ok (.aload_n 0, 1) := by decide +kernel
theorem dX5_init_138 : decode cX5_init 138 = .ok (.getfield 13, 3) := by decide +kernel
theorem dX5_init_141 : decode cX5_init 141 = .ok (.iload_n 1, 1) := by decide +kernel
theorem dX5_init_142 : decode cX5_init 142 = .ok (.iload_n 1, 1) := by decide +kernel
theorem dX5_init_143 : decode cX5_init 143 = .ok (.iconst 5, 1) := by decide +kernel
theorem dX5_init_144 : decode cX5_init 144 = .ok (.if_icmp .ne 7, 3) := by decide +kernel
theorem dX5_init_147 : decode cX5_init 147 = .ok (.iconst 5, 1) := by decide +kernel
theorem dX5_init_148 : decode cX5_init 148 = .ok (.goto 6, 3) := by decide +kernel
theorem dX5_init_151 : decode cX5_init 151 = .ok (.iload_n 1, 1) := by decide +kernel
theorem dX5_init_152 : decode cX5_init 152 = .ok (.iconst 1, 1) := by decide +kernel
theorem dX5_init_153 : decode cX5_init 153 = .ok (.iadd, 1) := by decide +kernel
theorem dX5_init_154 : decode cX5_init 154 = .ok (.iastore, 1) := by decide +kernel
theorem dX5_init_155 : decode cX5_init 155 = .ok (.aload_n 0, 1) := by decide +kernel
theorem dX5_init_156 : decode cX5_init 156 = .ok (.getfield 16, 3) := by decide +kernel
theorem dX5_init_159 : decode cX5_init 159 = .ok (.iload_n 1, 1) := by decide +kernel
theorem dX5_init_160 : decode cX5_init 160 = .ok (.iload_n 1, 1) := by decide +kernel
theorem dX5_init_161 : decode cX5_init 161 = .ok (.iastore, 1) := by decide +kernel
theorem dX5_init_162 : decode cX5_init 162 = .ok (.aload_n 0, 1) := by decide +kernel
theorem dX5_init_163 : decode cX5_init 163 = .ok (.getfield 28, 3) := by decide +kernel
theorem dX5_init_166 : decode cX5_init 166 = .ok (.iload_n 1, 1) := by decide +kernel
theorem dX5_init_167 : decode cX5_init 167 = .ok (.iconst 5, 1) := by decide +kernel
theorem dX5_init_168 : decode cX5_init 168 = .ok (.iastore, 1) := by decide +kernel
theorem dX5_init_169 : decode cX5_init 169 = .ok (.iinc 1 1, 3) := by decide +kernel
theorem dX5_init_172 : decode cX5_init 172 = .ok (.goto (-57), 3) := by decide +kernel
theorem dX5_init_175 : decode cX5_init 175 = .ok (.return_, 1) := by decide +kernel
theorem dX5_in_0 : decode cX5_in 0 = .ok (.iload_n 0, 1) := by decide +kernel
theorem dX5_in_1 : decode cX5_in 1 = .ok (.iload_n 1, 1) := by decide +kernel
theorem dX5_in_2 : decode cX5_in 2 = .ok (.if_icmp .lt 12, 3) := by decide +kernel
theorem dX5_in_5 : decode cX5_in 5 = .ok (.iload_n 0, 1) := by decide +kernel
theorem dX5_in_6 : decode cX5_in 6 = .ok (.iload_n 2, 1) := by decide +kernel
theorem dX5_in_7 : decode cX5_in 7 = .ok (.if_icmp .gt 7, 3) := by decide +kernel
theorem dX5_in_10 : decode cX5_in 10 = .ok (.iconst 1, 1) := by decide +kernel
theorem dX5_in_11 : decode cX5_in 11 = .ok (.goto 4, 3) := by decide +kernel
theorem dX5_in_14 : decode cX5_in 14 = .ok (.iconst 0, 1) := by decide +kernel
theorem dX5_in_15 : decode cX5_in 15 = .ok (.ireturn, 1) := by decide +kernel
theorem dX5_has_0 : decode cX5_has 0 = .ok (.iload_n 0, 1) := by decide +kernel
theorem dX5_has_1 : decode cX5_has 1 = .ok (.iload_n 1, 1) := by decide +kernel
theorem dX5_has_2 : decode cX5_has 2 = .ok (.ishr, 1) := by decide +kernel
theorem dX5_has_3 : decode cX5_has 3 = .ok (.iconst 1, 1) := by decide +kernel
theorem dX5_has_4 : decode cX5_has 4 = .ok (.iand, 1) := by decide +kernel
theorem dX5_has_5 : decode cX5_has 5 = .ok (.iconst 1, 1) := by decide +kernel
theorem dX5_has_6 : decode cX5_has 6 = .ok (.if_icmp .ne 7, 3) := by decide +kernel
theorem dX5_has_9 : decode cX5_has 9 = .ok (.iconst 1, 1) := by decide +kernel
theorem dX5_has_10 : decode cX5_has 10 = .ok (.goto 4, 3) := by decide +kernel
theorem dX5_has_13 : decode cX5_has 13 = .ok (.iconst 0, 1) := by decide +kernel
theorem dX5_has_14 : decode cX5_has 14 = .ok (.ireturn, 1) := by decide +kernel
set_option maxRecDepth 20000 in
theorem ggX5_is6_X5_in : GoodIn wsX5_is6 wsX5_in := goodIn_r _ [4] (by decide +kernel) (by decide +kernel)
set_option maxRecDepth 20000 in
theorem gX5_is6_X5_in : GoodIn wsX5_is6 (va_wsS RX5 54 yX5_in wsX5_in) := goodIn_app (goodIn_of _ (by decide +kernel)) ggX5_is6_X5_in
theorem dX5_is6_0 : decode cX5_is6 0 = .ok (.iload_n 0, 1) := by decide +kernel
theorem dX5_is6_1 : decode cX5_is6 1 = .ok (.iconst 0, 1) := by decide +kernel
theorem dX5_is6_2 : decode cX5_is6 2 = .ok (.iconst 5, 1) := by decide +kernel
theorem dX5_is6_3 : decode cX5_is6 3 = .ok (.invokestatic 54, 3) := by decide +kernel
theorem dX5_is6_6 : decode cX5_is6 6 = .ok (.ireturn, 1) := by decide +kernel
set_option maxRecDepth 20000 in
theorem ggX5_plank_X5_is6 : GoodIn wsX5_plank wsX5_is6 := goodIn_r _ [9, 10, 11, 8, 12] (by decide +kernel) (by decide +kernel)
set_option maxRecDepth 20000 in
theorem gX5_plank_X5_is6 : GoodIn wsX5_plank (va_wsS RX5 58 yX5_is6 wsX5_is6) := goodIn_app (goodIn_of _ (by decide +kernel)) ggX5_plank_X5_is6
theorem dX5_plank_0 : decode cX5_plank 0 = .ok (.iload_n 1, 1) := by decide +kernel
theorem dX5_plank_1 : decode cX5_plank 1 = .ok (.invokestatic 58, 3) := by decide +kernel
theorem dX5_plank_4 : decode cX5_plank 4 = .ok (.ifCond .eq 30, 3) := by decide +kernel
theorem dX5_plank_7 : decode cX5_plank 7 = .ok (.iload_n 2, 1) := by decide +kernel
theorem dX5_plank_8 : decode cX5_plank 8 = .ok (.invokestatic 58, 3) := by decide +kernel
theorem dX5_plank_11 : decode cX5_plank 11 = .ok (.ifCond .eq 23, 3) := by decide +kernel
theorem dX5_plank_14 : decode cX5_plank 14 = .ok (.iload_n 3, 1) := by decide +kernel
theorem dX5_plank_15 : decode cX5_plank 15 = .ok (.invokestatic 58, 3) := by decide +kernel
theorem dX5_plank_18 : decode cX5_plank 18 = .ok (.ifCond .eq 16, 3) := by decide +kernel
theorem dX5_plank_21 : decode cX5_plank 21 = .ok (.iload_n 2, 1) := by decide +kernel
theorem dX5_plank_22 : decode cX5_plank 22 = .ok (.iload_n 3, 1) := by decide +kernel
theorem dX5_plank_23 : decode cX5_plank 23 = .ok (.if_icmp .eq 11, 3) := by decide +kernel
theorem dX5_plank_26 : decode cX5_plank 26 = .ok (.iload 4, 2) := by decide +kernel
theorem dX5_plank_28 : decode cX5_plank 28 = .ok (.invokestatic 58, 3) := by decide +kernel
theorem dX5_plank_31 : decode cX5_plank 31 = .ok (.ifCond .ne 5, 3) := by decide +kernel
theorem dX5_plank_34 : decode cX5_plank 34 = .ok (.iconst (-1), 1) := by decide +kernel
theorem dX5_plank_35 : decode cX5_plank 35 = .ok (.ireturn, 1) := by decide +kernel
theorem dX5_plank_36 : decode cX5_plank 36 = .ok (.aload_n 0, 1) := by decide +kernel
theorem dX5_plank_37 : decode cX5_plank 37 = .ok (.getfield 7, 3) := by decide +kernel
theorem dX5_plank_40 : decode cX5_plank 40 = .ok (.iload_n 1, 1) := by decide +kernel
theorem dX5_plank_41 : decode cX5_plank 41 = .ok (.iload_n 2, 1) := by decide +kernel
theorem dX5_plank_42 : decode cX5_plank 42 = .ok (.iload_n 3, 1) := by decide +kernel
theorem dX5_plank_43 : decode cX5_plank 43 = .ok (.if_icmp .ge 7, 3) := by decide +kernel
theorem dX5_plank_46 : decode cX5_plank 46 = .ok (.iload_n 2, 1) := by decide +kernel
theorem dX5_plank_47 : decode cX5_plank 47 = .ok (.goto 4, 3) := by decide +kernel
theorem dX5_plank_50 : decode cX5_plank 50 = .ok (.iload_n 3, 1) := by decide +kernel
theorem dX5_plank_51 : decode cX5_plank 51 = .ok (.iastore, 1) := by decide +kernel
theorem dX5_plank_52 : decode cX5_plank 52 = .ok (.aload_n 0, 1) := by decide +kernel
theorem dX5_plank_53 : decode cX5_plank 53 = .ok (.getfield 13, 3) := by decide +kernel
theorem dX5_plank_56 : decode cX5_plank 56 = .ok (.iload_n 1, 1) := by decide +kernel
theorem dX5_plank_57 : decode cX5_plank 57 = .ok (.iload_n 2, 1) := by decide +kernel
theorem dX5_plank_58 : decode cX5_plank 58 = .ok (.iload_n 3, 1) := by decide +kernel
theorem dX5_plank_59 : decode cX5_plank 59 = .ok (.if_icmp .ge 7, 3) := by decide +kernel
theorem dX5_plank_62 : decode cX5_plank 62 = .ok (.iload_n 3, 1) := by decide +kernel
theorem dX5_plank_63 : decode cX5_plank 63 = .ok (.goto 4, 3) := by decide +kernel
theorem dX5_plank_66 : decode cX5_plank 66 = .ok (.iload_n 2, 1) := by decide +kernel
theorem dX5_plank_67 : decode cX5_plank 67 = .ok (.iastore, 1) := by decide +kernel
theorem dX5_plank_68 : decode cX5_plank 68 = .ok (.aload_n 0, 1) := by decide +kernel
theorem dX5_plank_69 : decode cX5_plank 69 = .ok (.getfield 16, 3) := by decide +kernel
theorem dX5_plank_72 : decode cX5_plank 72 = .ok (.iload_n 1, 1) := by decide +kernel
theorem dX5_plank_73 : decode cX5_plank 73 = .ok (.iload 4, 2) := by decide +kernel
theorem dX5_plank_75 : decode cX5_plank 75 = .ok (.iastore, 1) := by decide +kernel
theorem dX5_plank_76 : decode cX5_plank 76 = .ok (.iconst 0, 1) := by decide +kernel
theorem dX5_plank_77 : decode cX5_plank 77 = .ok (.istore 5, 2) := by decide +kernel
theorem dX5_plank_79 : decode cX5_plank 79 = .ok (.iload 5, 2) := by decide +kernel
theorem dX5_plank_81 : decode cX5_plank 81 = .ok (.bipush 6, 2) := by decide +kernel
theorem dX5_plank_83 : decode cX5_plank 83 = .ok (.if_icmp .ge 37, 3) := by decide +kernel
theorem dX5_plank_86 : decode cX5_plank 86 = .ok (.aload_n 0, 1) := by decide +kernel
theorem dX5_plank_87 : decode cX5_plank 87 = .ok (.getfield 25, 3) := by decide +kernel
theorem dX5_plank_90 : decode cX5_plank 90 = .ok (.bipush 6, 2) := by decide +kernel
theorem dX5_plank_92 : decode cX5_plank 92 = .ok (.iload 5, 2) := by decide +kernel
theorem dX5_plank_94 : decode cX5_plank 94 = .ok (.imul, 1) := by decide +kernel
theorem dX5_plank_95 : decode cX5_plank 95 = .ok (.iload_n 1, 1) := by decide +kernel
theorem dX5_plank_96 : decode cX5_plank 96 = .ok (.iadd, 1) := by decide +kernel
theorem dX5_plank_97 : decode cX5_plank 97 = .ok (.iconst 0, 1) := by decide +kernel
theorem dX5_plank_98 : decode cX5_plank 98 = .ok (.iastore, 1) := by decide +kernel
theorem dX5_plank_99 : decode cX5_plank 99 = .ok (.aload_n 0, 1) := by decide +kernel
theorem dX5_plank_100 : decode cX5_plank 100 = .ok (.getfield 22, 3) := by decide +kernel
theorem dX5_plank_103 : decode cX5_plank 103 = .ok (.iload 5, 2) := by decide +kernel
theorem dX5_plank_105 : decode cX5_plank 105 = .ok (.dup2, 1) := by decide +kernel
theorem dX5_plank_106 : decode cX5_plank 106 = .ok (.iaload, 1) := by decide +kernel
theorem dX5_plank_107 : decode cX5_plank 107 = .ok (.iconst 1, 1) := by decide +kernel
theorem dX5_plank_108 : decode cX5_plank 108 = .ok (.iload_n 1, 1) := by decide +kernel
theorem dX5_plank_109 : decode cX5_plank 109 = .ok (.ishl, 1) := by decide +kernel
theorem dX5_plank_110 : decode cX5_plank 110 = .ok (.iconst (-1), 1) := by decide +kernel
theorem dX5_plank_111 : decode cX5_plank 111 = .ok (.ixor, 1) := by decide +kernel
theorem dX5_plank_112 : decode cX5_plank 112 = .ok (.iand, 1) := by decide +kernel
theorem dX5_plank_113 : decode cX5_plank 113 = .ok (.iastore, 1) := by decide +kernel
theorem dX5_plank_114 : decode cX5_plank 114 = .ok (.iinc 5 1, 3) := by decide +kernel
theorem dX5_plank_117 : decode cX5_plank 117 = .ok (.goto (-38), 3) := by decide +kernel
theorem dX5_plank_120 : decode cX5_plank 120 = .ok (.iconst 1, 1) := by decide +kernel
theorem dX5_plank_121 : decode cX5_plank 121 = .ok (.ireturn, 1) := by decide +kernel
set_option maxRecDepth 20000 in
theorem ggX5_trust_X5_is6 : GoodIn wsX5_trust wsX5_is6 := goodIn_r _ [5, 6, 7, 4, 8] (by decide +kernel) (by decide +kernel)
set_option maxRecDepth 20000 in
theorem gX5_trust_X5_is6 : GoodIn wsX5_trust (va_wsS RX5 58 yX5_is6 wsX5_is6) := goodIn_app (goodIn_of _ (by decide +kernel)) ggX5_trust_X5_is6
theorem dX5_trust_0 : decode cX5_trust 0 = .ok (.iload_n 1, 1) := by decide +kernel
theorem dX5_trust_1 : decode cX5_trust 1 = .ok (.invokestatic 58, 3) := by decide +kernel
theorem dX5_trust_4 : decode cX5_trust 4 = .ok (.ifCond .eq 15, 3) := by decide +kernel
theorem dX5_trust_7 : decode cX5_trust 7 = .ok (.iload_n 2, 1) := by decide +kernel
theorem dX5_trust_8 : decode cX5_trust 8 = .ok (.invokestatic 58, 3) := by decide +kernel
theorem dX5_trust_11 : decode cX5_trust 11 = .ok (.ifCond .eq 8, 3) := by decide +kernel
theorem dX5_trust_14 : decode cX5_trust 14 = .ok (.iload_n 1, 1) := by decide +kernel
theorem dX5_trust_15 : decode cX5_trust 15 = .ok (.iload_n 2, 1) := by decide +kernel
theorem dX5_trust_16 : decode cX5_trust 16 = .ok (.if_icmp .ne 5, 3) := by decide +kernel
theorem dX5_trust_19 : decode cX5_trust 19 = .ok (.iconst (-1), 1) := by decide +kernel
theorem dX5_trust_20 : decode cX5_trust 20 = .ok (.ireturn, 1) := by decide +kernel
theorem dX5_trust_21 : decode cX5_trust 21 = .ok (.aload_n 0, 1) := by decide +kernel
theorem dX5_trust_22 : decode cX5_trust 22 = .ok (.getfield 19, 3) := by decide +kernel
theorem dX5_trust_25 : decode cX5_trust 25 = .ok (.iload_n 1, 1) := by decide +kernel
theorem dX5_trust_26 : decode cX5_trust 26 = .ok (.iload_n 3, 1) := by decide +kernel
theorem dX5_trust_27 : decode cX5_trust 27 = .ok (.ifCond .eq 16, 3) := by decide +kernel
theorem dX5_trust_30 : decode cX5_trust 30 = .ok (.aload_n 0, 1) := by decide +kernel
theorem dX5_trust_31 : decode cX5_trust 31 = .ok (.getfield 19, 3) := by decide +kernel
theorem dX5_trust_34 : decode cX5_trust 34 = .ok (.iload_n 1, 1) := by decide +kernel
theorem dX5_trust_35 : decode cX5_trust 35 = .ok (.iaload, 1) := by decide +kernel
theorem dX5_trust_36 : decode cX5_trust 36 = .ok (.iconst 1, 1) := by decide +kernel
theorem dX5_trust_37 : decode cX5_trust 37 = .ok (.iload_n 2, 1) := by decide +kernel
theorem dX5_trust_38 : decode cX5_trust 38 = .ok (.ishl, 1) := by decide +kernel
theorem dX5_trust_39 : decode cX5_trust 39 = .ok (.ior, 1) := by decide +kernel
theorem dX5_trust_40 : decode cX5_trust 40 = .ok (.goto 15, 3) := by decide +kernel
theorem dX5_trust_43 : decode cX5_trust 43 = .ok (.aload_n 0, 1) := by decide +kernel
theorem dX5_trust_44 : decode cX5_trust 44 = .ok (.getfield 19, 3) := by decide +kernel
theorem dX5_trust_47 : decode cX5_trust 47 = .ok (.iload_n 1, 1) := by decide +kernel
theorem dX5_trust_48 : decode cX5_trust 48 = .ok (.iaload, 1) := by decide +kernel
theorem dX5_trust_49 : decode cX5_trust 49 = .ok (.iconst 1, 1) := by decide +kernel
theorem dX5_trust_50 : decode cX5_trust 50 = .ok (.iload_n 2, 1) := by decide +kernel
theorem dX5_trust_51 : decode cX5_trust 51 = .ok (.ishl, 1) := by decide +kernel
theorem dX5_trust_52 : decode cX5_trust 52 = .ok (.iconst (-1), 1) := by decide +kernel
theorem dX5_trust_53 : decode cX5_trust 53 = .ok (.ixor, 1) := by decide +kernel
theorem dX5_trust_54 : decode cX5_trust 54 = .ok (.iand, 1) := by decide +kernel
theorem dX5_trust_55 : decode cX5_trust 55 = .ok (.iastore, 1) := by decide +kernel
theorem dX5_trust_56 : decode cX5_trust 56 = .ok (.iconst 1, 1) := by decide +kernel
theorem dX5_trust_57 : decode cX5_trust 57 = .ok (.ireturn, 1) := by decide +kernel
set_option maxRecDepth 20000 in
theorem ggX5_know_X5_is6 : GoodIn wsX5_know wsX5_is6 := goodIn_r _ [6, 7, 8, 5, 9] (by decide +kernel) (by decide +kernel)
set_option maxRecDepth 20000 in
theorem gX5_know_X5_is6 : GoodIn wsX5_know (va_wsS RX5 58 yX5_is6 wsX5_is6) := goodIn_app (goodIn_of _ (by decide +kernel)) ggX5_know_X5_is6
theorem dX5_know_0 : decode cX5_know 0 = .ok (.iload_n 1, 1) := by decide +kernel
theorem dX5_know_1 : decode cX5_know 1 = .ok (.invokestatic 58, 3) := by decide +kernel
theorem dX5_know_4 : decode cX5_know 4 = .ok (.ifCond .eq 10, 3) := by decide +kernel
theorem dX5_know_7 : decode cX5_know 7 = .ok (.iload_n 2, 1) := by decide +kernel
theorem dX5_know_8 : decode cX5_know 8 = .ok (.invokestatic 58, 3) := by decide +kernel
theorem dX5_know_11 : decode cX5_know 11 = .ok (.ifCond .ne 5, 3) := by decide +kernel
theorem dX5_know_14 : decode cX5_know 14 = .ok (.iconst (-1), 1) := by decide +kernel
theorem dX5_know_15 : decode cX5_know 15 = .ok (.ireturn, 1) := by decide +kernel
theorem dX5_know_16 : decode cX5_know 16 = .ok (.aload_n 0, 1) := by decide +kernel
theorem dX5_know_17 : decode cX5_know 17 = .ok (.getfield 22, 3) := by decide +kernel
theorem dX5_know_20 : decode cX5_know 20 = .ok (.iload_n 1, 1) := by decide +kernel
theorem dX5_know_21 : decode cX5_know 21 = .ok (.iload_n 3, 1) := by decide +kernel
theorem dX5_know_22 : decode cX5_know 22 = .ok (.ifCond .eq 16, 3) := by decide +kernel
theorem dX5_know_25 : decode cX5_know 25 = .ok (.aload_n 0, 1) := by decide +kernel
theorem dX5_know_26 : decode cX5_know 26 = .ok (.getfield 22, 3) := by decide +kernel
theorem dX5_know_29 : decode cX5_know 29 = .ok (.iload_n 1, 1) := by decide +kernel
theorem dX5_know_30 : decode cX5_know 30 = .ok (.iaload, 1) := by decide +kernel
theorem dX5_know_31 : decode cX5_know 31 = .ok (.iconst 1, 1) := by decide +kernel
theorem dX5_know_32 : decode cX5_know 32 = .ok (.iload_n 2, 1) := by decide +kernel
theorem dX5_know_33 : decode cX5_know 33 = .ok (.ishl, 1) := by decide +kernel
theorem dX5_know_34 : decode cX5_know 34 = .ok (.ior, 1) := by decide +kernel
theorem dX5_know_35 : decode cX5_know 35 = .ok (.goto 15, 3) := by decide +kernel
theorem dX5_know_38 : decode cX5_know 38 = .ok (.aload_n 0, 1) := by decide +kernel
theorem dX5_know_39 : decode cX5_know 39 = .ok (.getfield 22, 3) := by decide +kernel
theorem dX5_know_42 : decode cX5_know 42 = .ok (.iload_n 1, 1) := by decide +kernel
theorem dX5_know_43 : decode cX5_know 43 = .ok (.iaload, 1) := by decide +kernel
theorem dX5_know_44 : decode cX5_know 44 = .ok (.iconst 1, 1) := by decide +kernel
theorem dX5_know_45 : decode cX5_know 45 = .ok (.iload_n 2, 1) := by decide +kernel
theorem dX5_know_46 : decode cX5_know 46 = .ok (.ishl, 1) := by decide +kernel
theorem dX5_know_47 : decode cX5_know 47 = .ok (.iconst (-1), 1) := by decide +kernel
theorem dX5_know_48 : decode cX5_know 48 = .ok (.ixor, 1) := by decide +kernel
theorem dX5_know_49 : decode cX5_know 49 = .ok (.iand, 1) := by decide +kernel
theorem dX5_know_50 : decode cX5_know 50 = .ok (.iastore, 1) := by decide +kernel
theorem dX5_know_51 : decode cX5_know 51 = .ok (.aload_n 0, 1) := by decide +kernel
theorem dX5_know_52 : decode cX5_know 52 = .ok (.getfield 25, 3) := by decide +kernel
theorem dX5_know_55 : decode cX5_know 55 = .ok (.bipush 6, 2) := by decide +kernel
theorem dX5_know_57 : decode cX5_know 57 = .ok (.iload_n 1, 1) := by decide +kernel
theorem dX5_know_58 : decode cX5_know 58 = .ok (.imul, 1) := by decide +kernel
theorem dX5_know_59 : decode cX5_know 59 = .ok (.iload_n 2, 1) := by decide +kernel
theorem dX5_know_60 : decode cX5_know 60 = .ok (.iadd, 1) := by decide +kernel
theorem dX5_know_61 : decode cX5_know 61 = .ok (.iload_n 3, 1) := by decide +kernel
theorem dX5_know_62 : decode cX5_know 62 = .ok (.ifCond .eq 7, 3) := by decide +kernel
theorem dX5_know_65 : decode cX5_know 65 = .ok (.iconst 0, 1) := by decide +kernel
theorem dX5_know_66 : decode cX5_know 66 = .ok (.goto 14, 3) := by decide +kernel
theorem dX5_know_69 : decode cX5_know 69 = .ok (.aload_n 0, 1) := by decide +kernel
theorem dX5_know_70 : decode cX5_know 70 = .ok (.getfield 25, 3) := by decide +kernel
theorem dX5_know_73 : decode cX5_know 73 = .ok (.bipush 6, 2) := by decide +kernel
theorem dX5_know_75 : decode cX5_know 75 = .ok (.iload_n 1, 1) := by decide +kernel
theorem dX5_know_76 : decode cX5_know 76 = .ok (.imul, 1) := by decide +kernel
theorem dX5_know_77 : decode cX5_know 77 = .ok (.iload_n 2, 1) := by decide +kernel
theorem dX5_know_78 : decode cX5_know 78 = .ok (.iadd, 1) := by decide +kernel
theorem dX5_know_79 : decode cX5_know 79 = .ok (.iaload, 1) := by decide +kernel
theorem dX5_know_80 : decode cX5_know 80 = .ok (.iastore, 1) := by decide +kernel
theorem dX5_know_81 : decode cX5_know 81 = .ok (.iconst 1, 1) := by decide +kernel
theorem dX5_know_82 : decode cX5_know 82 = .ok (.ireturn, 1) := by decide +kernel
set_option maxRecDepth 20000 in
theorem ggX5_fade_X5_in : GoodIn wsX5_fade wsX5_in := goodIn_r _ [5] (by decide +kernel) (by decide +kernel)
set_option maxRecDepth 20000 in
theorem gX5_fade_X5_in : GoodIn wsX5_fade (va_wsS RX5 54 yX5_in wsX5_in) := goodIn_app (goodIn_of _ (by decide +kernel)) ggX5_fade_X5_in
theorem dX5_fade_0 : decode cX5_fade 0 = .ok (.iload_n 1, 1) := by decide +kernel
theorem dX5_fade_1 : decode cX5_fade 1 = .ok (.iconst 1, 1) := by decide +kernel
theorem dX5_fade_2 : decode cX5_fade 2 = .ok (.bipush 9, 2) := by decide +kernel
theorem dX5_fade_4 : decode cX5_fade 4 = .ok (.invokestatic 54, 3) := by decide +kernel
theorem dX5_fade_7 : decode cX5_fade 7 = .ok (.ifCond .ne 6, 3) := by decide +kernel
theorem dX5_fade_10 : decode cX5_fade 10 = .ok (.bipush (-2), 2) := by decide +kernel
theorem dX5_fade_12 : decode cX5_fade 12 = .ok (.ireturn, 1) := by decide +kernel
theorem dX5_fade_13 : decode cX5_fade 13 = .ok (.aload_n 0, 1) := by decide +kernel
theorem dX5_fade_14 : decode cX5_fade 14 = .ok (.getfield 31, 3) := by decide +kernel
theorem dX5_fade_17 : decode cX5_fade 17 = .ok (.istore_n 2, 1) := by decide +kernel
theorem dX5_fade_18 : decode cX5_fade 18 = .ok (.aload_n 0, 1) := by decide +kernel
theorem dX5_fade_19 : decode cX5_fade 19 = .ok (.iload_n 1, 1) := by decide +kernel
theorem dX5_fade_20 : decode cX5_fade 20 = .ok (.putfield 31, 3) := by decide +kernel
theorem dX5_fade_23 : decode cX5_fade 23 = .ok (.iload_n 2, 1) := by decide +kernel
theorem dX5_fade_24 : decode cX5_fade 24 = .ok (.ireturn, 1) := by decide +kernel
set_option maxRecDepth 20000 in
theorem ggX5_say_X5_in : GoodIn wsX5_say wsX5_in := goodIn_r _ [6] (by decide +kernel) (by decide +kernel)
set_option maxRecDepth 20000 in
theorem gX5_say_X5_in : GoodIn wsX5_say (va_wsS RX5 54 yX5_in wsX5_in) := goodIn_app (goodIn_of _ (by decide +kernel)) ggX5_say_X5_in
theorem dX5_say_0 : decode cX5_say 0 = .ok (.iload_n 1, 1) := by decide +kernel
theorem dX5_say_1 : decode cX5_say 1 = .ok (.bipush 33, 2) := by decide +kernel
theorem dX5_say_3 : decode cX5_say 3 = .ok (.bipush 126, 2) := by decide +kernel
theorem dX5_say_5 : decode cX5_say 5 = .ok (.invokestatic 54, 3) := by decide +kernel
theorem dX5_say_8 : decode cX5_say 8 = .ok (.ifCond .ne 6, 3) := by decide +kernel
theorem dX5_say_11 : decode cX5_say 11 = .ok (.bipush (-2), 2) := by decide +kernel
theorem dX5_say_13 : decode cX5_say 13 = .ok (.ireturn, 1) := by decide +kernel
theorem dX5_say_14 : decode cX5_say 14 = .ok (.aload_n 0, 1) := by decide +kernel
theorem dX5_say_15 : decode cX5_say 15 = .ok (.getfield 62, 3) := by decide +kernel
theorem dX5_say_18 : decode cX5_say 18 = .ok (.bipush 60, 2) := by decide +kernel
theorem dX5_say_20 : decode cX5_say 20 = .ok (.if_icmp .ne 6, 3) := by decide +kernel
theorem dX5_say_23 : decode cX5_say 23 = .ok (.bipush (-4), 2) := by decide +kernel
theorem dX5_say_25 : decode cX5_say 25 = .ok (.ireturn, 1) := by decide +kernel
theorem dX5_say_26 : decode cX5_say 26 = .ok (.aload_n 0, 1) := by decide +kernel
theorem dX5_say_27 : decode cX5_say 27 = .ok (.getfield 38, 3) := by decide +kernel
theorem dX5_say_30 : decode cX5_say 30 = .ok (.aload_n 0, 1) := by decide +kernel
theorem dX5_say_31 : decode cX5_say 31 = .ok (.getfield 62, 3) := by decide +kernel
theorem dX5_say_34 : decode cX5_say 34 = .ok (.iload_n 1, 1) := by decide +kernel
theorem dX5_say_35 : decode cX5_say 35 = .ok (.iastore, 1) := by decide +kernel
theorem dX5_say_36 : decode cX5_say 36 = .ok (.aload_n 0, 1) := by decide +kernel
theorem dX5_say_37 : decode cX5_say 37 = .ok (.dup, 1) := by decide +kernel
theorem dX5_say_38 : decode cX5_say 38 = .ok (.getfield 62, 3) := by decide +kernel
theorem dX5_say_41 : decode cX5_say 41 = .ok (.iconst 1, 1) := by decide +kernel
theorem dX5_say_42 : decode cX5_say 42 = .ok (.iadd, 1) := by decide +kernel
theorem dX5_say_43 : decode cX5_say 43 = .ok (.putfield 62, 3) := by decide +kernel
theorem dX5_say_46 : decode cX5_say 46 = .ok (.aload_n 0, 1) := by decide +kernel
theorem dX5_say_47 : decode cX5_say 47 = .ok (.getfield 62, 3) := by decide +kernel
theorem dX5_say_50 : decode cX5_say 50 = .ok (.ireturn, 1) := by decide +kernel
theorem dX5_wipe_0 : decode cX5_wipe 0 = .ok (.aload_n 0, 1) := by decide +kernel
theorem dX5_wipe_1 : decode cX5_wipe 1 = .ok (.getfield 62, 3) := by decide +kernel
theorem dX5_wipe_4 : decode cX5_wipe 4 = .ok (.istore_n 1, 1) := by decide +kernel
theorem dX5_wipe_5 : decode cX5_wipe 5 = .ok (.aload_n 0, 1) := by decide +kernel
theorem dX5_wipe_6 : decode cX5_wipe 6 = .ok (.iconst 0, 1) := by decide +kernel
theorem dX5_wipe_7 : decode cX5_wipe 7 = .ok (.putfield 62, 3) := by decide +kernel
theorem dX5_wipe_10 : decode cX5_wipe 10 = .ok (.iload_n 1, 1) := by decide +kernel
theorem dX5_wipe_11 : decode cX5_wipe 11 = .ok (.ireturn, 1) := by decide +kernel
set_option maxRecDepth 20000 in
theorem ggX5_faultOf_X5_in : GoodIn wsX5_faultOf wsX5_in := goodIn_r _ [6] (by decide +kernel) (by decide +kernel)
set_option maxRecDepth 20000 in
theorem gX5_faultOf_X5_in : GoodIn wsX5_faultOf (va_wsS RX5 54 yX5_in wsX5_in) := goodIn_app (goodIn_of _ (by decide +kernel)) ggX5_faultOf_X5_in
theorem dX5_faultOf_0 : decode cX5_faultOf 0 = .ok (.iconst 0, 1) := by decide +kernel
theorem dX5_faultOf_1 : decode cX5_faultOf 1 = .ok (.istore_n 1, 1) := by decide +kernel
theorem dX5_faultOf_2 : decode cX5_faultOf 2 = .ok (.iconst 0, 1) := by decide +kernel
theorem dX5_faultOf_3 : decode cX5_faultOf 3 = .ok (.istore_n 2, 1) := by decide +kernel
theorem dX5_faultOf_4 : decode cX5_faultOf 4 = .ok (.iconst 0, 1) := by decide +kernel
theorem dX5_faultOf_5 : decode cX5_faultOf 5 = .ok (.istore_n 3, 1) := by decide +kernel
theorem dX5_faultOf_6 : decode cX5_faultOf 6 = .ok (.iload_n 3, 1) := by decide +kernel
theorem dX5_faultOf_7 : decode cX5_faultOf 7 = .ok (.aload_n 0, 1) := by decide +kernel
theorem dX5_faultOf_8 : decode cX5_faultOf 8 = .ok (.getfield 62, 3) := by decide +kernel
theorem dX5_faultOf_11 : decode cX5_faultOf 11 = .ok (.if_icmp .ge 172, 3) := by decide +kernel
theorem dX5_faultOf_14 : decode cX5_faultOf 14 = .ok (.aload_n 0, 1) := by decide +kernel
theorem dX5_faultOf_15 : decode cX5_faultOf 15 = .ok (.getfield 38, 3) := by decide +kernel
theorem dX5_faultOf_18 : decode cX5_faultOf 18 = .ok (.iload_n 3, 1) := by decide +kernel
theorem dX5_faultOf_19 : decode cX5_faultOf 19 = .ok (.iaload, 1) := by decide +kernel
theorem dX5_faultOf_20 : decode cX5_faultOf 20 = .ok (.istore 4, 2) := by decide +kernel
theorem dX5_faultOf_22 : decode cX5_faultOf 22 = .ok (.iload_n 1, 1) := by decide +kernel
theorem dX5_faultOf_23 : decode cX5_faultOf 23 = .ok (.ifCond .ne 72, 3) := by decide +kernel
theorem dX5_faultOf_26 : decode cX5_faultOf 26 = .ok (.iload_n 2, 1) := by decide +kernel
theorem dX5_faultOf_27 : decode cX5_faultOf 27 = .ok (.iload 4, 2) := by decide +kernel
theorem dX5_faultOf_29 : decode cX5_faultOf 29 = .ok (.bipush 63, 2) := by decide +kernel
theorem dX5_faultOf_31 : decode cX5_faultOf 31 = .ok (.if_icmp .ne 7, 3) := by decide +kernel
theorem dX5_faultOf_34 : decode cX5_faultOf 34 = .ok (.iconst 1, 1) := by decide +kernel
theorem dX5_faultOf_35 : decode cX5_faultOf 35 = .ok (.goto 4, 3) := by decide +kernel
theorem dX5_faultOf_38 : decode cX5_faultOf 38 = .ok (.iconst 0, 1) := by decide +kernel
theorem dX5_faultOf_39 : decode cX5_faultOf 39 = .ok (.iadd, 1) := by decide +kernel
theorem dX5_faultOf_40 : decode cX5_faultOf 40 = .ok (.istore_n 2, 1) := by decide +kernel
theorem dX5_faultOf_41 : decode cX5_faultOf 41 = .ok (.iload 4, 2) := by decide +kernel
theorem dX5_faultOf_43 : decode cX5_faultOf 43 = .ok (.bipush 46, 2) := by decide +kernel
theorem dX5_faultOf_45 : decode cX5_faultOf 45 = .ok (.if_icmp .eq 27, 3) := by decide +kernel
theorem dX5_faultOf_48 : decode cX5_faultOf 48 = .ok (.iload 4, 2) := by decide +kernel
theorem dX5_faultOf_50 : decode cX5_faultOf 50 = .ok (.bipush 65, 2) := by decide +kernel
theorem dX5_faultOf_52 : decode cX5_faultOf 52 = .ok (.bipush 70, 2) := by decide +kernel
theorem dX5_faultOf_54 : decode cX5_faultOf 54 = .ok (.invokestatic 54, 3) := by decide +kernel
theorem dX5_faultOf_57 : decode cX5_faultOf 57 = .ok (.ifCond .ne 15, 3) := by decide +kernel
theorem dX5_faultOf_60 : decode cX5_faultOf 60 = .ok (.iload 4, 2) := by decide +kernel
theorem dX5_faultOf_62 : decode cX5_faultOf 62 = .ok (.bipush 63, 2) := by decide +kernel
theorem dX5_faultOf_64 : decode cX5_faultOf 64 = .ok (.if_icmp .ne 12, 3) := by decide +kernel
theorem dX5_faultOf_67 : decode cX5_faultOf 67 = .ok (.iload_n 2, 1) := by decide +kernel
theorem dX5_faultOf_68 : decode cX5_faultOf 68 = .ok (.iconst 4, 1) := by decide +kernel
theorem dX5_faultOf_69 : decode cX5_faultOf 69 = .ok (.if_icmp .ge 7, 3) := by decide +kernel
theorem dX5_faultOf_72 : decode cX5_faultOf 72 = .ok (.iconst 1, 1) := by decide +kernel
theorem dX5_faultOf_73 : decode cX5_faultOf 73 = .ok (.goto 4, 3) := by decide +kernel
theorem dX5_faultOf_76 : decode cX5_faultOf 76 = .ok (.iconst 0, 1) := by decide +kernel
theorem dX5_faultOf_77 : decode cX5_faultOf 77 = .ok (.istore 5, 2) := by decide +kernel
theorem dX5_faultOf_79 : decode cX5_faultOf 79 = .ok (.iload 4, 2) := by decide +kernel
theorem dX5_faultOf_81 : decode cX5_faultOf 81 = .ok (.bipush 46, 2) := by decide +kernel
theorem dX5_faultOf_83 : decode cX5_faultOf 83 = .ok (.if_icmp .ne 7, 3) := by decide +kernel
theorem dX5_faultOf_86 : decode cX5_faultOf 86 = .ok (.iconst 0, 1) := by decide +kernel
theorem dX5_faultOf_87 : decode cX5_faultOf 87 = .ok (.goto 4, 3) := by decide +kernel
theorem dX5_faultOf_90 : decode cX5_faultOf 90 = .ok (.iconst 1, 1) := by decide +kernel
theorem dX5_faultOf_91 : decode cX5_faultOf 91 = .ok (.istore_n 1, 1) := by decide +kernel
theorem dX5_faultOf_92 : decode cX5_faultOf 92 = .ok (.goto 78, 3) := by decide +kernel
theorem dX5_faultOf_95 : decode cX5_faultOf 95 = .ok (.iload_n 1, 1) := by decide +kernel
theorem dX5_faultOf_96 : decode cX5_faultOf 96 = .ok (.iconst 1, 1) := by decide +kernel
theorem dX5_faultOf_97 : decode cX5_faultOf 97 = .ok (.if_icmp .ne 40, 3) := by decide +kernel
theorem dX5_faultOf_100 : decode cX5_faultOf 100 = .ok (.iload 4, 2) := by decide +kernel
theorem dX5_faultOf_102 : decode cX5_faultOf 102 = .ok (.bipush 65, 2) := by decide +kernel
theorem dX5_faultOf_104 : decode cX5_faultOf 104 = .ok (.bipush 70, 2) := by decide +kernel
theorem dX5_faultOf_106 : decode cX5_faultOf 106 = .ok (.invokestatic 54, 3) := by decide +kernel
theorem dX5_faultOf_109 : decode cX5_faultOf 109 = .ok (.ifCond .eq 20, 3) := by decide +kernel
theorem dX5_faultOf_112 : decode cX5_faultOf 112 = .ok (.iload 4, 2) := by decide +kernel
theorem dX5_faultOf_114 : decode cX5_faultOf 114 = .ok (.aload_n 0, 1) := by decide +kernel
theorem dX5_faultOf_115 : decode cX5_faultOf 115 = .ok (.getfield 38, 3) := by decide +kernel
theorem dX5_faultOf_118 : decode cX5_faultOf 118 = .ok (.iload_n 3, 1) := by decide +kernel
theorem dX5_faultOf_119 : decode cX5_faultOf 119 = .ok (.iconst 1, 1) := by decide +kernel
theorem dX5_faultOf_120 : decode cX5_faultOf 120 = .ok (.isub, 1) := by decide +kernel
theorem dX5_faultOf_121 : decode cX5_faultOf 121 = .ok (.iaload, 1) := by decide +kernel
theorem dX5_faultOf_122 : decode cX5_faultOf 122 = .ok (.if_icmp .eq 7, 3) := by decide +kernel
theorem dX5_faultOf_125 : decode cX5_faultOf 125 = .ok (.iconst 1, 1) := by decide +kernel
theorem dX5_faultOf_126 : decode cX5_faultOf 126 = .ok (.goto 4, 3) := by decide +kernel
theorem dX5_faultOf_129 : decode cX5_faultOf 129 = .ok (.iconst 0, 1) := by decide +kernel
theorem dX5_faultOf_130 : decode cX5_faultOf 130 = .ok (.istore 5, 2) := by decide +kernel
theorem dX5_faultOf_132 : decode cX5_faultOf 132 = .ok (.iconst 2, 1) := by decide +kernel
theorem dX5_faultOf_133 : decode cX5_faultOf 133 = .ok (.istore_n 1, 1) := by decide +kernel
theorem dX5_faultOf_134 : decode cX5_faultOf 134 = .ok (.goto 36, 3) := by decide +kernel
theorem dX5_faultOf_137 : decode cX5_faultOf 137 = .ok (.iload_n 1, 1) := by decide +kernel
theorem dX5_faultOf_138 : decode cX5_faultOf 138 = .ok (.iconst 2, 1) := by decide +kernel
theorem dX5_faultOf_139 : decode cX5_faultOf 139 = .ok (.if_icmp .ne 18, 3) := by decide +kernel
theorem dX5_faultOf_142 : decode cX5_faultOf 142 = .ok (.iload 4, 2) := by decide +kernel
theorem dX5_faultOf_144 : decode cX5_faultOf 144 = .ok (.bipush 45, 2) := by decide +kernel
theorem dX5_faultOf_146 : decode cX5_faultOf 146 = .ok (.if_icmp .ne 11, 3) := by decide +kernel
theorem dX5_faultOf_149 : decode cX5_faultOf 149 = .ok (.iconst 1, 1) := by decide +kernel
theorem dX5_faultOf_150 : decode cX5_faultOf 150 = .ok (.istore 5, 2) := by decide +kernel
theorem dX5_faultOf_152 : decode cX5_faultOf 152 = .ok (.iconst 3, 1) := by decide +kernel
theorem dX5_faultOf_153 : decode cX5_faultOf 153 = .ok (.istore_n 1, 1) := by decide +kernel
theorem dX5_faultOf_154 : decode cX5_faultOf 154 = .ok (.goto 16, 3) := by decide +kernel
theorem dX5_faultOf_157 : decode cX5_faultOf 157 = .ok (.iload 4, 2) := by decide +kernel
theorem dX5_faultOf_159 : decode cX5_faultOf 159 = .ok (.bipush 48, 2) := by decide +kernel
theorem dX5_faultOf_161 : decode cX5_faultOf 161 = .ok (.bipush 53, 2) := by decide +kernel
theorem dX5_faultOf_163 : decode cX5_faultOf 163 = .ok (.invokestatic 54, 3) := by decide +kernel
theorem dX5_faultOf_166 : decode cX5_faultOf 166 = .ok (.istore 5, 2) := by decide +kernel
theorem dX5_faultOf_168 : decode cX5_faultOf 168 = .ok (.iconst 0, 1) := by decide +kernel
theorem dX5_faultOf_169 : decode cX5_faultOf 169 = .ok (.istore_n 1, 1) := by decide +kernel
theorem dX5_faultOf_170 : decode cX5_faultOf 170 = .ok (.iload 5, 2) := by decide +kernel
theorem dX5_faultOf_172 : decode cX5_faultOf 172 = .ok (.ifCond .ne 5, 3) := by decide +kernel
theorem dX5_faultOf_175 : decode cX5_faultOf 175 = .ok (.iload_n 3, 1) := by decide +kernel
theorem dX5_faultOf_176 : decode cX5_faultOf 176 = .ok (.ireturn, 1) := by decide +kernel
theorem dX5_faultOf_177 : decode cX5_faultOf 177 = .ok (.iinc 3 1, 3) := by decide +kernel
theorem dX5_faultOf_180 : decode cX5_faultOf 180 = .ok (.goto (-174), 3) := by decide +kernel
theorem dX5_faultOf_183 : decode cX5_faultOf 183 = .ok (.iload_n 1, 1) := by decide +kernel
theorem dX5_faultOf_184 : decode cX5_faultOf 184 = .ok (.ifCond .ne 8, 3) := by decide +kernel
theorem dX5_faultOf_187 : decode cX5_faultOf 187 = .ok (.bipush (-6), 2) := by decide +kernel
theorem dX5_faultOf_189 : decode cX5_faultOf 189 = .ok (.goto 7, 3) := by decide +kernel
theorem dX5_faultOf_192 : decode cX5_faultOf 192 = .ok (.aload_n 0, 1) := by decide +kernel
theorem dX5_faultOf_193 : decode cX5_faultOf 193 = .ok (.getfield 62, 3) := by decide +kernel
theorem dX5_faultOf_196 : decode cX5_faultOf 196 = .ok (.ireturn, 1) := by decide +kernel
set_option maxRecDepth 20000 in
theorem ggX5_fault_X5_faultOf : GoodIn wsX5_fault wsX5_faultOf := goodIn_r _ [5, 6, 7, 8, 9, 4, 10, 11, 12, 13, 14, 15, 16, 17, 18, 19, 20, 21, 22, 23, 24, 25, 26, 27, 28, 29, 30, 31, 32] (by decide +kernel) (by decide +kernel)
set_option maxRecDepth 20000 in
theorem gX5_fault_X5_faultOf : GoodIn wsX5_fault (wsV RX5 65 RX5 yX5_faultOf wsX5_faultOf) := goodIn_app (goodIn_of _ (by decide +kernel)) ggX5_fault_X5_faultOf
theorem dX5_fault_0 : decode cX5_fault 0 = .ok (.aload_n 0, 1) := by decide +kernel
theorem dX5_fault_1 : decode cX5_fault 1 = .ok (.invokevirtual 65, 3) := by decide +kernel
theorem dX5_fault_4 : decode cX5_fault 4 = .ok (.ireturn, 1) := by decide +kernel
theorem dX5_opens_0 : decode cX5_opens 0 = .ok (.iconst 0, 1) := by decide +kernel
theorem dX5_opens_1 : decode cX5_opens 1 = .ok (.istore_n 1, 1) := by decide +kernel
theorem dX5_opens_2 : decode cX5_opens 2 = .ok (.iconst 0, 1) := by decide +kernel
theorem dX5_opens_3 : decode cX5_opens 3 = .ok (.istore_n 2, 1) := by decide +kernel
theorem dX5_opens_4 : decode cX5_opens 4 = .ok (.iload_n 2, 1) := by decide +kernel
theorem dX5_opens_5 : decode cX5_opens 5 = .ok (.aload_n 0, 1) := by decide +kernel
theorem dX5_opens_6 : decode cX5_opens 6 = .ok (.getfield 62, 3) := by decide +kernel
theorem dX5_opens_9 : decode cX5_opens 9 = .ok (.if_icmp .ge 28, 3) := by decide +kernel
theorem dX5_opens_12 : decode cX5_opens 12 = .ok (.iload_n 1, 1) := by decide +kernel
theorem dX5_opens_13 : decode cX5_opens 13 = .ok (.aload_n 0, 1) := by decide +kernel
theorem dX5_opens_14 : decode cX5_opens 14 = .ok (.getfield 38, 3) := by decide +kernel
theorem dX5_opens_17 : decode cX5_opens 17 = .ok (.iload_n 2, 1) := by decide +kernel
theorem dX5_opens_18 : decode cX5_opens 18 = .ok (.iaload, 1) := by decide +kernel
theorem dX5_opens_19 : decode cX5_opens 19 = .ok (.bipush 63, 2) := by decide +kernel
theorem dX5_opens_21 : decode cX5_opens 21 = .ok (.if_icmp .ne 7, 3) := by decide +kernel
theorem dX5_opens_24 : decode cX5_opens 24 = .ok (.iconst 1, 1) := by decide +kernel
theorem dX5_opens_25 : decode cX5_opens 25 = .ok (.goto 4, 3) := by decide +kernel
theorem dX5_opens_28 : decode cX5_opens 28 = .ok (.iconst 0, 1) := by decide +kernel
theorem dX5_opens_29 : decode cX5_opens 29 = .ok (.iadd, 1) := by decide +kernel
theorem dX5_opens_30 : decode cX5_opens 30 = .ok (.istore_n 1, 1) := by decide +kernel
theorem dX5_opens_31 : decode cX5_opens 31 = .ok (.iinc 2 1, 3) := by decide +kernel
theorem dX5_opens_34 : decode cX5_opens 34 = .ok (.goto (-30), 3) := by decide +kernel
theorem dX5_opens_37 : decode cX5_opens 37 = .ok (.iload_n 1, 1) := by decide +kernel
theorem dX5_opens_38 : decode cX5_opens 38 = .ok (.ireturn, 1) := by decide +kernel
theorem dX5_asNow_0 : decode cX5_asNow 0 = .ok (.iconst 0, 1) := by decide +kernel
theorem dX5_asNow_1 : decode cX5_asNow 1 = .ok (.istore_n 1, 1) := by decide +kernel
theorem dX5_asNow_2 : decode cX5_asNow 2 = .ok (.iload_n 1, 1) := by decide +kernel
theorem dX5_asNow_3 : decode cX5_asNow 3 = .ok (.bipush 36, 2) := by decide +kernel
theorem dX5_asNow_5 : decode cX5_asNow 5 = .ok (.if_icmp .ge 21, 3) := by decide +kernel
theorem dX5_asNow_8 : decode cX5_asNow 8 = .ok (.aload_n 0, 1) := by decide +kernel
theorem dX5_asNow_9 : decode cX5_asNow 9 = .ok (.getfield 41, 3) := by decide +kernel
theorem dX5_asNow_12 : decode cX5_asNow 12 = .ok (.iload_n 1, 1) := by decide +kernel
theorem dX5_asNow_13 : decode cX5_asNow 13 = .ok (.aload_n 0, 1) := by decide +kernel
theorem dX5_asNow_14 : decode cX5_asNow 14 = .ok (.getfield 25, 3) := by decide +kernel
theorem dX5_asNow_17 : decode cX5_asNow 17 = .ok (.iload_n 1, 1) := by decide +kernel
theorem dX5_asNow_18 : decode cX5_asNow 18 = .ok (.iaload, 1) := by decide +kernel
theorem dX5_asNow_19 : decode cX5_asNow 19 = .ok (.iastore, 1) := by decide +kernel
theorem dX5_asNow_20 : decode cX5_asNow 20 = .ok (.iinc 1 1, 3) := by decide +kernel
theorem dX5_asNow_23 : decode cX5_asNow 23 = .ok (.goto (-21), 3) := by decide +kernel
theorem dX5_asNow_26 : decode cX5_asNow 26 = .ok (.return_, 1) := by decide +kernel
set_option maxRecDepth 20000 in
theorem ggX5_tells_X5_has : GoodIn wsX5_tells wsX5_has := goodIn_r _ [9] (by decide +kernel) (by decide +kernel)
set_option maxRecDepth 20000 in
theorem gX5_tells_X5_has : GoodIn wsX5_tells (va_wsS RX5 69 yX5_has wsX5_has) := goodIn_app (goodIn_of _ (by decide +kernel)) ggX5_tells_X5_has
theorem dX5_tells_0 : decode cX5_tells 0 = .ok (.iload_n 1, 1) := by decide +kernel
theorem dX5_tells_1 : decode cX5_tells 1 = .ok (.iload_n 2, 1) := by decide +kernel
theorem dX5_tells_2 : decode cX5_tells 2 = .ok (.if_icmp .eq 81, 3) := by decide +kernel
theorem dX5_tells_5 : decode cX5_tells 5 = .ok (.aload_n 0, 1) := by decide +kernel
theorem dX5_tells_6 : decode cX5_tells 6 = .ok (.getfield 16, 3) := by decide +kernel
theorem dX5_tells_9 : decode cX5_tells 9 = .ok (.iload_n 3, 1) := by decide +kernel
theorem dX5_tells_10 : decode cX5_tells 10 = .ok (.iaload, 1) := by decide +kernel
theorem dX5_tells_11 : decode cX5_tells 11 = .ok (.iload_n 1, 1) := by decide +kernel
theorem dX5_tells_12 : decode cX5_tells 12 = .ok (.if_icmp .eq 17, 3) := by decide +kernel
theorem dX5_tells_15 : decode cX5_tells 15 = .ok (.aload_n 0, 1) := by decide +kernel
theorem dX5_tells_16 : decode cX5_tells 16 = .ok (.getfield 41, 3) := by decide +kernel
theorem dX5_tells_19 : decode cX5_tells 19 = .ok (.bipush 6, 2) := by decide +kernel
theorem dX5_tells_21 : decode cX5_tells 21 = .ok (.iload_n 1, 1) := by decide +kernel
theorem dX5_tells_22 : decode cX5_tells 22 = .ok (.imul, 1) := by decide +kernel
theorem dX5_tells_23 : decode cX5_tells 23 = .ok (.iload_n 3, 1) := by decide +kernel
theorem dX5_tells_24 : decode cX5_tells 24 = .ok (.iadd, 1) := by decide +kernel
theorem dX5_tells_25 : decode cX5_tells 25 = .ok (.iaload, 1) := by decide +kernel
theorem dX5_tells_26 : decode cX5_tells 26 = .ok (.ifCond .le 57, 3) := by decide +kernel
theorem dX5_tells_29 : decode cX5_tells 29 = .ok (.aload_n 0, 1) := by decide +kernel
theorem dX5_tells_30 : decode cX5_tells 30 = .ok (.getfield 19, 3) := by decide +kernel
theorem dX5_tells_33 : decode cX5_tells 33 = .ok (.iload_n 2, 1) := by decide +kernel
theorem dX5_tells_34 : decode cX5_tells 34 = .ok (.iaload, 1) := by decide +kernel
theorem dX5_tells_35 : decode cX5_tells 35 = .ok (.iload_n 1, 1) := by decide +kernel
theorem dX5_tells_36 : decode cX5_tells 36 = .ok (.invokestatic 69, 3) := by decide +kernel
theorem dX5_tells_39 : decode cX5_tells 39 = .ok (.ifCond .eq 44, 3) := by decide +kernel
theorem dX5_tells_42 : decode cX5_tells 42 = .ok (.aload_n 0, 1) := by decide +kernel
theorem dX5_tells_43 : decode cX5_tells 43 = .ok (.getfield 16, 3) := by decide +kernel
theorem dX5_tells_46 : decode cX5_tells 46 = .ok (.iload_n 3, 1) := by decide +kernel
theorem dX5_tells_47 : decode cX5_tells 47 = .ok (.iaload, 1) := by decide +kernel
theorem dX5_tells_48 : decode cX5_tells 48 = .ok (.iload_n 2, 1) := by decide +kernel
theorem dX5_tells_49 : decode cX5_tells 49 = .ok (.if_icmp .eq 34, 3) := by decide +kernel
theorem dX5_tells_52 : decode cX5_tells 52 = .ok (.aload_n 0, 1) := by decide +kernel
theorem dX5_tells_53 : decode cX5_tells 53 = .ok (.getfield 22, 3) := by decide +kernel
theorem dX5_tells_56 : decode cX5_tells 56 = .ok (.iload_n 2, 1) := by decide +kernel
theorem dX5_tells_57 : decode cX5_tells 57 = .ok (.iaload, 1) := by decide +kernel
theorem dX5_tells_58 : decode cX5_tells 58 = .ok (.iload_n 3, 1) := by decide +kernel
theorem dX5_tells_59 : decode cX5_tells 59 = .ok (.invokestatic 69, 3) := by decide +kernel
theorem dX5_tells_62 : decode cX5_tells 62 = .ok (.ifCond .ne 21, 3) := by decide +kernel
theorem dX5_tells_65 : decode cX5_tells 65 = .ok (.aload_n 0, 1) := by decide +kernel
theorem dX5_tells_66 : decode cX5_tells 66 = .ok (.getfield 41, 3) := by decide +kernel
theorem dX5_tells_69 : decode cX5_tells 69 = .ok (.bipush 6, 2) := by decide +kernel
theorem dX5_tells_71 : decode cX5_tells 71 = .ok (.iload_n 2, 1) := by decide +kernel
theorem dX5_tells_72 : decode cX5_tells 72 = .ok (.imul, 1) := by decide +kernel
theorem dX5_tells_73 : decode cX5_tells 73 = .ok (.iload_n 3, 1) := by decide +kernel
theorem dX5_tells_74 : decode cX5_tells 74 = .ok (.iadd, 1) := by decide +kernel
theorem dX5_tells_75 : decode cX5_tells 75 = .ok (.iaload, 1) := by decide +kernel
theorem dX5_tells_76 : decode cX5_tells 76 = .ok (.ifCond .ne 7, 3) := by decide +kernel
theorem dX5_tells_79 : decode cX5_tells 79 = .ok (.iconst 1, 1) := by decide +kernel
theorem dX5_tells_80 : decode cX5_tells 80 = .ok (.goto 4, 3) := by decide +kernel
theorem dX5_tells_83 : decode cX5_tells 83 = .ok (.iconst 0, 1) := by decide +kernel
theorem dX5_tells_84 : decode cX5_tells 84 = .ok (.istore 4, 2) := by decide +kernel
theorem dX5_tells_86 : decode cX5_tells 86 = .ok (.aload_n 0, 1) := by decide +kernel
theorem dX5_tells_87 : decode cX5_tells 87 = .ok (.getfield 41, 3) := by decide +kernel
theorem dX5_tells_90 : decode cX5_tells 90 = .ok (.bipush 6, 2) := by decide +kernel
theorem dX5_tells_92 : decode cX5_tells 92 = .ok (.iload_n 2, 1) := by decide +kernel
theorem dX5_tells_93 : decode cX5_tells 93 = .ok (.imul, 1) := by decide +kernel
theorem dX5_tells_94 : decode cX5_tells 94 = .ok (.iload_n 3, 1) := by decide +kernel
theorem dX5_tells_95 : decode cX5_tells 95 = .ok (.iadd, 1) := by decide +kernel
theorem dX5_tells_96 : decode cX5_tells 96 = .ok (.iload 4, 2) := by decide +kernel
theorem dX5_tells_98 : decode cX5_tells 98 = .ok (.ifCond .eq 10, 3) := by decide +kernel
theorem dX5_tells_101 : decode cX5_tells 101 = .ok (.aload_n 0, 1) := by decide +kernel
theorem dX5_tells_102 : decode cX5_tells 102 = .ok (.getfield 31, 3) := by decide +kernel
theorem dX5_tells_105 : decode cX5_tells 105 = .ok (.goto 14, 3) := by decide +kernel
theorem dX5_tells_108 : decode cX5_tells 108 = .ok (.aload_n 0, 1) := by decide +kernel
theorem dX5_tells_109 : decode cX5_tells 109 = .ok (.getfield 41, 3) := by decide +kernel
theorem dX5_tells_112 : decode cX5_tells 112 = .ok (.bipush 6, 2) := by decide +kernel
theorem dX5_tells_114 : decode cX5_tells 114 = .ok (.iload_n 2, 1) := by decide +kernel
theorem dX5_tells_115 : decode cX5_tells 115 = .ok (.imul, 1) := by decide +kernel
theorem dX5_tells_116 : decode cX5_tells 116 = .ok (.iload_n 3, 1) := by decide +kernel
theorem dX5_tells_117 : decode cX5_tells 117 = .ok (.iadd, 1) := by decide +kernel
theorem dX5_tells_118 : decode cX5_tells 118 = .ok (.iaload, 1) := by decide +kernel
theorem dX5_tells_119 : decode cX5_tells 119 = .ok (.iastore, 1) := by decide +kernel
theorem dX5_tells_120 : decode cX5_tells 120 = .ok (.iload 4, 2) := by decide +kernel
theorem dX5_tells_122 : decode cX5_tells 122 = .ok (.ireturn, 1) := by decide +kernel
set_option maxRecDepth 20000 in
theorem ggX5_denies_X5_has : GoodIn wsX5_denies wsX5_has := goodIn_r _ [6] (by decide +kernel) (by decide +kernel)
set_option maxRecDepth 20000 in
theorem gX5_denies_X5_has : GoodIn wsX5_denies (va_wsS RX5 69 yX5_has wsX5_has) := goodIn_app (goodIn_of _ (by decide +kernel)) ggX5_denies_X5_has
theorem dX5_denies_0 : decode cX5_denies 0 = .ok (.iload_n 1, 1) := by decide +kernel
theorem dX5_denies_1 : decode cX5_denies 1 = .ok (.iload_n 2, 1) := by decide +kernel
theorem dX5_denies_2 : decode cX5_denies 2 = .ok (.if_icmp .eq 34, 3) := by decide +kernel
theorem dX5_denies_5 : decode cX5_denies 5 = .ok (.aload_n 0, 1) := by decide +kernel
theorem dX5_denies_6 : decode cX5_denies 6 = .ok (.getfield 19, 3) := by decide +kernel
theorem dX5_denies_9 : decode cX5_denies 9 = .ok (.iload_n 2, 1) := by decide +kernel
theorem dX5_denies_10 : decode cX5_denies 10 = .ok (.iaload, 1) := by decide +kernel
theorem dX5_denies_11 : decode cX5_denies 11 = .ok (.iload_n 1, 1) := by decide +kernel
theorem dX5_denies_12 : decode cX5_denies 12 = .ok (.invokestatic 69, 3) := by decide +kernel
theorem dX5_denies_15 : decode cX5_denies 15 = .ok (.ifCond .eq 21, 3) := by decide +kernel
theorem dX5_denies_18 : decode cX5_denies 18 = .ok (.aload_n 0, 1) := by decide +kernel
theorem dX5_denies_19 : decode cX5_denies 19 = .ok (.getfield 41, 3) := by decide +kernel
theorem dX5_denies_22 : decode cX5_denies 22 = .ok (.bipush 6, 2) := by decide +kernel
theorem dX5_denies_24 : decode cX5_denies 24 = .ok (.iload_n 2, 1) := by decide +kernel
theorem dX5_denies_25 : decode cX5_denies 25 = .ok (.imul, 1) := by decide +kernel
theorem dX5_denies_26 : decode cX5_denies 26 = .ok (.iload_n 3, 1) := by decide +kernel
theorem dX5_denies_27 : decode cX5_denies 27 = .ok (.iadd, 1) := by decide +kernel
theorem dX5_denies_28 : decode cX5_denies 28 = .ok (.iaload, 1) := by decide +kernel
theorem dX5_denies_29 : decode cX5_denies 29 = .ok (.ifCond .le 7, 3) := by decide +kernel
theorem dX5_denies_32 : decode cX5_denies 32 = .ok (.iconst 1, 1) := by decide +kernel
theorem dX5_denies_33 : decode cX5_denies 33 = .ok (.goto 4, 3) := by decide +kernel
theorem dX5_denies_36 : decode cX5_denies 36 = .ok (.iconst 0, 1) := by decide +kernel
theorem dX5_denies_37 : decode cX5_denies 37 = .ok (.istore 4, 2) := by decide +kernel
theorem dX5_denies_39 : decode cX5_denies 39 = .ok (.aload_n 0, 1) := by decide +kernel
theorem dX5_denies_40 : decode cX5_denies 40 = .ok (.getfield 41, 3) := by decide +kernel
theorem dX5_denies_43 : decode cX5_denies 43 = .ok (.bipush 6, 2) := by decide +kernel
theorem dX5_denies_45 : decode cX5_denies 45 = .ok (.iload_n 2, 1) := by decide +kernel
theorem dX5_denies_46 : decode cX5_denies 46 = .ok (.imul, 1) := by decide +kernel
theorem dX5_denies_47 : decode cX5_denies 47 = .ok (.iload_n 3, 1) := by decide +kernel
theorem dX5_denies_48 : decode cX5_denies 48 = .ok (.iadd, 1) := by decide +kernel
theorem dX5_denies_49 : decode cX5_denies 49 = .ok (.iload 4, 2) := by decide +kernel
theorem dX5_denies_51 : decode cX5_denies 51 = .ok (.ifCond .eq 7, 3) := by decide +kernel
theorem dX5_denies_54 : decode cX5_denies 54 = .ok (.iconst 0, 1) := by decide +kernel
theorem dX5_denies_55 : decode cX5_denies 55 = .ok (.goto 14, 3) := by decide +kernel
theorem dX5_denies_58 : decode cX5_denies 58 = .ok (.aload_n 0, 1) := by decide +kernel
theorem dX5_denies_59 : decode cX5_denies 59 = .ok (.getfield 41, 3) := by decide +kernel
theorem dX5_denies_62 : decode cX5_denies 62 = .ok (.bipush 6, 2) := by decide +kernel
theorem dX5_denies_64 : decode cX5_denies 64 = .ok (.iload_n 2, 1) := by decide +kernel
theorem dX5_denies_65 : decode cX5_denies 65 = .ok (.imul, 1) := by decide +kernel
theorem dX5_denies_66 : decode cX5_denies 66 = .ok (.iload_n 3, 1) := by decide +kernel
theorem dX5_denies_67 : decode cX5_denies 67 = .ok (.iadd, 1) := by decide +kernel
theorem dX5_denies_68 : decode cX5_denies 68 = .ok (.iaload, 1) := by decide +kernel
theorem dX5_denies_69 : decode cX5_denies 69 = .ok (.iastore, 1) := by decide +kernel
theorem dX5_denies_70 : decode cX5_denies 70 = .ok (.iload 4, 2) := by decide +kernel
theorem dX5_denies_72 : decode cX5_denies 72 = .ok (.ireturn, 1) := by decide +kernel
theorem dX5_pass_0 : decode cX5_pass 0 = .ok (.iconst 0, 1) := by decide +kernel
theorem dX5_pass_1 : decode cX5_pass 1 = .ok (.istore_n 1, 1) := by decide +kernel
theorem dX5_pass_2 : decode cX5_pass 2 = .ok (.iload_n 1, 1) := by decide +kernel
theorem dX5_pass_3 : decode cX5_pass 3 = .ok (.bipush 36, 2) := by decide +kernel
theorem dX5_pass_5 : decode cX5_pass 5 = .ok (.if_icmp .ge 32, 3) := by decide +kernel
theorem dX5_pass_8 : decode cX5_pass 8 = .ok (.aload_n 0, 1) := by decide +kernel
theorem dX5_pass_9 : decode cX5_pass 9 = .ok (.getfield 41, 3) := by decide +kernel
theorem dX5_pass_12 : decode cX5_pass 12 = .ok (.iload_n 1, 1) := by decide +kernel
theorem dX5_pass_13 : decode cX5_pass 13 = .ok (.dup2, 1) := by decide +kernel
theorem dX5_pass_14 : decode cX5_pass 14 = .ok (.iaload, 1) := by decide +kernel
theorem dX5_pass_15 : decode cX5_pass 15 = .ok (.aload_n 0, 1) := by decide +kernel
theorem dX5_pass_16 : decode cX5_pass 16 = .ok (.getfield 41, 3) := by decide +kernel
theorem dX5_pass_19 : decode cX5_pass 19 = .ok (.iload_n 1, 1) := by decide +kernel
theorem dX5_pass_20 : decode cX5_pass 20 = .ok (.iaload, 1) := by decide +kernel
theorem dX5_pass_21 : decode cX5_pass 21 = .ok (.ifCond .le 7, 3) := by decide +kernel
theorem dX5_pass_24 : decode cX5_pass 24 = .ok (.iconst 1, 1) := by decide +kernel
theorem dX5_pass_25 : decode cX5_pass 25 = .ok (.goto 4, 3) := by decide +kernel
theorem dX5_pass_28 : decode cX5_pass 28 = .ok (.iconst 0, 1) := by decide +kernel
theorem dX5_pass_29 : decode cX5_pass 29 = .ok (.isub, 1) := by decide +kernel
theorem dX5_pass_30 : decode cX5_pass 30 = .ok (.iastore, 1) := by decide +kernel
theorem dX5_pass_31 : decode cX5_pass 31 = .ok (.iinc 1 1, 3) := by decide +kernel
theorem dX5_pass_34 : decode cX5_pass 34 = .ok (.goto (-32), 3) := by decide +kernel
theorem dX5_pass_37 : decode cX5_pass 37 = .ok (.return_, 1) := by decide +kernel
theorem dX5_bornBy_0 : decode cX5_bornBy 0 = .ok (.iconst 0, 1) := by decide +kernel
theorem dX5_bornBy_1 : decode cX5_bornBy 1 = .ok (.istore_n 2, 1) := by decide +kernel
theorem dX5_bornBy_2 : decode cX5_bornBy 2 = .ok (.iconst 0, 1) := by decide +kernel
theorem dX5_bornBy_3 : decode cX5_bornBy 3 = .ok (.istore_n 3, 1) := by decide +kernel
theorem dX5_bornBy_4 : decode cX5_bornBy 4 = .ok (.iload_n 3, 1) := by decide +kernel
theorem dX5_bornBy_5 : decode cX5_bornBy 5 = .ok (.bipush 6, 2) := by decide +kernel
theorem dX5_bornBy_7 : decode cX5_bornBy 7 = .ok (.if_icmp .ge 31, 3) := by decide +kernel
theorem dX5_bornBy_10 : decode cX5_bornBy 10 = .ok (.iload_n 2, 1) := by decide +kernel
theorem dX5_bornBy_11 : decode cX5_bornBy 11 = .ok (.aload_n 0, 1) := by decide +kernel
theorem dX5_bornBy_12 : decode cX5_bornBy 12 = .ok (.getfield 41, 3) := by decide +kernel
theorem dX5_bornBy_15 : decode cX5_bornBy 15 = .ok (.bipush 6, 2) := by decide +kernel
theorem dX5_bornBy_17 : decode cX5_bornBy 17 = .ok (.iload_n 3, 1) := by decide +kernel
theorem dX5_bornBy_18 : decode cX5_bornBy 18 = .ok (.imul, 1) := by decide +kernel
theorem dX5_bornBy_19 : decode cX5_bornBy 19 = .ok (.iload_n 1, 1) := by decide +kernel
theorem dX5_bornBy_20 : decode cX5_bornBy 20 = .ok (.iadd, 1) := by decide +kernel
theorem dX5_bornBy_21 : decode cX5_bornBy 21 = .ok (.iaload, 1) := by decide +kernel
theorem dX5_bornBy_22 : decode cX5_bornBy 22 = .ok (.ifCond .le 7, 3) := by decide +kernel
theorem dX5_bornBy_25 : decode cX5_bornBy 25 = .ok (.iconst 1, 1) := by decide +kernel
theorem dX5_bornBy_26 : decode cX5_bornBy 26 = .ok (.goto 4, 3) := by decide +kernel
theorem dX5_bornBy_29 : decode cX5_bornBy 29 = .ok (.iconst 0, 1) := by decide +kernel
theorem dX5_bornBy_30 : decode cX5_bornBy 30 = .ok (.iadd, 1) := by decide +kernel
theorem dX5_bornBy_31 : decode cX5_bornBy 31 = .ok (.istore_n 2, 1) := by decide +kernel
theorem dX5_bornBy_32 : decode cX5_bornBy 32 = .ok (.iinc 3 1, 3) := by decide +kernel
theorem dX5_bornBy_35 : decode cX5_bornBy 35 = .ok (.goto (-31), 3) := by decide +kernel
theorem dX5_bornBy_38 : decode cX5_bornBy 38 = .ok (.iload_n 2, 1) := by decide +kernel
theorem dX5_bornBy_39 : decode cX5_bornBy 39 = .ok (.ireturn, 1) := by decide +kernel
set_option maxRecDepth 20000 in
theorem ggX5_goText_X5_asNow : GoodIn wsX5_goText wsX5_asNow := goodIn_r _ [9, 10, 11, 35, 36, 37, 38, 39, 40, 41, 42, 43, 44, 45, 46, 47, 48, 49, 50, 51, 52, 53, 54, 55, 56] (by decide +kernel) (by decide +kernel)
set_option maxRecDepth 20000 in
theorem gX5_goText_X5_asNow : GoodIn wsX5_goText (wsV RX5 73 RX5 yX5_asNow wsX5_asNow) := goodIn_app (goodIn_of _ (by decide +kernel)) ggX5_goText_X5_asNow
set_option maxRecDepth 20000 in
theorem ggX5_goText_X5_opens : GoodIn wsX5_goText wsX5_opens := goodIn_r _ [15, 3, 4, 35, 36, 37, 38, 39, 40, 41, 42, 43, 44, 45, 46, 47, 48, 49, 50, 51, 52, 53, 54, 55, 56] (by decide +kernel) (by decide +kernel)
set_option maxRecDepth 20000 in
theorem gX5_goText_X5_opens : GoodIn wsX5_goText (wsV RX5 76 RX5 yX5_opens wsX5_opens) := goodIn_app (goodIn_of _ (by decide +kernel)) ggX5_goText_X5_opens
set_option maxRecDepth 20000 in
theorem ggX5_goText_X5_pass : GoodIn wsX5_goText wsX5_pass := goodIn_r _ [19, 10, 35, 36, 37, 38, 39, 40, 41, 42, 43, 44, 45, 46, 47, 48, 49, 50, 51, 52, 53, 54, 55, 56] (by decide +kernel) (by decide +kernel)
set_option maxRecDepth 20000 in
theorem gX5_goText_X5_pass : GoodIn wsX5_goText (wsV RX5 85 RX5 yX5_pass wsX5_pass) := goodIn_app (goodIn_of _ (by decide +kernel)) ggX5_goText_X5_pass
set_option maxRecDepth 20000 in
theorem ggX5_goText_X5_denies : GoodIn wsX5_goText wsX5_denies := goodIn_r _ [23, 24, 10, 25, 26, 8, 27, 35, 36, 37, 38, 39, 40, 41, 42, 43, 44, 45, 46, 47, 48, 49, 50, 51, 52, 53, 54, 55, 56] (by decide +kernel) (by decide +kernel)
set_option maxRecDepth 20000 in
theorem gX5_goText_X5_denies : GoodIn wsX5_goText (wsV RX5 88 RX5 yX5_denies wsX5_denies) := goodIn_app (goodIn_of _ (by decide +kernel)) ggX5_goText_X5_denies
set_option maxRecDepth 20000 in
theorem ggX5_goText_X5_tells : GoodIn wsX5_goText wsX5_tells := goodIn_r _ [31, 32, 10, 24, 33, 34, 25, 26, 8, 27, 35, 36, 37, 38, 39, 40, 41, 42, 43, 44, 45, 46, 47, 48, 49, 50, 51, 52, 53, 54, 55, 56] (by decide +kernel) (by decide +kernel)
set_option maxRecDepth 20000 in
theorem gX5_goText_X5_tells : GoodIn wsX5_goText (wsV RX5 91 RX5 yX5_tells wsX5_tells) := goodIn_app (goodIn_of _ (by decide +kernel)) ggX5_goText_X5_tells
theorem dX5_goText_0 : decode cX5_goText 0 = .ok (.aload_n 0, 1) := by decide +kernel
theorem dX5_goText_1 : decode cX5_goText 1 = .ok (.invokevirtual 73, 3) := by decide +kernel
theorem dX5_goText_4 : decode cX5_goText 4 = .ok (.iconst 1, 1) := by decide +kernel
theorem dX5_goText_5 : decode cX5_goText 5 = .ok (.istore_n 3, 1) := by decide +kernel
theorem dX5_goText_6 : decode cX5_goText 6 = .ok (.iconst 1, 1) := by decide +kernel
theorem dX5_goText_7 : decode cX5_goText 7 = .ok (.istore 4, 2) := by decide +kernel
theorem dX5_goText_9 : decode cX5_goText 9 = .ok (.iload 4, 2) := by decide +kernel
theorem dX5_goText_11 : decode cX5_goText 11 = .ok (.aload_n 0, 1) := by decide +kernel
theorem dX5_goText_12 : decode cX5_goText 12 = .ok (.invokevirtual 76, 3) := by decide +kernel
theorem dX5_goText_15 : decode cX5_goText 15 = .ok (.if_icmp .ge 14, 3) := by decide +kernel
theorem dX5_goText_18 : decode cX5_goText 18 = .ok (.iload_n 3, 1) := by decide +kernel
theorem dX5_goText_19 : decode cX5_goText 19 = .ok (.bipush 6, 2) := by decide +kernel
theorem dX5_goText_21 : decode cX5_goText 21 = .ok (.imul, 1) := by decide +kernel
theorem dX5_goText_22 : decode cX5_goText 22 = .ok (.istore_n 3, 1) := by decide +kernel
theorem dX5_goText_23 : decode cX5_goText 23 = .ok (.iinc 4 1, 3) := by decide +kernel
theorem dX5_goText_26 : decode cX5_goText 26 = .ok (.goto (-17), 3) := by decide +kernel
theorem dX5_goText_29 : decode cX5_goText 29 = .ok (.aload_n 0, 1) := by decide +kernel
theorem dX5_goText_30 : decode cX5_goText 30 = .ok (.iconst 0, 1) := by decide +kernel
theorem dX5_goText_31 : decode cX5_goText 31 = .ok (.putfield 79, 3) := by decide +kernel
theorem dX5_goText_34 : decode cX5_goText 34 = .ok (.aload_n 0, 1) := by decide +kernel
theorem dX5_goText_35 : decode cX5_goText 35 = .ok (.bipush (-6), 2) := by decide +kernel
theorem dX5_goText_37 : decode cX5_goText 37 = .ok (.putfield 82, 3) := by decide +kernel
theorem dX5_goText_40 : decode cX5_goText 40 = .ok (.iconst 0, 1) := by decide +kernel
theorem dX5_goText_41 : decode cX5_goText 41 = .ok (.istore 4, 2) := by decide +kernel
theorem dX5_goText_43 : decode cX5_goText 43 = .ok (.iconst 0, 1) := by decide +kernel
theorem dX5_goText_44 : decode cX5_goText 44 = .ok (.istore 5, 2) := by decide +kernel
theorem dX5_goText_46 : decode cX5_goText 46 = .ok (.iload 5, 2) := by decide +kernel
theorem dX5_goText_48 : decode cX5_goText 48 = .ok (.aload_n 0, 1) := by decide +kernel
theorem dX5_goText_49 : decode cX5_goText 49 = .ok (.getfield 62, 3) := by decide +kernel
theorem dX5_goText_52 : decode cX5_goText 52 = .ok (.if_icmp .ge 235, 3) := by decide +kernel
theorem dX5_goText_55 : decode cX5_goText 55 = .ok (.iconst 1, 1) := by decide +kernel
theorem dX5_goText_56 : decode cX5_goText 56 = .ok (.istore 6, 2) := by decide +kernel
theorem dX5_goText_58 : decode cX5_goText 58 = .ok (.aload_n 0, 1) := by decide +kernel
theorem dX5_goText_59 : decode cX5_goText 59 = .ok (.getfield 38, 3) := by decide +kernel
theorem dX5_goText_62 : decode cX5_goText 62 = .ok (.iload 5, 2) := by decide +kernel
theorem dX5_goText_64 : decode cX5_goText 64 = .ok (.iaload, 1) := by decide +kernel
theorem dX5_goText_65 : decode cX5_goText 65 = .ok (.bipush 46, 2) := by decide +kernel
theorem dX5_goText_67 : decode cX5_goText 67 = .ok (.if_icmp .ne 13, 3) := by decide +kernel
theorem dX5_goText_70 : decode cX5_goText 70 = .ok (.aload_n 0, 1) := by decide +kernel
theorem dX5_goText_71 : decode cX5_goText 71 = .ok (.invokevirtual 85, 3) := by decide +kernel
theorem dX5_goText_74 : decode cX5_goText 74 = .ok (.iinc 5 1, 3) := by decide +kernel
theorem dX5_goText_77 : decode cX5_goText 77 = .ok (.goto 168, 3) := by decide +kernel
theorem dX5_goText_80 : decode cX5_goText 80 = .ok (.aload_n 0, 1) := by decide +kernel
theorem dX5_goText_81 : decode cX5_goText 81 = .ok (.getfield 38, 3) := by decide +kernel
theorem dX5_goText_84 : decode cX5_goText 84 = .ok (.iload 5, 2) := by decide +kernel
theorem dX5_goText_86 : decode cX5_goText 86 = .ok (.iaload, 1) := by decide +kernel
theorem dX5_goText_87 : decode cX5_goText 87 = .ok (.bipush 63, 2) := by decide +kernel
theorem dX5_goText_89 : decode cX5_goText 89 = .ok (.if_icmp .ne 12, 3) := by decide +kernel
theorem dX5_goText_92 : decode cX5_goText 92 = .ok (.iload_n 1, 1) := by decide +kernel
theorem dX5_goText_93 : decode cX5_goText 93 = .ok (.iload_n 3, 1) := by decide +kernel
theorem dX5_goText_94 : decode cX5_goText 94 = .ok (.idiv, 1) := by decide +kernel
theorem dX5_goText_95 : decode cX5_goText 95 = .ok (.bipush 6, 2) := by decide +kernel
theorem dX5_goText_97 : decode cX5_goText 97 = .ok (.irem, 1) := by decide +kernel
theorem dX5_goText_98 : decode cX5_goText 98 = .ok (.goto 13, 3) := by decide +kernel
theorem dX5_goText_101 : decode cX5_goText 101 = .ok (.aload_n 0, 1) := by decide +kernel
theorem dX5_goText_102 : decode cX5_goText 102 = .ok (.getfield 38, 3) := by decide +kernel
theorem dX5_goText_105 : decode cX5_goText 105 = .ok (.iload 5, 2) := by decide +kernel
theorem dX5_goText_107 : decode cX5_goText 107 = .ok (.iaload, 1) := by decide +kernel
theorem dX5_goText_108 : decode cX5_goText 108 = .ok (.bipush 65, 2) := by decide +kernel
theorem dX5_goText_110 : decode cX5_goText 110 = .ok (.isub, 1) := by decide +kernel
theorem dX5_goText_111 : decode cX5_goText 111 = .ok (.istore 7, 2) := by decide +kernel
theorem dX5_goText_113 : decode cX5_goText 113 = .ok (.aload_n 0, 1) := by decide +kernel
theorem dX5_goText_114 : decode cX5_goText 114 = .ok (.getfield 38, 3) := by decide +kernel
theorem dX5_goText_117 : decode cX5_goText 117 = .ok (.iload 5, 2) := by decide +kernel
theorem dX5_goText_119 : decode cX5_goText 119 = .ok (.iaload, 1) := by decide +kernel
theorem dX5_goText_120 : decode cX5_goText 120 = .ok (.bipush 63, 2) := by decide +kernel
theorem dX5_goText_122 : decode cX5_goText 122 = .ok (.if_icmp .ne 15, 3) := by decide +kernel
theorem dX5_goText_125 : decode cX5_goText 125 = .ok (.iload_n 3, 1) := by decide +kernel
theorem dX5_goText_126 : decode cX5_goText 126 = .ok (.iconst 1, 1) := by decide +kernel
theorem dX5_goText_127 : decode cX5_goText 127 = .ok (.if_icmp .le 10, 3) := by decide +kernel
theorem dX5_goText_130 : decode cX5_goText 130 = .ok (.iload_n 3, 1) := by decide +kernel
theorem dX5_goText_131 : decode cX5_goText 131 = .ok (.bipush 6, 2) := by decide +kernel
theorem dX5_goText_133 : decode cX5_goText 133 = .ok (.idiv, 1) := by decide +kernel
theorem dX5_goText_134 : decode cX5_goText 134 = .ok (.goto 4, 3) := by decide +kernel
theorem dX5_goText_137 : decode cX5_goText 137 = .ok (.iload_n 3, 1) := by decide +kernel
theorem dX5_goText_138 : decode cX5_goText 138 = .ok (.istore_n 3, 1) := by decide +kernel
theorem dX5_goText_139 : decode cX5_goText 139 = .ok (.aload_n 0, 1) := by decide +kernel
theorem dX5_goText_140 : decode cX5_goText 140 = .ok (.getfield 38, 3) := by decide +kernel
theorem dX5_goText_143 : decode cX5_goText 143 = .ok (.iload 5, 2) := by decide +kernel
theorem dX5_goText_145 : decode cX5_goText 145 = .ok (.iconst 1, 1) := by decide +kernel
theorem dX5_goText_146 : decode cX5_goText 146 = .ok (.iadd, 1) := by decide +kernel
theorem dX5_goText_147 : decode cX5_goText 147 = .ok (.iaload, 1) := by decide +kernel
theorem dX5_goText_148 : decode cX5_goText 148 = .ok (.bipush 65, 2) := by decide +kernel
theorem dX5_goText_150 : decode cX5_goText 150 = .ok (.isub, 1) := by decide +kernel
theorem dX5_goText_151 : decode cX5_goText 151 = .ok (.istore 8, 2) := by decide +kernel
theorem dX5_goText_153 : decode cX5_goText 153 = .ok (.aload_n 0, 1) := by decide +kernel
theorem dX5_goText_154 : decode cX5_goText 154 = .ok (.getfield 38, 3) := by decide +kernel
theorem dX5_goText_157 : decode cX5_goText 157 = .ok (.iload 5, 2) := by decide +kernel
theorem dX5_goText_159 : decode cX5_goText 159 = .ok (.iconst 2, 1) := by decide +kernel
theorem dX5_goText_160 : decode cX5_goText 160 = .ok (.iadd, 1) := by decide +kernel
theorem dX5_goText_161 : decode cX5_goText 161 = .ok (.iaload, 1) := by decide +kernel
theorem dX5_goText_162 : decode cX5_goText 162 = .ok (.bipush 45, 2) := by decide +kernel
theorem dX5_goText_164 : decode cX5_goText 164 = .ok (.if_icmp .ne 7, 3) := by decide +kernel
theorem dX5_goText_167 : decode cX5_goText 167 = .ok (.iconst 1, 1) := by decide +kernel
theorem dX5_goText_168 : decode cX5_goText 168 = .ok (.goto 4, 3) := by decide +kernel
theorem dX5_goText_171 : decode cX5_goText 171 = .ok (.iconst 0, 1) := by decide +kernel
theorem dX5_goText_172 : decode cX5_goText 172 = .ok (.istore 9, 2) := by decide +kernel
theorem dX5_goText_174 : decode cX5_goText 174 = .ok (.aload_n 0, 1) := by decide +kernel
theorem dX5_goText_175 : decode cX5_goText 175 = .ok (.getfield 38, 3) := by decide +kernel
theorem dX5_goText_178 : decode cX5_goText 178 = .ok (.iload 9, 2) := by decide +kernel
theorem dX5_goText_180 : decode cX5_goText 180 = .ok (.ifCond .eq 10, 3) := by decide +kernel
theorem dX5_goText_183 : decode cX5_goText 183 = .ok (.iload 5, 2) := by decide +kernel
theorem dX5_goText_185 : decode cX5_goText 185 = .ok (.iconst 3, 1) := by decide +kernel
theorem dX5_goText_186 : decode cX5_goText 186 = .ok (.iadd, 1) := by decide +kernel
theorem dX5_goText_187 : decode cX5_goText 187 = .ok (.goto 7, 3) := by decide +kernel
theorem dX5_goText_190 : decode cX5_goText 190 = .ok (.iload 5, 2) := by decide +kernel
theorem dX5_goText_192 : decode cX5_goText 192 = .ok (.iconst 2, 1) := by decide +kernel
theorem dX5_goText_193 : decode cX5_goText 193 = .ok (.iadd, 1) := by decide +kernel
theorem dX5_goText_194 : decode cX5_goText 194 = .ok (.iaload, 1) := by decide +kernel
theorem dX5_goText_195 : decode cX5_goText 195 = .ok (.bipush 48, 2) := by decide +kernel
theorem dX5_goText_197 : decode cX5_goText 197 = .ok (.isub, 1) := by decide +kernel
theorem dX5_goText_198 : decode cX5_goText 198 = .ok (.istore 10, 2) := by decide +kernel
theorem dX5_goText_200 : decode cX5_goText 200 = .ok (.iload 9, 2) := by decide +kernel
theorem dX5_goText_202 : decode cX5_goText 202 = .ok (.ifCond .eq 16, 3) := by decide +kernel
theorem dX5_goText_205 : decode cX5_goText 205 = .ok (.aload_n 0, 1) := by decide +kernel
theorem dX5_goText_206 : decode cX5_goText 206 = .ok (.iload 7, 2) := by decide +kernel
theorem dX5_goText_208 : decode cX5_goText 208 = .ok (.iload 8, 2) := by decide +kernel
theorem dX5_goText_210 : decode cX5_goText 210 = .ok (.iload 10, 2) := by decide +kernel
theorem dX5_goText_212 : decode cX5_goText 212 = .ok (.invokevirtual 88, 3) := by decide +kernel
theorem dX5_goText_215 : decode cX5_goText 215 = .ok (.goto 13, 3) := by decide +kernel
theorem dX5_goText_218 : decode cX5_goText 218 = .ok (.aload_n 0, 1) := by decide +kernel
theorem dX5_goText_219 : decode cX5_goText 219 = .ok (.iload 7, 2) := by decide +kernel
theorem dX5_goText_221 : decode cX5_goText 221 = .ok (.iload 8, 2) := by decide +kernel
theorem dX5_goText_223 : decode cX5_goText 223 = .ok (.iload 10, 2) := by decide +kernel
theorem dX5_goText_225 : decode cX5_goText 225 = .ok (.invokevirtual 91, 3) := by decide +kernel
theorem dX5_goText_228 : decode cX5_goText 228 = .ok (.istore 6, 2) := by decide +kernel
theorem dX5_goText_230 : decode cX5_goText 230 = .ok (.iload 5, 2) := by decide +kernel
theorem dX5_goText_232 : decode cX5_goText 232 = .ok (.iload 9, 2) := by decide +kernel
theorem dX5_goText_234 : decode cX5_goText 234 = .ok (.ifCond .eq 7, 3) := by decide +kernel
theorem dX5_goText_237 : decode cX5_goText 237 = .ok (.iconst 4, 1) := by decide +kernel
theorem dX5_goText_238 : decode cX5_goText 238 = .ok (.goto 4, 3) := by decide +kernel
theorem dX5_goText_241 : decode cX5_goText 241 = .ok (.iconst 3, 1) := by decide +kernel
theorem dX5_goText_242 : decode cX5_goText 242 = .ok (.iadd, 1) := by decide +kernel
theorem dX5_goText_243 : decode cX5_goText 243 = .ok (.istore 5, 2) := by decide +kernel
theorem dX5_goText_245 : decode cX5_goText 245 = .ok (.iload 6, 2) := by decide +kernel
theorem dX5_goText_247 : decode cX5_goText 247 = .ok (.ifCond .ne 27, 3) := by decide +kernel
theorem dX5_goText_250 : decode cX5_goText 250 = .ok (.aload_n 0, 1) := by decide +kernel
theorem dX5_goText_251 : decode cX5_goText 251 = .ok (.iload 4, 2) := by decide +kernel
theorem dX5_goText_253 : decode cX5_goText 253 = .ok (.iload_n 2, 1) := by decide +kernel
theorem dX5_goText_254 : decode cX5_goText 254 = .ok (.if_icmp .ne 10, 3) := by decide +kernel
theorem dX5_goText_257 : decode cX5_goText 257 = .ok (.aload_n 0, 1) := by decide +kernel
theorem dX5_goText_258 : decode cX5_goText 258 = .ok (.getfield 79, 3) := by decide +kernel
theorem dX5_goText_261 : decode cX5_goText 261 = .ok (.goto 7, 3) := by decide +kernel
theorem dX5_goText_264 : decode cX5_goText 264 = .ok (.aload_n 0, 1) := by decide +kernel
theorem dX5_goText_265 : decode cX5_goText 265 = .ok (.getfield 82, 3) := by decide +kernel
theorem dX5_goText_268 : decode cX5_goText 268 = .ok (.putfield 82, 3) := by decide +kernel
theorem dX5_goText_271 : decode cX5_goText 271 = .ok (.iinc 4 1, 3) := by decide +kernel
theorem dX5_goText_274 : decode cX5_goText 274 = .ok (.aload_n 0, 1) := by decide +kernel
theorem dX5_goText_275 : decode cX5_goText 275 = .ok (.dup, 1) := by decide +kernel
theorem dX5_goText_276 : decode cX5_goText 276 = .ok (.getfield 79, 3) := by decide +kernel
theorem dX5_goText_279 : decode cX5_goText 279 = .ok (.iconst 1, 1) := by decide +kernel
theorem dX5_goText_280 : decode cX5_goText 280 = .ok (.iadd, 1) := by decide +kernel
theorem dX5_goText_281 : decode cX5_goText 281 = .ok (.putfield 79, 3) := by decide +kernel
theorem dX5_goText_284 : decode cX5_goText 284 = .ok (.goto (-238), 3) := by decide +kernel
theorem dX5_goText_287 : decode cX5_goText 287 = .ok (.iload 4, 2) := by decide +kernel
theorem dX5_goText_289 : decode cX5_goText 289 = .ok (.ireturn, 1) := by decide +kernel
set_option maxRecDepth 20000 in
theorem ggX5_barOfText_X5_faultOf : GoodIn wsX5_barOfText wsX5_faultOf := goodIn_r _ [5, 6, 7, 8, 9, 4, 10, 15, 16, 17, 18, 19, 20, 21, 22, 23, 24, 25, 26, 27, 28, 29, 30, 31, 32, 33, 34, 35, 36] (by decide +kernel) (by decide +kernel)
set_option maxRecDepth 20000 in
theorem gX5_barOfText_X5_faultOf : GoodIn wsX5_barOfText (wsV RX5 65 RX5 yX5_faultOf wsX5_faultOf) := goodIn_app (goodIn_of _ (by decide +kernel)) ggX5_barOfText_X5_faultOf
set_option maxRecDepth 20000 in
theorem ggX5_barOfText_X5_opens : GoodIn wsX5_barOfText wsX5_opens := goodIn_r _ [14, 6, 7, 15, 16, 17, 18, 19, 20, 21, 22, 23, 24, 25, 26, 27, 28, 29, 30, 31, 32, 33, 34, 35, 36] (by decide +kernel) (by decide +kernel)
set_option maxRecDepth 20000 in
theorem gX5_barOfText_X5_opens : GoodIn wsX5_barOfText (wsV RX5 76 RX5 yX5_opens wsX5_opens) := goodIn_app (goodIn_of _ (by decide +kernel)) ggX5_barOfText_X5_opens
theorem dX5_barOfText_0 : decode cX5_barOfText 0 = .ok (.aload_n 0, 1) := by decide +kernel
theorem dX5_barOfText_1 : decode cX5_barOfText 1 = .ok (.invokevirtual 65, 3) := by decide +kernel
theorem dX5_barOfText_4 : decode cX5_barOfText 4 = .ok (.ifCond .lt 8, 3) := by decide +kernel
theorem dX5_barOfText_7 : decode cX5_barOfText 7 = .ok (.bipush (-5), 2) := by decide +kernel
theorem dX5_barOfText_9 : decode cX5_barOfText 9 = .ok (.goto 16, 3) := by decide +kernel
theorem dX5_barOfText_12 : decode cX5_barOfText 12 = .ok (.aload_n 0, 1) := by decide +kernel
theorem dX5_barOfText_13 : decode cX5_barOfText 13 = .ok (.invokevirtual 76, 3) := by decide +kernel
theorem dX5_barOfText_16 : decode cX5_barOfText 16 = .ok (.ifCond .le 8, 3) := by decide +kernel
theorem dX5_barOfText_19 : decode cX5_barOfText 19 = .ok (.bipush (-3), 2) := by decide +kernel
theorem dX5_barOfText_21 : decode cX5_barOfText 21 = .ok (.goto 4, 3) := by decide +kernel
theorem dX5_barOfText_24 : decode cX5_barOfText 24 = .ok (.iconst 0, 1) := by decide +kernel
theorem dX5_barOfText_25 : decode cX5_barOfText 25 = .ok (.ireturn, 1) := by decide +kernel
set_option maxRecDepth 20000 in
theorem ggX5_vain_X5_barOfText : GoodIn wsX5_vain wsX5_barOfText := goodIn_r _ [6, 7, 8, 9, 5, 10, 11, 12, 13, 14, 15, 16, 17, 18, 19, 50, 51, 52, 53, 54, 55, 56, 57, 58, 59, 60, 61, 62, 63, 64, 65, 66, 67, 68, 69, 70, 71] (by decide +kernel) (by decide +kernel)
set_option maxRecDepth 20000 in
theorem gX5_vain_X5_barOfText : GoodIn wsX5_vain (wsV RX5 94 RX5 yX5_barOfText wsX5_barOfText) := goodIn_app (goodIn_of _ (by decide +kernel)) ggX5_vain_X5_barOfText
set_option maxRecDepth 20000 in
theorem ggX5_vain_X5_goText : GoodIn wsX5_vain wsX5_goText := goodIn_r _ [23, 24, 1, 11, 12, 25, 26, 27, 5, 28, 29, 30, 16, 17, 18, 19, 31, 32, 33, 34, 35, 36, 37, 38, 39, 40, 41, 42, 43, 44, 45, 46, 47, 48, 49, 50, 51, 52, 53, 54, 55, 56, 57, 58, 59, 60, 61, 62, 63, 64, 65, 66, 67, 68, 69, 70, 71] (by decide +kernel) (by decide +kernel)
set_option maxRecDepth 20000 in
theorem gX5_vain_X5_goText : GoodIn wsX5_vain (wsV RX5 97 RX5 yX5_goText wsX5_goText) := goodIn_app (goodIn_of _ (by decide +kernel)) ggX5_vain_X5_goText
theorem dX5_vain_0 : decode cX5_vain 0 = .ok (.aload_n 0, 1) := by decide +kernel
theorem dX5_vain_1 : decode cX5_vain 1 = .ok (.invokevirtual 94, 3) := by decide +kernel
theorem dX5_vain_4 : decode cX5_vain 4 = .ok (.istore_n 2, 1) := by decide +kernel
theorem dX5_vain_5 : decode cX5_vain 5 = .ok (.iload_n 2, 1) := by decide +kernel
theorem dX5_vain_6 : decode cX5_vain 6 = .ok (.ifCond .ge 5, 3) := by decide +kernel
theorem dX5_vain_9 : decode cX5_vain 9 = .ok (.iload_n 2, 1) := by decide +kernel
theorem dX5_vain_10 : decode cX5_vain 10 = .ok (.ireturn, 1) := by decide +kernel
theorem dX5_vain_11 : decode cX5_vain 11 = .ok (.aload_n 0, 1) := by decide +kernel
theorem dX5_vain_12 : decode cX5_vain 12 = .ok (.iconst 0, 1) := by decide +kernel
theorem dX5_vain_13 : decode cX5_vain 13 = .ok (.iload_n 1, 1) := by decide +kernel
theorem dX5_vain_14 : decode cX5_vain 14 = .ok (.invokevirtual 97, 3) := by decide +kernel
theorem dX5_vain_17 : decode cX5_vain 17 = .ok (.istore_n 3, 1) := by decide +kernel
theorem dX5_vain_18 : decode cX5_vain 18 = .ok (.iload_n 1, 1) := by decide +kernel
theorem dX5_vain_19 : decode cX5_vain 19 = .ok (.iconst (-1), 1) := by decide +kernel
theorem dX5_vain_20 : decode cX5_vain 20 = .ok (.if_icmp .ne 7, 3) := by decide +kernel
theorem dX5_vain_23 : decode cX5_vain 23 = .ok (.iload_n 3, 1) := by decide +kernel
theorem dX5_vain_24 : decode cX5_vain 24 = .ok (.goto 7, 3) := by decide +kernel
theorem dX5_vain_27 : decode cX5_vain 27 = .ok (.aload_n 0, 1) := by decide +kernel
end
section
theorem dX5_vain_28 : decode cX5_vain 28 = .ok (.getfield 82, 3) := by decide +kernel
theorem dX5_vain_31 : decode cX5_vain 31 = .ok (.ireturn, 1) := by decide +kernel
set_option maxRecDepth 20000 in
theorem ggX5_done_X5_barOfText : GoodIn wsX5_done wsX5_barOfText := goodIn_r _ [9, 10, 11, 12, 8, 13, 3, 14, 15, 16, 17, 18, 19, 20, 21, 50, 51, 52, 53, 54, 55, 56, 57, 58, 59, 60, 61, 62, 63, 64, 65, 66, 67, 68, 69, 70, 71] (by decide +kernel) (by decide +kernel)
set_option maxRecDepth 20000 in
theorem gX5_done_X5_barOfText : GoodIn wsX5_done (wsV RX5 94 RX5 yX5_barOfText wsX5_barOfText) := goodIn_app (goodIn_of _ (by decide +kernel)) ggX5_done_X5_barOfText
set_option maxRecDepth 20000 in
theorem ggX5_done_X5_goText : GoodIn wsX5_done wsX5_goText := goodIn_r _ [25, 4, 26, 3, 14, 27, 28, 29, 8, 30, 2, 1, 18, 19, 20, 21, 31, 32, 33, 34, 35, 36, 37, 38, 39, 40, 41, 42, 43, 44, 45, 46, 47, 48, 49, 50, 51, 52, 53, 54, 55, 56, 57, 58, 59, 60, 61, 62, 63, 64, 65, 66, 67, 68, 69, 70, 71] (by decide +kernel) (by decide +kernel)
set_option maxRecDepth 20000 in
theorem gX5_done_X5_goText : GoodIn wsX5_done (wsV RX5 97 RX5 yX5_goText wsX5_goText) := goodIn_app (goodIn_of _ (by decide +kernel)) ggX5_done_X5_goText
theorem dX5_done_0 : decode cX5_done 0 = .ok (.aload_n 0, 1) := by decide +kernel
theorem dX5_done_1 : decode cX5_done 1 = .ok (.invokevirtual 94, 3) := by decide +kernel
theorem dX5_done_4 : decode cX5_done 4 = .ok (.istore_n 1, 1) := by decide +kernel
theorem dX5_done_5 : decode cX5_done 5 = .ok (.iload_n 1, 1) := by decide +kernel
theorem dX5_done_6 : decode cX5_done 6 = .ok (.ifCond .ge 5, 3) := by decide +kernel
theorem dX5_done_9 : decode cX5_done 9 = .ok (.iload_n 1, 1) := by decide +kernel
theorem dX5_done_10 : decode cX5_done 10 = .ok (.ireturn, 1) := by decide +kernel
theorem dX5_done_11 : decode cX5_done 11 = .ok (.aload_n 0, 1) := by decide +kernel
theorem dX5_done_12 : decode cX5_done 12 = .ok (.iconst 0, 1) := by decide +kernel
theorem dX5_done_13 : decode cX5_done 13 = .ok (.bipush (-6), 2) := by decide +kernel
theorem dX5_done_15 : decode cX5_done 15 = .ok (.invokevirtual 97, 3) := by decide +kernel
theorem dX5_done_18 : decode cX5_done 18 = .ok (.ifCond .ge 6, 3) := by decide +kernel
theorem dX5_done_21 : decode cX5_done 21 = .ok (.bipush (-5), 2) := by decide +kernel
theorem dX5_done_23 : decode cX5_done 23 = .ok (.ireturn, 1) := by decide +kernel
theorem dX5_done_24 : decode cX5_done 24 = .ok (.iconst 0, 1) := by decide +kernel
theorem dX5_done_25 : decode cX5_done 25 = .ok (.istore_n 2, 1) := by decide +kernel
theorem dX5_done_26 : decode cX5_done 26 = .ok (.iload_n 2, 1) := by decide +kernel
theorem dX5_done_27 : decode cX5_done 27 = .ok (.bipush 36, 2) := by decide +kernel
theorem dX5_done_29 : decode cX5_done 29 = .ok (.if_icmp .ge 21, 3) := by decide +kernel
theorem dX5_done_32 : decode cX5_done 32 = .ok (.aload_n 0, 1) := by decide +kernel
theorem dX5_done_33 : decode cX5_done 33 = .ok (.getfield 25, 3) := by decide +kernel
theorem dX5_done_36 : decode cX5_done 36 = .ok (.iload_n 2, 1) := by decide +kernel
theorem dX5_done_37 : decode cX5_done 37 = .ok (.aload_n 0, 1) := by decide +kernel
theorem dX5_done_38 : decode cX5_done 38 = .ok (.getfield 41, 3) := by decide +kernel
theorem dX5_done_41 : decode cX5_done 41 = .ok (.iload_n 2, 1) := by decide +kernel
theorem dX5_done_42 : decode cX5_done 42 = .ok (.iaload, 1) := by decide +kernel
theorem dX5_done_43 : decode cX5_done 43 = .ok (.iastore, 1) := by decide +kernel
theorem dX5_done_44 : decode cX5_done 44 = .ok (.iinc 2 1, 3) := by decide +kernel
theorem dX5_done_47 : decode cX5_done 47 = .ok (.goto (-21), 3) := by decide +kernel
theorem dX5_done_50 : decode cX5_done 50 = .ok (.aload_n 0, 1) := by decide +kernel
theorem dX5_done_51 : decode cX5_done 51 = .ok (.iconst 0, 1) := by decide +kernel
theorem dX5_done_52 : decode cX5_done 52 = .ok (.putfield 62, 3) := by decide +kernel
theorem dX5_done_55 : decode cX5_done 55 = .ok (.aload_n 0, 1) := by decide +kernel
theorem dX5_done_56 : decode cX5_done 56 = .ok (.getfield 79, 3) := by decide +kernel
theorem dX5_done_59 : decode cX5_done 59 = .ok (.ireturn, 1) := by decide +kernel
set_option maxRecDepth 20000 in
theorem ggX5_beliefOf_X5_bornBy : GoodIn wsX5_beliefOf wsX5_bornBy := goodIn_r _ [6, 1, 7, 8, 9, 10, 11, 12, 13, 14, 15, 16, 17, 18, 19, 20, 21, 22, 23, 24, 25, 26, 27, 28] (by decide +kernel) (by decide +kernel)
set_option maxRecDepth 20000 in
theorem gX5_beliefOf_X5_bornBy : GoodIn wsX5_beliefOf (wsV RX5 101 RX5 yX5_bornBy wsX5_bornBy) := goodIn_app (goodIn_of _ (by decide +kernel)) ggX5_beliefOf_X5_bornBy
theorem dX5_beliefOf_0 : decode cX5_beliefOf 0 = .ok (.iload_n 2, 1) := by decide +kernel
theorem dX5_beliefOf_1 : decode cX5_beliefOf 1 = .ok (.iload_n 3, 1) := by decide +kernel
theorem dX5_beliefOf_2 : decode cX5_beliefOf 2 = .ok (.if_icmp .ne 11, 3) := by decide +kernel
theorem dX5_beliefOf_5 : decode cX5_beliefOf 5 = .ok (.aload_n 0, 1) := by decide +kernel
theorem dX5_beliefOf_6 : decode cX5_beliefOf 6 = .ok (.iload_n 1, 1) := by decide +kernel
theorem dX5_beliefOf_7 : decode cX5_beliefOf 7 = .ok (.invokevirtual 101, 3) := by decide +kernel
theorem dX5_beliefOf_10 : decode cX5_beliefOf 10 = .ok (.goto 14, 3) := by decide +kernel
theorem dX5_beliefOf_13 : decode cX5_beliefOf 13 = .ok (.aload_n 0, 1) := by decide +kernel
theorem dX5_beliefOf_14 : decode cX5_beliefOf 14 = .ok (.getfield 41, 3) := by decide +kernel
theorem dX5_beliefOf_17 : decode cX5_beliefOf 17 = .ok (.bipush 6, 2) := by decide +kernel
theorem dX5_beliefOf_19 : decode cX5_beliefOf 19 = .ok (.iload_n 2, 1) := by decide +kernel
theorem dX5_beliefOf_20 : decode cX5_beliefOf 20 = .ok (.imul, 1) := by decide +kernel
theorem dX5_beliefOf_21 : decode cX5_beliefOf 21 = .ok (.iload_n 1, 1) := by decide +kernel
theorem dX5_beliefOf_22 : decode cX5_beliefOf 22 = .ok (.iadd, 1) := by decide +kernel
theorem dX5_beliefOf_23 : decode cX5_beliefOf 23 = .ok (.iaload, 1) := by decide +kernel
theorem dX5_beliefOf_24 : decode cX5_beliefOf 24 = .ok (.ireturn, 1) := by decide +kernel
set_option maxRecDepth 20000 in
theorem ggX5_bears_X5_is6 : GoodIn wsX5_bears wsX5_is6 := goodIn_r _ [4, 5, 6, 3, 7] (by decide +kernel) (by decide +kernel)
set_option maxRecDepth 20000 in
theorem gX5_bears_X5_is6 : GoodIn wsX5_bears (va_wsS RX5 58 yX5_is6 wsX5_is6) := goodIn_app (goodIn_of _ (by decide +kernel)) ggX5_bears_X5_is6
set_option maxRecDepth 20000 in
theorem ggX5_bears_X5_in : GoodIn wsX5_bears wsX5_in := goodIn_r _ [7] (by decide +kernel) (by decide +kernel)
set_option maxRecDepth 20000 in
theorem gX5_bears_X5_in : GoodIn wsX5_bears (va_wsS RX5 54 yX5_in wsX5_in) := goodIn_app (goodIn_of _ (by decide +kernel)) ggX5_bears_X5_in
set_option maxRecDepth 20000 in
theorem ggX5_bears_X5_asNow : GoodIn wsX5_bears wsX5_asNow := goodIn_r _ [11, 12, 13, 22, 23, 24, 25, 26, 27, 28, 29, 30, 31, 32, 33, 34, 35, 36, 37, 38, 39, 40, 41, 42, 43] (by decide +kernel) (by decide +kernel)
set_option maxRecDepth 20000 in
theorem gX5_bears_X5_asNow : GoodIn wsX5_bears (wsV RX5 73 RX5 yX5_asNow wsX5_asNow) := goodIn_app (goodIn_of _ (by decide +kernel)) ggX5_bears_X5_asNow
set_option maxRecDepth 20000 in
theorem ggX5_bears_X5_beliefOf : GoodIn wsX5_bears wsX5_beliefOf := goodIn_r _ [17, 12, 18, 19, 20, 3, 21, 22, 23, 24, 25, 26, 27, 28, 29, 30, 31, 32, 33, 34, 35, 36, 37, 38, 39, 40, 41, 42, 43] (by decide +kernel) (by decide +kernel)
set_option maxRecDepth 20000 in
theorem gX5_bears_X5_beliefOf : GoodIn wsX5_bears (wsV RX5 105 RX5 yX5_beliefOf wsX5_beliefOf) := goodIn_app (goodIn_of _ (by decide +kernel)) ggX5_bears_X5_beliefOf
theorem dX5_bears_0 : decode cX5_bears 0 = .ok (.iload_n 1, 1) := by decide +kernel
theorem dX5_bears_1 : decode cX5_bears 1 = .ok (.invokestatic 58, 3) := by decide +kernel
theorem dX5_bears_4 : decode cX5_bears 4 = .ok (.ifCond .eq 12, 3) := by decide +kernel
theorem dX5_bears_7 : decode cX5_bears 7 = .ok (.iload_n 2, 1) := by decide +kernel
theorem dX5_bears_8 : decode cX5_bears 8 = .ok (.iconst (-1), 1) := by decide +kernel
theorem dX5_bears_9 : decode cX5_bears 9 = .ok (.iconst 5, 1) := by decide +kernel
theorem dX5_bears_10 : decode cX5_bears 10 = .ok (.invokestatic 54, 3) := by decide +kernel
theorem dX5_bears_13 : decode cX5_bears 13 = .ok (.ifCond .ne 5, 3) := by decide +kernel
theorem dX5_bears_16 : decode cX5_bears 16 = .ok (.iconst (-1), 1) := by decide +kernel
theorem dX5_bears_17 : decode cX5_bears 17 = .ok (.ireturn, 1) := by decide +kernel
theorem dX5_bears_18 : decode cX5_bears 18 = .ok (.aload_n 0, 1) := by decide +kernel
theorem dX5_bears_19 : decode cX5_bears 19 = .ok (.invokevirtual 73, 3) := by decide +kernel
theorem dX5_bears_22 : decode cX5_bears 22 = .ok (.aload_n 0, 1) := by decide +kernel
theorem dX5_bears_23 : decode cX5_bears 23 = .ok (.iload_n 1, 1) := by decide +kernel
theorem dX5_bears_24 : decode cX5_bears 24 = .ok (.iload_n 2, 1) := by decide +kernel
theorem dX5_bears_25 : decode cX5_bears 25 = .ok (.iconst (-1), 1) := by decide +kernel
theorem dX5_bears_26 : decode cX5_bears 26 = .ok (.invokevirtual 105, 3) := by decide +kernel
theorem dX5_bears_29 : decode cX5_bears 29 = .ok (.ireturn, 1) := by decide +kernel
set_option maxRecDepth 20000 in
theorem ggX5_behind_X5_is6 : GoodIn wsX5_behind wsX5_is6 := goodIn_r _ [4, 5, 6, 3, 7] (by decide +kernel) (by decide +kernel)
set_option maxRecDepth 20000 in
theorem gX5_behind_X5_is6 : GoodIn wsX5_behind (va_wsS RX5 58 yX5_is6 wsX5_is6) := goodIn_app (goodIn_of _ (by decide +kernel)) ggX5_behind_X5_is6
set_option maxRecDepth 20000 in
theorem ggX5_behind_X5_in : GoodIn wsX5_behind wsX5_in := goodIn_r _ [7] (by decide +kernel) (by decide +kernel)
set_option maxRecDepth 20000 in
theorem gX5_behind_X5_in : GoodIn wsX5_behind (va_wsS RX5 54 yX5_in wsX5_in) := goodIn_app (goodIn_of _ (by decide +kernel)) ggX5_behind_X5_in
set_option maxRecDepth 20000 in
theorem ggX5_behind_X5_barOfText : GoodIn wsX5_behind wsX5_barOfText := goodIn_r _ [11, 12, 13, 14, 3, 15, 16, 17, 5, 6, 7, 18, 19, 20, 21, 61, 62, 63, 64, 65, 66, 67, 68, 69, 70, 71, 72, 73, 74, 75, 76, 77, 78, 79, 80, 81, 82] (by decide +kernel) (by decide +kernel)
set_option maxRecDepth 20000 in
theorem gX5_behind_X5_barOfText : GoodIn wsX5_behind (wsV RX5 94 RX5 yX5_barOfText wsX5_barOfText) := goodIn_app (goodIn_of _ (by decide +kernel)) ggX5_behind_X5_barOfText
set_option maxRecDepth 20000 in
theorem ggX5_behind_X5_goText : GoodIn wsX5_behind wsX5_goText := goodIn_r _ [25, 26, 27, 16, 17, 28, 29, 30, 3, 31, 32, 33, 18, 19, 20, 21, 34, 35, 36, 37, 38, 39, 40, 41, 42, 43, 44, 45, 46, 47, 48, 49, 50, 51, 52, 61, 62, 63, 64, 65, 66, 67, 68, 69, 70, 71, 72, 73, 74, 75, 76, 77, 78, 79, 80, 81, 82] (by decide +kernel) (by decide +kernel)
set_option maxRecDepth 20000 in
theorem gX5_behind_X5_goText : GoodIn wsX5_behind (wsV RX5 97 RX5 yX5_goText wsX5_goText) := goodIn_app (goodIn_of _ (by decide +kernel)) ggX5_behind_X5_goText
set_option maxRecDepth 20000 in
theorem ggX5_behind_X5_beliefOf : GoodIn wsX5_behind wsX5_beliefOf := goodIn_r _ [56, 32, 57, 58, 59, 3, 60, 61, 62, 63, 64, 65, 66, 67, 68, 69, 70, 71, 72, 73, 74, 75, 76, 77, 78, 79, 80, 81, 82] (by decide +kernel) (by decide +kernel)
set_option maxRecDepth 20000 in
theorem gX5_behind_X5_beliefOf : GoodIn wsX5_behind (wsV RX5 105 RX5 yX5_beliefOf wsX5_beliefOf) := goodIn_app (goodIn_of _ (by decide +kernel)) ggX5_behind_X5_beliefOf
theorem dX5_behind_0 : decode cX5_behind 0 = .ok (.iload_n 1, 1) := by decide +kernel
theorem dX5_behind_1 : decode cX5_behind 1 = .ok (.invokestatic 58, 3) := by decide +kernel
theorem dX5_behind_4 : decode cX5_behind 4 = .ok (.ifCond .eq 12, 3) := by decide +kernel
theorem dX5_behind_7 : decode cX5_behind 7 = .ok (.iload_n 2, 1) := by decide +kernel
theorem dX5_behind_8 : decode cX5_behind 8 = .ok (.iconst (-1), 1) := by decide +kernel
theorem dX5_behind_9 : decode cX5_behind 9 = .ok (.iconst 5, 1) := by decide +kernel
theorem dX5_behind_10 : decode cX5_behind 10 = .ok (.invokestatic 54, 3) := by decide +kernel
theorem dX5_behind_13 : decode cX5_behind 13 = .ok (.ifCond .ne 5, 3) := by decide +kernel
theorem dX5_behind_16 : decode cX5_behind 16 = .ok (.iconst (-1), 1) := by decide +kernel
theorem dX5_behind_17 : decode cX5_behind 17 = .ok (.ireturn, 1) := by decide +kernel
theorem dX5_behind_18 : decode cX5_behind 18 = .ok (.aload_n 0, 1) := by decide +kernel
theorem dX5_behind_19 : decode cX5_behind 19 = .ok (.invokevirtual 94, 3) := by decide +kernel
theorem dX5_behind_22 : decode cX5_behind 22 = .ok (.istore_n 3, 1) := by decide +kernel
theorem dX5_behind_23 : decode cX5_behind 23 = .ok (.iload_n 3, 1) := by decide +kernel
theorem dX5_behind_24 : decode cX5_behind 24 = .ok (.ifCond .ge 5, 3) := by decide +kernel
theorem dX5_behind_27 : decode cX5_behind 27 = .ok (.iload_n 3, 1) := by decide +kernel
theorem dX5_behind_28 : decode cX5_behind 28 = .ok (.ireturn, 1) := by decide +kernel
theorem dX5_behind_29 : decode cX5_behind 29 = .ok (.aload_n 0, 1) := by decide +kernel
theorem dX5_behind_30 : decode cX5_behind 30 = .ok (.iconst 0, 1) := by decide +kernel
theorem dX5_behind_31 : decode cX5_behind 31 = .ok (.bipush (-6), 2) := by decide +kernel
theorem dX5_behind_33 : decode cX5_behind 33 = .ok (.invokevirtual 97, 3) := by decide +kernel
theorem dX5_behind_36 : decode cX5_behind 36 = .ok (.ifCond .ge 8, 3) := by decide +kernel
theorem dX5_behind_39 : decode cX5_behind 39 = .ok (.bipush (-5), 2) := by decide +kernel
theorem dX5_behind_41 : decode cX5_behind 41 = .ok (.goto 10, 3) := by decide +kernel
theorem dX5_behind_44 : decode cX5_behind 44 = .ok (.aload_n 0, 1) := by decide +kernel
theorem dX5_behind_45 : decode cX5_behind 45 = .ok (.iload_n 1, 1) := by decide +kernel
theorem dX5_behind_46 : decode cX5_behind 46 = .ok (.iload_n 2, 1) := by decide +kernel
theorem dX5_behind_47 : decode cX5_behind 47 = .ok (.iconst (-1), 1) := by decide +kernel
theorem dX5_behind_48 : decode cX5_behind 48 = .ok (.invokevirtual 105, 3) := by decide +kernel
theorem dX5_behind_51 : decode cX5_behind 51 = .ok (.ireturn, 1) := by decide +kernel
theorem dX5_powerOf_0 : decode cX5_powerOf 0 = .ok (.iconst 1, 1) := by decide +kernel
theorem dX5_powerOf_1 : decode cX5_powerOf 1 = .ok (.istore_n 2, 1) := by decide +kernel
theorem dX5_powerOf_2 : decode cX5_powerOf 2 = .ok (.iconst 0, 1) := by decide +kernel
theorem dX5_powerOf_3 : decode cX5_powerOf 3 = .ok (.istore_n 3, 1) := by decide +kernel
theorem dX5_powerOf_4 : decode cX5_powerOf 4 = .ok (.iload_n 3, 1) := by decide +kernel
theorem dX5_powerOf_5 : decode cX5_powerOf 5 = .ok (.iload_n 1, 1) := by decide +kernel
theorem dX5_powerOf_6 : decode cX5_powerOf 6 = .ok (.if_icmp .ge 13, 3) := by decide +kernel
theorem dX5_powerOf_9 : decode cX5_powerOf 9 = .ok (.iload_n 2, 1) := by decide +kernel
theorem dX5_powerOf_10 : decode cX5_powerOf 10 = .ok (.iload_n 0, 1) := by decide +kernel
theorem dX5_powerOf_11 : decode cX5_powerOf 11 = .ok (.imul, 1) := by decide +kernel
theorem dX5_powerOf_12 : decode cX5_powerOf 12 = .ok (.istore_n 2, 1) := by decide +kernel
theorem dX5_powerOf_13 : decode cX5_powerOf 13 = .ok (.iinc 3 1, 3) := by decide +kernel
theorem dX5_powerOf_16 : decode cX5_powerOf 16 = .ok (.goto (-12), 3) := by decide +kernel
theorem dX5_powerOf_19 : decode cX5_powerOf 19 = .ok (.iload_n 2, 1) := by decide +kernel
theorem dX5_powerOf_20 : decode cX5_powerOf 20 = .ok (.ireturn, 1) := by decide +kernel
theorem dX5_over_0 : decode cX5_over 0 = .ok (.aload_n 0, 1) := by decide +kernel
theorem dX5_over_1 : decode cX5_over 1 = .ok (.getfield 7, 3) := by decide +kernel
theorem dX5_over_4 : decode cX5_over 4 = .ok (.iload_n 1, 1) := by decide +kernel
theorem dX5_over_5 : decode cX5_over 5 = .ok (.iaload, 1) := by decide +kernel
theorem dX5_over_6 : decode cX5_over 6 = .ok (.iload_n 2, 1) := by decide +kernel
theorem dX5_over_7 : decode cX5_over 7 = .ok (.if_icmp .ne 12, 3) := by decide +kernel
theorem dX5_over_10 : decode cX5_over 10 = .ok (.aload_n 0, 1) := by decide +kernel
theorem dX5_over_11 : decode cX5_over 11 = .ok (.getfield 13, 3) := by decide +kernel
theorem dX5_over_14 : decode cX5_over 14 = .ok (.iload_n 1, 1) := by decide +kernel
theorem dX5_over_15 : decode cX5_over 15 = .ok (.iaload, 1) := by decide +kernel
theorem dX5_over_16 : decode cX5_over 16 = .ok (.goto 24, 3) := by decide +kernel
theorem dX5_over_19 : decode cX5_over 19 = .ok (.aload_n 0, 1) := by decide +kernel
theorem dX5_over_20 : decode cX5_over 20 = .ok (.getfield 13, 3) := by decide +kernel
theorem dX5_over_23 : decode cX5_over 23 = .ok (.iload_n 1, 1) := by decide +kernel
theorem dX5_over_24 : decode cX5_over 24 = .ok (.iaload, 1) := by decide +kernel
theorem dX5_over_25 : decode cX5_over 25 = .ok (.iload_n 2, 1) := by decide +kernel
theorem dX5_over_26 : decode cX5_over 26 = .ok (.if_icmp .ne 12, 3) := by decide +kernel
theorem dX5_over_29 : decode cX5_over 29 = .ok (.aload_n 0, 1) := by decide +kernel
theorem dX5_over_30 : decode cX5_over 30 = .ok (.getfield 7, 3) := by decide +kernel
theorem dX5_over_33 : decode cX5_over 33 = .ok (.iload_n 1, 1) := by decide +kernel
theorem dX5_over_34 : decode cX5_over 34 = .ok (.iaload, 1) := by decide +kernel
theorem dX5_over_35 : decode cX5_over 35 = .ok (.goto 5, 3) := by decide +kernel
theorem dX5_over_38 : decode cX5_over 38 = .ok (.bipush (-6), 2) := by decide +kernel
theorem dX5_over_40 : decode cX5_over 40 = .ok (.ireturn, 1) := by decide +kernel
set_option maxRecDepth 20000 in
theorem ggX5_falls_X5_is6 : GoodIn wsX5_falls wsX5_is6 := goodIn_r _ [4, 5, 6, 3, 7] (by decide +kernel) (by decide +kernel)
set_option maxRecDepth 20000 in
theorem gX5_falls_X5_is6 : GoodIn wsX5_falls (va_wsS RX5 58 yX5_is6 wsX5_is6) := goodIn_app (goodIn_of _ (by decide +kernel)) ggX5_falls_X5_is6
set_option maxRecDepth 20000 in
theorem ggX5_falls_X5_in : GoodIn wsX5_falls wsX5_in := goodIn_r _ [7] (by decide +kernel) (by decide +kernel)
set_option maxRecDepth 20000 in
theorem gX5_falls_X5_in : GoodIn wsX5_falls (va_wsS RX5 54 yX5_in wsX5_in) := goodIn_app (goodIn_of _ (by decide +kernel)) ggX5_falls_X5_in
set_option maxRecDepth 20000 in
theorem ggX5_falls_X5_powerOf : GoodIn wsX5_falls wsX5_powerOf := goodIn_r _ [10] (by decide +kernel) (by decide +kernel)
set_option maxRecDepth 20000 in
theorem gX5_falls_X5_powerOf : GoodIn wsX5_falls (va_wsS RX5 109 yX5_powerOf wsX5_powerOf) := goodIn_app (goodIn_of _ (by decide +kernel)) ggX5_falls_X5_powerOf
set_option maxRecDepth 20000 in
theorem ggX5_falls_X5_asNow : GoodIn wsX5_falls wsX5_asNow := goodIn_r _ [14, 15, 16, 27, 28, 29, 30, 31, 32, 33, 34, 35, 36, 37, 38, 39, 40, 41, 42, 43, 44, 45, 46, 47, 48] (by decide +kernel) (by decide +kernel)
set_option maxRecDepth 20000 in
theorem gX5_falls_X5_asNow : GoodIn wsX5_falls (wsV RX5 73 RX5 yX5_asNow wsX5_asNow) := goodIn_app (goodIn_of _ (by decide +kernel)) ggX5_falls_X5_asNow
set_option maxRecDepth 20000 in
theorem ggX5_falls_X5_over : GoodIn wsX5_falls wsX5_over := goodIn_r _ [20, 21, 22, 27, 28, 29, 30, 31, 32, 33, 34, 35, 36, 37, 38, 39, 40, 41, 42, 43, 44, 45, 46, 47, 48] (by decide +kernel) (by decide +kernel)
set_option maxRecDepth 20000 in
theorem gX5_falls_X5_over : GoodIn wsX5_falls (wsV RX5 112 RX5 yX5_over wsX5_over) := goodIn_app (goodIn_of _ (by decide +kernel)) ggX5_falls_X5_over
set_option maxRecDepth 20000 in
theorem ggX5_falls_X5_bornBy : GoodIn wsX5_falls wsX5_bornBy := goodIn_r _ [26, 15, 27, 28, 29, 30, 31, 32, 33, 34, 35, 36, 37, 38, 39, 40, 41, 42, 43, 44, 45, 46, 47, 48] (by decide +kernel) (by decide +kernel)
set_option maxRecDepth 20000 in
theorem gX5_falls_X5_bornBy : GoodIn wsX5_falls (wsV RX5 101 RX5 yX5_bornBy wsX5_bornBy) := goodIn_app (goodIn_of _ (by decide +kernel)) ggX5_falls_X5_bornBy
theorem dX5_falls_0 : decode cX5_falls 0 = .ok (.iload_n 1, 1) := by decide +kernel
theorem dX5_falls_1 : decode cX5_falls 1 = .ok (.invokestatic 58, 3) := by decide +kernel
theorem dX5_falls_4 : decode cX5_falls 4 = .ok (.ifCond .ne 5, 3) := by decide +kernel
theorem dX5_falls_7 : decode cX5_falls 7 = .ok (.iconst (-1), 1) := by decide +kernel
theorem dX5_falls_8 : decode cX5_falls 8 = .ok (.ireturn, 1) := by decide +kernel
theorem dX5_falls_9 : decode cX5_falls 9 = .ok (.iload_n 3, 1) := by decide +kernel
theorem dX5_falls_10 : decode cX5_falls 10 = .ok (.iconst 0, 1) := by decide +kernel
theorem dX5_falls_11 : decode cX5_falls 11 = .ok (.bipush 6, 2) := by decide +kernel
theorem dX5_falls_13 : decode cX5_falls 13 = .ok (.invokestatic 54, 3) := by decide +kernel
theorem dX5_falls_16 : decode cX5_falls 16 = .ok (.ifCond .eq 54, 3) := by decide +kernel
theorem dX5_falls_19 : decode cX5_falls 19 = .ok (.iload_n 2, 1) := by decide +kernel
theorem dX5_falls_20 : decode cX5_falls 20 = .ok (.iconst 0, 1) := by decide +kernel
theorem dX5_falls_21 : decode cX5_falls 21 = .ok (.bipush 10, 2) := by decide +kernel
theorem dX5_falls_23 : decode cX5_falls 23 = .ok (.iload_n 3, 1) := by decide +kernel
theorem dX5_falls_24 : decode cX5_falls 24 = .ok (.iconst 0, 1) := by decide +kernel
theorem dX5_falls_25 : decode cX5_falls 25 = .ok (.bipush 6, 2) := by decide +kernel
theorem dX5_falls_27 : decode cX5_falls 27 = .ok (.invokestatic 54, 3) := by decide +kernel
theorem dX5_falls_30 : decode cX5_falls 30 = .ok (.ifCond .eq 7, 3) := by decide +kernel
theorem dX5_falls_33 : decode cX5_falls 33 = .ok (.iload_n 3, 1) := by decide +kernel
theorem dX5_falls_34 : decode cX5_falls 34 = .ok (.goto 4, 3) := by decide +kernel
theorem dX5_falls_37 : decode cX5_falls 37 = .ok (.iconst 0, 1) := by decide +kernel
theorem dX5_falls_38 : decode cX5_falls 38 = .ok (.invokestatic 109, 3) := by decide +kernel
theorem dX5_falls_41 : decode cX5_falls 41 = .ok (.iconst 1, 1) := by decide +kernel
theorem dX5_falls_42 : decode cX5_falls 42 = .ok (.isub, 1) := by decide +kernel
theorem dX5_falls_43 : decode cX5_falls 43 = .ok (.invokestatic 54, 3) := by decide +kernel
theorem dX5_falls_46 : decode cX5_falls 46 = .ok (.ifCond .eq 24, 3) := by decide +kernel
theorem dX5_falls_49 : decode cX5_falls 49 = .ok (.iload 4, 2) := by decide +kernel
theorem dX5_falls_51 : decode cX5_falls 51 = .ok (.iconst 1, 1) := by decide +kernel
theorem dX5_falls_52 : decode cX5_falls 52 = .ok (.bipush 6, 2) := by decide +kernel
theorem dX5_falls_54 : decode cX5_falls 54 = .ok (.invokestatic 54, 3) := by decide +kernel
theorem dX5_falls_57 : decode cX5_falls 57 = .ok (.ifCond .eq 13, 3) := by decide +kernel
theorem dX5_falls_60 : decode cX5_falls 60 = .ok (.iload 5, 2) := by decide +kernel
theorem dX5_falls_62 : decode cX5_falls 62 = .ok (.iconst 0, 1) := by decide +kernel
theorem dX5_falls_63 : decode cX5_falls 63 = .ok (.iconst 1, 1) := by decide +kernel
theorem dX5_falls_64 : decode cX5_falls 64 = .ok (.invokestatic 54, 3) := by decide +kernel
theorem dX5_falls_67 : decode cX5_falls 67 = .ok (.ifCond .ne 6, 3) := by decide +kernel
theorem dX5_falls_70 : decode cX5_falls 70 = .ok (.bipush (-2), 2) := by decide +kernel
theorem dX5_falls_72 : decode cX5_falls 72 = .ok (.ireturn, 1) := by decide +kernel
theorem dX5_falls_73 : decode cX5_falls 73 = .ok (.aload_n 0, 1) := by decide +kernel
theorem dX5_falls_74 : decode cX5_falls 74 = .ok (.invokevirtual 73, 3) := by decide +kernel
theorem dX5_falls_77 : decode cX5_falls 77 = .ok (.iload_n 1, 1) := by decide +kernel
theorem dX5_falls_78 : decode cX5_falls 78 = .ok (.istore 6, 2) := by decide +kernel
theorem dX5_falls_80 : decode cX5_falls 80 = .ok (.bipush (-6), 2) := by decide +kernel
theorem dX5_falls_82 : decode cX5_falls 82 = .ok (.istore 7, 2) := by decide +kernel
theorem dX5_falls_84 : decode cX5_falls 84 = .ok (.iload_n 1, 1) := by decide +kernel
theorem dX5_falls_85 : decode cX5_falls 85 = .ok (.istore 8, 2) := by decide +kernel
theorem dX5_falls_87 : decode cX5_falls 87 = .ok (.iconst 0, 1) := by decide +kernel
theorem dX5_falls_88 : decode cX5_falls 88 = .ok (.istore 9, 2) := by decide +kernel
theorem dX5_falls_90 : decode cX5_falls 90 = .ok (.iload 9, 2) := by decide +kernel
theorem dX5_falls_92 : decode cX5_falls 92 = .ok (.iload_n 3, 1) := by decide +kernel
theorem dX5_falls_93 : decode cX5_falls 93 = .ok (.if_icmp .ge 95, 3) := by decide +kernel
theorem dX5_falls_96 : decode cX5_falls 96 = .ok (.iload_n 2, 1) := by decide +kernel
theorem dX5_falls_97 : decode cX5_falls 97 = .ok (.bipush 10, 2) := by decide +kernel
theorem dX5_falls_99 : decode cX5_falls 99 = .ok (.iload_n 3, 1) := by decide +kernel
theorem dX5_falls_100 : decode cX5_falls 100 = .ok (.iconst 1, 1) := by decide +kernel
theorem dX5_falls_101 : decode cX5_falls 101 = .ok (.isub, 1) := by decide +kernel
theorem dX5_falls_102 : decode cX5_falls 102 = .ok (.iload 9, 2) := by decide +kernel
theorem dX5_falls_104 : decode cX5_falls 104 = .ok (.isub, 1) := by decide +kernel
theorem dX5_falls_105 : decode cX5_falls 105 = .ok (.invokestatic 109, 3) := by decide +kernel
theorem dX5_falls_108 : decode cX5_falls 108 = .ok (.idiv, 1) := by decide +kernel
theorem dX5_falls_109 : decode cX5_falls 109 = .ok (.bipush 10, 2) := by decide +kernel
theorem dX5_falls_111 : decode cX5_falls 111 = .ok (.irem, 1) := by decide +kernel
theorem dX5_falls_112 : decode cX5_falls 112 = .ok (.istore 10, 2) := by decide +kernel
theorem dX5_falls_114 : decode cX5_falls 114 = .ok (.iload 10, 2) := by decide +kernel
theorem dX5_falls_116 : decode cX5_falls 116 = .ok (.iconst 5, 1) := by decide +kernel
theorem dX5_falls_117 : decode cX5_falls 117 = .ok (.if_icmp .le 8, 3) := by decide +kernel
theorem dX5_falls_120 : decode cX5_falls 120 = .ok (.bipush (-6), 2) := by decide +kernel
theorem dX5_falls_122 : decode cX5_falls 122 = .ok (.goto 11, 3) := by decide +kernel
theorem dX5_falls_125 : decode cX5_falls 125 = .ok (.aload_n 0, 1) := by decide +kernel
theorem dX5_falls_126 : decode cX5_falls 126 = .ok (.iload 10, 2) := by decide +kernel
theorem dX5_falls_128 : decode cX5_falls 128 = .ok (.iload 6, 2) := by decide +kernel
theorem dX5_falls_130 : decode cX5_falls 130 = .ok (.invokevirtual 112, 3) := by decide +kernel
theorem dX5_falls_133 : decode cX5_falls 133 = .ok (.istore 6, 2) := by decide +kernel
theorem dX5_falls_135 : decode cX5_falls 135 = .ok (.iload 6, 2) := by decide +kernel
theorem dX5_falls_137 : decode cX5_falls 137 = .ok (.ifCond .ge 6, 3) := by decide +kernel
theorem dX5_falls_140 : decode cX5_falls 140 = .ok (.bipush (-5), 2) := by decide +kernel
theorem dX5_falls_142 : decode cX5_falls 142 = .ok (.ireturn, 1) := by decide +kernel
theorem dX5_falls_143 : decode cX5_falls 143 = .ok (.iload 7, 2) := by decide +kernel
theorem dX5_falls_145 : decode cX5_falls 145 = .ok (.ifCond .ge 19, 3) := by decide +kernel
theorem dX5_falls_148 : decode cX5_falls 148 = .ok (.aload_n 0, 1) := by decide +kernel
theorem dX5_falls_149 : decode cX5_falls 149 = .ok (.iload 10, 2) := by decide +kernel
theorem dX5_falls_151 : decode cX5_falls 151 = .ok (.invokevirtual 101, 3) := by decide +kernel
theorem dX5_falls_154 : decode cX5_falls 154 = .ok (.iload 4, 2) := by decide +kernel
theorem dX5_falls_156 : decode cX5_falls 156 = .ok (.if_icmp .ge 8, 3) := by decide +kernel
theorem dX5_falls_159 : decode cX5_falls 159 = .ok (.iload 9, 2) := by decide +kernel
theorem dX5_falls_161 : decode cX5_falls 161 = .ok (.goto 5, 3) := by decide +kernel
theorem dX5_falls_164 : decode cX5_falls 164 = .ok (.iload 7, 2) := by decide +kernel
theorem dX5_falls_166 : decode cX5_falls 166 = .ok (.istore 7, 2) := by decide +kernel
theorem dX5_falls_168 : decode cX5_falls 168 = .ok (.iload 7, 2) := by decide +kernel
theorem dX5_falls_170 : decode cX5_falls 170 = .ok (.ifCond .ge 8, 3) := by decide +kernel
theorem dX5_falls_173 : decode cX5_falls 173 = .ok (.iload 6, 2) := by decide +kernel
theorem dX5_falls_175 : decode cX5_falls 175 = .ok (.goto 5, 3) := by decide +kernel
theorem dX5_falls_178 : decode cX5_falls 178 = .ok (.iload 8, 2) := by decide +kernel
theorem dX5_falls_180 : decode cX5_falls 180 = .ok (.istore 8, 2) := by decide +kernel
theorem dX5_falls_182 : decode cX5_falls 182 = .ok (.iinc 9 1, 3) := by decide +kernel
theorem dX5_falls_185 : decode cX5_falls 185 = .ok (.goto (-95), 3) := by decide +kernel
theorem dX5_falls_188 : decode cX5_falls 188 = .ok (.iload 5, 2) := by decide +kernel
theorem dX5_falls_190 : decode cX5_falls 190 = .ok (.ifCond .ne 8, 3) := by decide +kernel
theorem dX5_falls_193 : decode cX5_falls 193 = .ok (.iload 7, 2) := by decide +kernel
theorem dX5_falls_195 : decode cX5_falls 195 = .ok (.goto 5, 3) := by decide +kernel
theorem dX5_falls_198 : decode cX5_falls 198 = .ok (.iload 8, 2) := by decide +kernel
theorem dX5_falls_200 : decode cX5_falls 200 = .ok (.ireturn, 1) := by decide +kernel
set_option maxRecDepth 20000 in
theorem ggX5_plankOf_X5_powerOf : GoodIn wsX5_plankOf wsX5_powerOf := goodIn_r _ [4] (by decide +kernel) (by decide +kernel)
set_option maxRecDepth 20000 in
theorem gX5_plankOf_X5_powerOf : GoodIn wsX5_plankOf (va_wsS RX5 109 yX5_powerOf wsX5_powerOf) := goodIn_app (goodIn_of _ (by decide +kernel)) ggX5_plankOf_X5_powerOf
theorem dX5_plankOf_0 : decode cX5_plankOf 0 = .ok (.iload_n 1, 1) := by decide +kernel
theorem dX5_plankOf_1 : decode cX5_plankOf 1 = .ok (.bipush 6, 2) := by decide +kernel
theorem dX5_plankOf_3 : decode cX5_plankOf 3 = .ok (.iload_n 2, 1) := by decide +kernel
theorem dX5_plankOf_4 : decode cX5_plankOf 4 = .ok (.iconst 1, 1) := by decide +kernel
theorem dX5_plankOf_5 : decode cX5_plankOf 5 = .ok (.isub, 1) := by decide +kernel
theorem dX5_plankOf_6 : decode cX5_plankOf 6 = .ok (.iload_n 3, 1) := by decide +kernel
theorem dX5_plankOf_7 : decode cX5_plankOf 7 = .ok (.isub, 1) := by decide +kernel
theorem dX5_plankOf_8 : decode cX5_plankOf 8 = .ok (.invokestatic 109, 3) := by decide +kernel
theorem dX5_plankOf_11 : decode cX5_plankOf 11 = .ok (.idiv, 1) := by decide +kernel
theorem dX5_plankOf_12 : decode cX5_plankOf 12 = .ok (.bipush 6, 2) := by decide +kernel
theorem dX5_plankOf_14 : decode cX5_plankOf 14 = .ok (.irem, 1) := by decide +kernel
theorem dX5_plankOf_15 : decode cX5_plankOf 15 = .ok (.ireturn, 1) := by decide +kernel
set_option maxRecDepth 20000 in
theorem ggX5_layWay_X5_powerOf : GoodIn wsX5_layWay wsX5_powerOf := goodIn_r _ [9] (by decide +kernel) (by decide +kernel)
set_option maxRecDepth 20000 in
theorem gX5_layWay_X5_powerOf : GoodIn wsX5_layWay (va_wsS RX5 109 yX5_powerOf wsX5_powerOf) := goodIn_app (goodIn_of _ (by decide +kernel)) ggX5_layWay_X5_powerOf
set_option maxRecDepth 20000 in
theorem ggX5_layWay_X5_plankOf : GoodIn wsX5_layWay wsX5_plankOf := goodIn_r _ [13, 6, 7, 8, 9] (by decide +kernel) (by decide +kernel)
set_option maxRecDepth 20000 in
theorem gX5_layWay_X5_plankOf : GoodIn wsX5_layWay (wsV RX5 125 RX5 yX5_plankOf wsX5_plankOf) := goodIn_app (goodIn_of _ (by decide +kernel)) ggX5_layWay_X5_plankOf
set_option maxRecDepth 20000 in
theorem ggX5_layWay_X5_over : GoodIn wsX5_layWay wsX5_over := goodIn_r _ [17, 18, 19, 20, 21, 22, 23, 24, 25, 26, 27, 28, 29, 30, 31, 32, 33, 34, 35, 36, 37, 38, 39, 40, 41] (by decide +kernel) (by decide +kernel)
set_option maxRecDepth 20000 in
theorem gX5_layWay_X5_over : GoodIn wsX5_layWay (wsV RX5 112 RX5 yX5_over wsX5_over) := goodIn_app (goodIn_of _ (by decide +kernel)) ggX5_layWay_X5_over
theorem dX5_layWay_0 : decode cX5_layWay 0 = .ok (.aload_n 0, 1) := by decide +kernel
theorem dX5_layWay_1 : decode cX5_layWay 1 = .ok (.ldc 115, 2) := by decide +kernel
theorem dX5_layWay_3 : decode cX5_layWay 3 = .ok (.putfield 116, 3) := by decide +kernel
theorem dX5_layWay_6 : decode cX5_layWay 6 = .ok (.aload_n 0, 1) := by decide +kernel
theorem dX5_layWay_7 : decode cX5_layWay 7 = .ok (.iconst 0, 1) := by decide +kernel
theorem dX5_layWay_8 : decode cX5_layWay 8 = .ok (.putfield 119, 3) := by decide +kernel
theorem dX5_layWay_11 : decode cX5_layWay 11 = .ok (.aload_n 0, 1) := by decide +kernel
theorem dX5_layWay_12 : decode cX5_layWay 12 = .ok (.iconst 0, 1) := by decide +kernel
theorem dX5_layWay_13 : decode cX5_layWay 13 = .ok (.putfield 122, 3) := by decide +kernel
theorem dX5_layWay_16 : decode cX5_layWay 16 = .ok (.iconst 0, 1) := by decide +kernel
theorem dX5_layWay_17 : decode cX5_layWay 17 = .ok (.istore_n 3, 1) := by decide +kernel
theorem dX5_layWay_18 : decode cX5_layWay 18 = .ok (.iload_n 3, 1) := by decide +kernel
theorem dX5_layWay_19 : decode cX5_layWay 19 = .ok (.bipush 6, 2) := by decide +kernel
theorem dX5_layWay_21 : decode cX5_layWay 21 = .ok (.if_icmp .ge 120, 3) := by decide +kernel
theorem dX5_layWay_24 : decode cX5_layWay 24 = .ok (.iconst 0, 1) := by decide +kernel
theorem dX5_layWay_25 : decode cX5_layWay 25 = .ok (.istore 4, 2) := by decide +kernel
theorem dX5_layWay_27 : decode cX5_layWay 27 = .ok (.iload 4, 2) := by decide +kernel
theorem dX5_layWay_29 : decode cX5_layWay 29 = .ok (.bipush 6, 2) := by decide +kernel
theorem dX5_layWay_31 : decode cX5_layWay 31 = .ok (.iload_n 3, 1) := by decide +kernel
theorem dX5_layWay_32 : decode cX5_layWay 32 = .ok (.invokestatic 109, 3) := by decide +kernel
theorem dX5_layWay_35 : decode cX5_layWay 35 = .ok (.if_icmp .ge 100, 3) := by decide +kernel
theorem dX5_layWay_38 : decode cX5_layWay 38 = .ok (.iload_n 1, 1) := by decide +kernel
theorem dX5_layWay_39 : decode cX5_layWay 39 = .ok (.istore 5, 2) := by decide +kernel
theorem dX5_layWay_41 : decode cX5_layWay 41 = .ok (.iconst 0, 1) := by decide +kernel
theorem dX5_layWay_42 : decode cX5_layWay 42 = .ok (.istore 6, 2) := by decide +kernel
theorem dX5_layWay_44 : decode cX5_layWay 44 = .ok (.iconst 0, 1) := by decide +kernel
theorem dX5_layWay_45 : decode cX5_layWay 45 = .ok (.istore 7, 2) := by decide +kernel
theorem dX5_layWay_47 : decode cX5_layWay 47 = .ok (.iload 7, 2) := by decide +kernel
theorem dX5_layWay_49 : decode cX5_layWay 49 = .ok (.iload_n 3, 1) := by decide +kernel
theorem dX5_layWay_50 : decode cX5_layWay 50 = .ok (.if_icmp .ge 47, 3) := by decide +kernel
theorem dX5_layWay_53 : decode cX5_layWay 53 = .ok (.iload 5, 2) := by decide +kernel
theorem dX5_layWay_55 : decode cX5_layWay 55 = .ok (.ifCond .lt 42, 3) := by decide +kernel
theorem dX5_layWay_58 : decode cX5_layWay 58 = .ok (.aload_n 0, 1) := by decide +kernel
theorem dX5_layWay_59 : decode cX5_layWay 59 = .ok (.iload 4, 2) := by decide +kernel
theorem dX5_layWay_61 : decode cX5_layWay 61 = .ok (.iload_n 3, 1) := by decide +kernel
theorem dX5_layWay_62 : decode cX5_layWay 62 = .ok (.iload 7, 2) := by decide +kernel
theorem dX5_layWay_64 : decode cX5_layWay 64 = .ok (.invokevirtual 125, 3) := by decide +kernel
theorem dX5_layWay_67 : decode cX5_layWay 67 = .ok (.istore 8, 2) := by decide +kernel
theorem dX5_layWay_69 : decode cX5_layWay 69 = .ok (.aload_n 0, 1) := by decide +kernel
theorem dX5_layWay_70 : decode cX5_layWay 70 = .ok (.iload 8, 2) := by decide +kernel
theorem dX5_layWay_72 : decode cX5_layWay 72 = .ok (.iload 5, 2) := by decide +kernel
theorem dX5_layWay_74 : decode cX5_layWay 74 = .ok (.invokevirtual 112, 3) := by decide +kernel
theorem dX5_layWay_77 : decode cX5_layWay 77 = .ok (.istore 5, 2) := by decide +kernel
theorem dX5_layWay_79 : decode cX5_layWay 79 = .ok (.iload 6, 2) := by decide +kernel
theorem dX5_layWay_81 : decode cX5_layWay 81 = .ok (.aload_n 0, 1) := by decide +kernel
theorem dX5_layWay_82 : decode cX5_layWay 82 = .ok (.getfield 44, 3) := by decide +kernel
theorem dX5_layWay_85 : decode cX5_layWay 85 = .ok (.iload 8, 2) := by decide +kernel
theorem dX5_layWay_87 : decode cX5_layWay 87 = .ok (.iaload, 1) := by decide +kernel
theorem dX5_layWay_88 : decode cX5_layWay 88 = .ok (.iadd, 1) := by decide +kernel
theorem dX5_layWay_89 : decode cX5_layWay 89 = .ok (.istore 6, 2) := by decide +kernel
theorem dX5_layWay_91 : decode cX5_layWay 91 = .ok (.iinc 7 1, 3) := by decide +kernel
theorem dX5_layWay_94 : decode cX5_layWay 94 = .ok (.goto (-47), 3) := by decide +kernel
theorem dX5_layWay_97 : decode cX5_layWay 97 = .ok (.iload 5, 2) := by decide +kernel
theorem dX5_layWay_99 : decode cX5_layWay 99 = .ok (.iload_n 2, 1) := by decide +kernel
theorem dX5_layWay_100 : decode cX5_layWay 100 = .ok (.if_icmp .ne 29, 3) := by decide +kernel
theorem dX5_layWay_103 : decode cX5_layWay 103 = .ok (.iload 6, 2) := by decide +kernel
theorem dX5_layWay_105 : decode cX5_layWay 105 = .ok (.aload_n 0, 1) := by decide +kernel
theorem dX5_layWay_106 : decode cX5_layWay 106 = .ok (.getfield 116, 3) := by decide +kernel
theorem dX5_layWay_109 : decode cX5_layWay 109 = .ok (.if_icmp .ge 20, 3) := by decide +kernel
theorem dX5_layWay_112 : decode cX5_layWay 112 = .ok (.aload_n 0, 1) := by decide +kernel
theorem dX5_layWay_113 : decode cX5_layWay 113 = .ok (.iload 6, 2) := by decide +kernel
theorem dX5_layWay_115 : decode cX5_layWay 115 = .ok (.putfield 116, 3) := by decide +kernel
theorem dX5_layWay_118 : decode cX5_layWay 118 = .ok (.aload_n 0, 1) := by decide +kernel
theorem dX5_layWay_119 : decode cX5_layWay 119 = .ok (.iload_n 3, 1) := by decide +kernel
theorem dX5_layWay_120 : decode cX5_layWay 120 = .ok (.putfield 119, 3) := by decide +kernel
theorem dX5_layWay_123 : decode cX5_layWay 123 = .ok (.aload_n 0, 1) := by decide +kernel
theorem dX5_layWay_124 : decode cX5_layWay 124 = .ok (.iload 4, 2) := by decide +kernel
theorem dX5_layWay_126 : decode cX5_layWay 126 = .ok (.putfield 122, 3) := by decide +kernel
theorem dX5_layWay_129 : decode cX5_layWay 129 = .ok (.iinc 4 1, 3) := by decide +kernel
theorem dX5_layWay_132 : decode cX5_layWay 132 = .ok (.goto (-105), 3) := by decide +kernel
theorem dX5_layWay_135 : decode cX5_layWay 135 = .ok (.iinc 3 1, 3) := by decide +kernel
theorem dX5_layWay_138 : decode cX5_layWay 138 = .ok (.goto (-120), 3) := by decide +kernel
theorem dX5_layWay_141 : decode cX5_layWay 141 = .ok (.aload_n 0, 1) := by decide +kernel
theorem dX5_layWay_142 : decode cX5_layWay 142 = .ok (.getfield 116, 3) := by decide +kernel
theorem dX5_layWay_145 : decode cX5_layWay 145 = .ok (.ldc 115, 2) := by decide +kernel
theorem dX5_layWay_147 : decode cX5_layWay 147 = .ok (.if_icmp .ge 7, 3) := by decide +kernel
theorem dX5_layWay_150 : decode cX5_layWay 150 = .ok (.iconst 1, 1) := by decide +kernel
theorem dX5_layWay_151 : decode cX5_layWay 151 = .ok (.goto 4, 3) := by decide +kernel
theorem dX5_layWay_154 : decode cX5_layWay 154 = .ok (.iconst 0, 1) := by decide +kernel
theorem dX5_layWay_155 : decode cX5_layWay 155 = .ok (.ireturn, 1) := by decide +kernel
set_option maxRecDepth 20000 in
theorem ggX5_reached_X5_has : GoodIn wsX5_reached wsX5_has := goodIn_r _ [8] (by decide +kernel) (by decide +kernel)
set_option maxRecDepth 20000 in
theorem gX5_reached_X5_has : GoodIn wsX5_reached (va_wsS RX5 69 yX5_has wsX5_has) := goodIn_app (goodIn_of _ (by decide +kernel)) ggX5_reached_X5_has
theorem dX5_reached_0 : decode cX5_reached 0 = .ok (.iconst 0, 1) := by decide +kernel
theorem dX5_reached_1 : decode cX5_reached 1 = .ok (.istore_n 2, 1) := by decide +kernel
theorem dX5_reached_2 : decode cX5_reached 2 = .ok (.iconst 0, 1) := by decide +kernel
theorem dX5_reached_3 : decode cX5_reached 3 = .ok (.istore_n 3, 1) := by decide +kernel
theorem dX5_reached_4 : decode cX5_reached 4 = .ok (.iload_n 3, 1) := by decide +kernel
theorem dX5_reached_5 : decode cX5_reached 5 = .ok (.bipush 6, 2) := by decide +kernel
theorem dX5_reached_7 : decode cX5_reached 7 = .ok (.if_icmp .ge 33, 3) := by decide +kernel
theorem dX5_reached_10 : decode cX5_reached 10 = .ok (.iload_n 2, 1) := by decide +kernel
theorem dX5_reached_11 : decode cX5_reached 11 = .ok (.aload_n 0, 1) := by decide +kernel
theorem dX5_reached_12 : decode cX5_reached 12 = .ok (.getfield 41, 3) := by decide +kernel
theorem dX5_reached_15 : decode cX5_reached 15 = .ok (.bipush 6, 2) := by decide +kernel
theorem dX5_reached_17 : decode cX5_reached 17 = .ok (.iload_n 3, 1) := by decide +kernel
theorem dX5_reached_18 : decode cX5_reached 18 = .ok (.imul, 1) := by decide +kernel
theorem dX5_reached_19 : decode cX5_reached 19 = .ok (.iload_n 1, 1) := by decide +kernel
theorem dX5_reached_20 : decode cX5_reached 20 = .ok (.iadd, 1) := by decide +kernel
theorem dX5_reached_21 : decode cX5_reached 21 = .ok (.iaload, 1) := by decide +kernel
theorem dX5_reached_22 : decode cX5_reached 22 = .ok (.ifCond .le 9, 3) := by decide +kernel
theorem dX5_reached_25 : decode cX5_reached 25 = .ok (.iconst 1, 1) := by decide +kernel
theorem dX5_reached_26 : decode cX5_reached 26 = .ok (.iload_n 3, 1) := by decide +kernel
theorem dX5_reached_27 : decode cX5_reached 27 = .ok (.ishl, 1) := by decide +kernel
theorem dX5_reached_28 : decode cX5_reached 28 = .ok (.goto 4, 3) := by decide +kernel
theorem dX5_reached_31 : decode cX5_reached 31 = .ok (.iconst 0, 1) := by decide +kernel
theorem dX5_reached_32 : decode cX5_reached 32 = .ok (.ior, 1) := by decide +kernel
theorem dX5_reached_33 : decode cX5_reached 33 = .ok (.istore_n 2, 1) := by decide +kernel
theorem dX5_reached_34 : decode cX5_reached 34 = .ok (.iinc 3 1, 3) := by decide +kernel
theorem dX5_reached_37 : decode cX5_reached 37 = .ok (.goto (-33), 3) := by decide +kernel
theorem dX5_reached_40 : decode cX5_reached 40 = .ok (.iconst 0, 1) := by decide +kernel
theorem dX5_reached_41 : decode cX5_reached 41 = .ok (.istore_n 3, 1) := by decide +kernel
theorem dX5_reached_42 : decode cX5_reached 42 = .ok (.iload_n 3, 1) := by decide +kernel
theorem dX5_reached_43 : decode cX5_reached 43 = .ok (.bipush 6, 2) := by decide +kernel
theorem dX5_reached_45 : decode cX5_reached 45 = .ok (.if_icmp .ge 94, 3) := by decide +kernel
theorem dX5_reached_48 : decode cX5_reached 48 = .ok (.iconst 0, 1) := by decide +kernel
theorem dX5_reached_49 : decode cX5_reached 49 = .ok (.istore 4, 2) := by decide +kernel
theorem dX5_reached_51 : decode cX5_reached 51 = .ok (.iload 4, 2) := by decide +kernel
theorem dX5_reached_53 : decode cX5_reached 53 = .ok (.bipush 6, 2) := by decide +kernel
theorem dX5_reached_55 : decode cX5_reached 55 = .ok (.if_icmp .ge 78, 3) := by decide +kernel
theorem dX5_reached_58 : decode cX5_reached 58 = .ok (.aload_n 0, 1) := by decide +kernel
theorem dX5_reached_59 : decode cX5_reached 59 = .ok (.getfield 16, 3) := by decide +kernel
theorem dX5_reached_62 : decode cX5_reached 62 = .ok (.iload_n 1, 1) := by decide +kernel
theorem dX5_reached_63 : decode cX5_reached 63 = .ok (.iaload, 1) := by decide +kernel
theorem dX5_reached_64 : decode cX5_reached 64 = .ok (.iload 4, 2) := by decide +kernel
theorem dX5_reached_66 : decode cX5_reached 66 = .ok (.if_icmp .eq 42, 3) := by decide +kernel
theorem dX5_reached_69 : decode cX5_reached 69 = .ok (.aload_n 0, 1) := by decide +kernel
theorem dX5_reached_70 : decode cX5_reached 70 = .ok (.getfield 22, 3) := by decide +kernel
theorem dX5_reached_73 : decode cX5_reached 73 = .ok (.iload 4, 2) := by decide +kernel
theorem dX5_reached_75 : decode cX5_reached 75 = .ok (.iaload, 1) := by decide +kernel
theorem dX5_reached_76 : decode cX5_reached 76 = .ok (.iload_n 1, 1) := by decide +kernel
theorem dX5_reached_77 : decode cX5_reached 77 = .ok (.invokestatic 69, 3) := by decide +kernel
theorem dX5_reached_80 : decode cX5_reached 80 = .ok (.ifCond .ne 28, 3) := by decide +kernel
theorem dX5_reached_83 : decode cX5_reached 83 = .ok (.aload_n 0, 1) := by decide +kernel
theorem dX5_reached_84 : decode cX5_reached 84 = .ok (.getfield 19, 3) := by decide +kernel
theorem dX5_reached_87 : decode cX5_reached 87 = .ok (.iload 4, 2) := by decide +kernel
theorem dX5_reached_89 : decode cX5_reached 89 = .ok (.iaload, 1) := by decide +kernel
theorem dX5_reached_90 : decode cX5_reached 90 = .ok (.iload_n 2, 1) := by decide +kernel
theorem dX5_reached_91 : decode cX5_reached 91 = .ok (.iconst 1, 1) := by decide +kernel
theorem dX5_reached_92 : decode cX5_reached 92 = .ok (.aload_n 0, 1) := by decide +kernel
theorem dX5_reached_93 : decode cX5_reached 93 = .ok (.getfield 16, 3) := by decide +kernel
theorem dX5_reached_96 : decode cX5_reached 96 = .ok (.iload_n 1, 1) := by decide +kernel
theorem dX5_reached_97 : decode cX5_reached 97 = .ok (.iaload, 1) := by decide +kernel
theorem dX5_reached_98 : decode cX5_reached 98 = .ok (.ishl, 1) := by decide +kernel
theorem dX5_reached_99 : decode cX5_reached 99 = .ok (.ior, 1) := by decide +kernel
theorem dX5_reached_100 : decode cX5_reached 100 = .ok (.iand, 1) := by decide +kernel
theorem dX5_reached_101 : decode cX5_reached 101 = .ok (.ifCond .eq 7, 3) := by decide +kernel
theorem dX5_reached_104 : decode cX5_reached 104 = .ok (.iconst 1, 1) := by decide +kernel
theorem dX5_reached_105 : decode cX5_reached 105 = .ok (.goto 4, 3) := by decide +kernel
theorem dX5_reached_108 : decode cX5_reached 108 = .ok (.iconst 0, 1) := by decide +kernel
theorem dX5_reached_109 : decode cX5_reached 109 = .ok (.istore 5, 2) := by decide +kernel
theorem dX5_reached_111 : decode cX5_reached 111 = .ok (.iload_n 2, 1) := by decide +kernel
theorem dX5_reached_112 : decode cX5_reached 112 = .ok (.iload 5, 2) := by decide +kernel
theorem dX5_reached_114 : decode cX5_reached 114 = .ok (.ifCond .eq 10, 3) := by decide +kernel
theorem dX5_reached_117 : decode cX5_reached 117 = .ok (.iconst 1, 1) := by decide +kernel
theorem dX5_reached_118 : decode cX5_reached 118 = .ok (.iload 4, 2) := by decide +kernel
theorem dX5_reached_120 : decode cX5_reached 120 = .ok (.ishl, 1) := by decide +kernel
theorem dX5_reached_121 : decode cX5_reached 121 = .ok (.goto 4, 3) := by decide +kernel
theorem dX5_reached_124 : decode cX5_reached 124 = .ok (.iconst 0, 1) := by decide +kernel
theorem dX5_reached_125 : decode cX5_reached 125 = .ok (.ior, 1) := by decide +kernel
theorem dX5_reached_126 : decode cX5_reached 126 = .ok (.istore_n 2, 1) := by decide +kernel
theorem dX5_reached_127 : decode cX5_reached 127 = .ok (.iinc 4 1, 3) := by decide +kernel
theorem dX5_reached_130 : decode cX5_reached 130 = .ok (.goto (-79), 3) := by decide +kernel
theorem dX5_reached_133 : decode cX5_reached 133 = .ok (.iinc 3 1, 3) := by decide +kernel
theorem dX5_reached_136 : decode cX5_reached 136 = .ok (.goto (-94), 3) := by decide +kernel
theorem dX5_reached_139 : decode cX5_reached 139 = .ok (.iconst 0, 1) := by decide +kernel
theorem dX5_reached_140 : decode cX5_reached 140 = .ok (.istore_n 3, 1) := by decide +kernel
theorem dX5_reached_141 : decode cX5_reached 141 = .ok (.iconst 0, 1) := by decide +kernel
theorem dX5_reached_142 : decode cX5_reached 142 = .ok (.istore 4, 2) := by decide +kernel
theorem dX5_reached_144 : decode cX5_reached 144 = .ok (.iload 4, 2) := by decide +kernel
theorem dX5_reached_146 : decode cX5_reached 146 = .ok (.bipush 6, 2) := by decide +kernel
theorem dX5_reached_148 : decode cX5_reached 148 = .ok (.if_icmp .ge 18, 3) := by decide +kernel
theorem dX5_reached_151 : decode cX5_reached 151 = .ok (.iload_n 3, 1) := by decide +kernel
theorem dX5_reached_152 : decode cX5_reached 152 = .ok (.iload_n 2, 1) := by decide +kernel
theorem dX5_reached_153 : decode cX5_reached 153 = .ok (.iload 4, 2) := by decide +kernel
theorem dX5_reached_155 : decode cX5_reached 155 = .ok (.ishr, 1) := by decide +kernel
theorem dX5_reached_156 : decode cX5_reached 156 = .ok (.iconst 1, 1) := by decide +kernel
theorem dX5_reached_157 : decode cX5_reached 157 = .ok (.iand, 1) := by decide +kernel
theorem dX5_reached_158 : decode cX5_reached 158 = .ok (.iadd, 1) := by decide +kernel
theorem dX5_reached_159 : decode cX5_reached 159 = .ok (.istore_n 3, 1) := by decide +kernel
theorem dX5_reached_160 : decode cX5_reached 160 = .ok (.iinc 4 1, 3) := by decide +kernel
theorem dX5_reached_163 : decode cX5_reached 163 = .ok (.goto (-19), 3) := by decide +kernel
theorem dX5_reached_166 : decode cX5_reached 166 = .ok (.iload_n 3, 1) := by decide +kernel
theorem dX5_reached_167 : decode cX5_reached 167 = .ok (.ireturn, 1) := by decide +kernel
set_option maxRecDepth 20000 in
theorem ggX5_layCosts_X5_bornBy : GoodIn wsX5_layCosts wsX5_bornBy := goodIn_r _ [7, 8, 19, 20, 21, 22, 23, 24, 25, 26, 27, 28, 29, 30, 31, 32, 33, 34, 35, 36, 37, 38, 39, 40] (by decide +kernel) (by decide +kernel)
set_option maxRecDepth 20000 in
theorem gX5_layCosts_X5_bornBy : GoodIn wsX5_layCosts (wsV RX5 101 RX5 yX5_bornBy wsX5_bornBy) := goodIn_app (goodIn_of _ (by decide +kernel)) ggX5_layCosts_X5_bornBy
set_option maxRecDepth 20000 in
theorem ggX5_layCosts_X5_reached : GoodIn wsX5_layCosts wsX5_reached := goodIn_r _ [12, 8, 13, 14, 15, 16, 17, 6, 18, 19, 20, 21, 22, 23, 24, 25, 26, 27, 28, 29, 30, 31, 32, 33, 34, 35, 36, 37, 38, 39, 40] (by decide +kernel) (by decide +kernel)
set_option maxRecDepth 20000 in
theorem gX5_layCosts_X5_reached : GoodIn wsX5_layCosts (wsV RX5 128 RX5 yX5_reached wsX5_reached) := goodIn_app (goodIn_of _ (by decide +kernel)) ggX5_layCosts_X5_reached
theorem dX5_layCosts_0 : decode cX5_layCosts 0 = .ok (.iconst 0, 1) := by decide +kernel
theorem dX5_layCosts_1 : decode cX5_layCosts 1 = .ok (.istore_n 2, 1) := by decide +kernel
theorem dX5_layCosts_2 : decode cX5_layCosts 2 = .ok (.iload_n 2, 1) := by decide +kernel
theorem dX5_layCosts_3 : decode cX5_layCosts 3 = .ok (.bipush 6, 2) := by decide +kernel
theorem dX5_layCosts_5 : decode cX5_layCosts 5 = .ok (.if_icmp .ge 46, 3) := by decide +kernel
theorem dX5_layCosts_8 : decode cX5_layCosts 8 = .ok (.iload_n 1, 1) := by decide +kernel
theorem dX5_layCosts_9 : decode cX5_layCosts 9 = .ok (.aload_n 0, 1) := by decide +kernel
theorem dX5_layCosts_10 : decode cX5_layCosts 10 = .ok (.iload_n 2, 1) := by decide +kernel
theorem dX5_layCosts_11 : decode cX5_layCosts 11 = .ok (.invokevirtual 101, 3) := by decide +kernel
theorem dX5_layCosts_14 : decode cX5_layCosts 14 = .ok (.isub, 1) := by decide +kernel
theorem dX5_layCosts_15 : decode cX5_layCosts 15 = .ok (.istore_n 3, 1) := by decide +kernel
theorem dX5_layCosts_16 : decode cX5_layCosts 16 = .ok (.aload_n 0, 1) := by decide +kernel
theorem dX5_layCosts_17 : decode cX5_layCosts 17 = .ok (.getfield 44, 3) := by decide +kernel
theorem dX5_layCosts_20 : decode cX5_layCosts 20 = .ok (.iload_n 2, 1) := by decide +kernel
theorem dX5_layCosts_21 : decode cX5_layCosts 21 = .ok (.iload_n 3, 1) := by decide +kernel
theorem dX5_layCosts_22 : decode cX5_layCosts 22 = .ok (.ifCond .gt 7, 3) := by decide +kernel
theorem dX5_layCosts_25 : decode cX5_layCosts 25 = .ok (.iconst 0, 1) := by decide +kernel
theorem dX5_layCosts_26 : decode cX5_layCosts 26 = .ok (.goto 18, 3) := by decide +kernel
theorem dX5_layCosts_29 : decode cX5_layCosts 29 = .ok (.aload_n 0, 1) := by decide +kernel
theorem dX5_layCosts_30 : decode cX5_layCosts 30 = .ok (.iload_n 2, 1) := by decide +kernel
theorem dX5_layCosts_31 : decode cX5_layCosts 31 = .ok (.invokevirtual 128, 3) := by decide +kernel
theorem dX5_layCosts_34 : decode cX5_layCosts 34 = .ok (.iload_n 1, 1) := by decide +kernel
theorem dX5_layCosts_35 : decode cX5_layCosts 35 = .ok (.if_icmp .lt 7, 3) := by decide +kernel
theorem dX5_layCosts_38 : decode cX5_layCosts 38 = .ok (.iload_n 3, 1) := by decide +kernel
theorem dX5_layCosts_39 : decode cX5_layCosts 39 = .ok (.goto 5, 3) := by decide +kernel
theorem dX5_layCosts_42 : decode cX5_layCosts 42 = .ok (.ldc 115, 2) := by decide +kernel
theorem dX5_layCosts_44 : decode cX5_layCosts 44 = .ok (.iastore, 1) := by decide +kernel
theorem dX5_layCosts_45 : decode cX5_layCosts 45 = .ok (.iinc 2 1, 3) := by decide +kernel
theorem dX5_layCosts_48 : decode cX5_layCosts 48 = .ok (.goto (-46), 3) := by decide +kernel
theorem dX5_layCosts_51 : decode cX5_layCosts 51 = .ok (.return_, 1) := by decide +kernel
set_option maxRecDepth 20000 in
theorem ggX5_tellings_X5_is6 : GoodIn wsX5_tellings wsX5_is6 := goodIn_r _ [7, 8, 9, 6, 10] (by decide +kernel) (by decide +kernel)
set_option maxRecDepth 20000 in
theorem gX5_tellings_X5_is6 : GoodIn wsX5_tellings (va_wsS RX5 58 yX5_is6 wsX5_is6) := goodIn_app (goodIn_of _ (by decide +kernel)) ggX5_tellings_X5_is6
set_option maxRecDepth 20000 in
theorem ggX5_tellings_X5_in : GoodIn wsX5_tellings wsX5_in := goodIn_r _ [10] (by decide +kernel) (by decide +kernel)
set_option maxRecDepth 20000 in
theorem gX5_tellings_X5_in : GoodIn wsX5_tellings (va_wsS RX5 54 yX5_in wsX5_in) := goodIn_app (goodIn_of _ (by decide +kernel)) ggX5_tellings_X5_in
set_option maxRecDepth 20000 in
theorem ggX5_tellings_X5_asNow : GoodIn wsX5_tellings wsX5_asNow := goodIn_r _ [14, 15, 16, 54, 55, 56, 57, 58, 59, 60, 61, 62, 63, 64, 65, 66, 67, 68, 69, 70, 71, 72, 73, 74, 75] (by decide +kernel) (by decide +kernel)
set_option maxRecDepth 20000 in
theorem gX5_tellings_X5_asNow : GoodIn wsX5_tellings (wsV RX5 73 RX5 yX5_asNow wsX5_asNow) := goodIn_app (goodIn_of _ (by decide +kernel)) ggX5_tellings_X5_asNow
set_option maxRecDepth 20000 in
theorem ggX5_tellings_X5_layCosts : GoodIn wsX5_tellings wsX5_layCosts := goodIn_r _ [20, 21, 22, 23, 24, 25, 6, 26, 15, 27, 28, 29, 30, 31, 32, 33, 34, 35, 36, 54, 55, 56, 57, 58, 59, 60, 61, 62, 63, 64, 65, 66, 67, 68, 69, 70, 71, 72, 73, 74, 75] (by decide +kernel) (by decide +kernel)
set_option maxRecDepth 20000 in
theorem gX5_tellings_X5_layCosts : GoodIn wsX5_tellings (wsV RX5 131 RX5 yX5_layCosts wsX5_layCosts) := goodIn_app (goodIn_of _ (by decide +kernel)) ggX5_tellings_X5_layCosts
set_option maxRecDepth 20000 in
theorem ggX5_tellings_X5_layWay : GoodIn wsX5_tellings wsX5_layWay := goodIn_r _ [40, 22, 1, 2, 3, 21, 41, 42, 6, 43, 44, 45, 46, 47, 48, 49, 50, 51, 52, 53, 54, 55, 56, 57, 58, 59, 60, 61, 62, 63, 64, 65, 66, 67, 68, 69, 70, 71, 72, 73, 74, 75] (by decide +kernel) (by decide +kernel)
set_option maxRecDepth 20000 in
theorem gX5_tellings_X5_layWay : GoodIn wsX5_tellings (wsV RX5 135 RX5 yX5_layWay wsX5_layWay) := goodIn_app (goodIn_of _ (by decide +kernel)) ggX5_tellings_X5_layWay
set_option maxRecDepth 20000 in
theorem ggX5_tellings_X5_plankOf : GoodIn wsX5_tellings wsX5_plankOf := goodIn_r _ [47, 41, 42, 6, 43] (by decide +kernel) (by decide +kernel)
set_option maxRecDepth 20000 in
theorem gX5_tellings_X5_plankOf : GoodIn wsX5_tellings (wsV RX5 125 RX5 yX5_plankOf wsX5_plankOf) := goodIn_app (goodIn_of _ (by decide +kernel)) ggX5_tellings_X5_plankOf
theorem dX5_tellings_0 : decode cX5_tellings 0 = .ok (.iload_n 1, 1) := by decide +kernel
theorem dX5_tellings_1 : decode cX5_tellings 1 = .ok (.invokestatic 58, 3) := by decide +kernel
theorem dX5_tellings_4 : decode cX5_tellings 4 = .ok (.ifCond .eq 10, 3) := by decide +kernel
theorem dX5_tellings_7 : decode cX5_tellings 7 = .ok (.iload_n 2, 1) := by decide +kernel
theorem dX5_tellings_8 : decode cX5_tellings 8 = .ok (.invokestatic 58, 3) := by decide +kernel
theorem dX5_tellings_11 : decode cX5_tellings 11 = .ok (.ifCond .ne 5, 3) := by decide +kernel
theorem dX5_tellings_14 : decode cX5_tellings 14 = .ok (.iconst (-1), 1) := by decide +kernel
theorem dX5_tellings_15 : decode cX5_tellings 15 = .ok (.ireturn, 1) := by decide +kernel
theorem dX5_tellings_16 : decode cX5_tellings 16 = .ok (.iload_n 3, 1) := by decide +kernel
theorem dX5_tellings_17 : decode cX5_tellings 17 = .ok (.iconst 1, 1) := by decide +kernel
theorem dX5_tellings_18 : decode cX5_tellings 18 = .ok (.bipush 6, 2) := by decide +kernel
theorem dX5_tellings_20 : decode cX5_tellings 20 = .ok (.invokestatic 54, 3) := by decide +kernel
theorem dX5_tellings_23 : decode cX5_tellings 23 = .ok (.ifCond .ne 6, 3) := by decide +kernel
theorem dX5_tellings_26 : decode cX5_tellings 26 = .ok (.bipush (-2), 2) := by decide +kernel
theorem dX5_tellings_28 : decode cX5_tellings 28 = .ok (.ireturn, 1) := by decide +kernel
theorem dX5_tellings_29 : decode cX5_tellings 29 = .ok (.aload_n 0, 1) := by decide +kernel
theorem dX5_tellings_30 : decode cX5_tellings 30 = .ok (.invokevirtual 73, 3) := by decide +kernel
theorem dX5_tellings_33 : decode cX5_tellings 33 = .ok (.aload_n 0, 1) := by decide +kernel
theorem dX5_tellings_34 : decode cX5_tellings 34 = .ok (.iload_n 3, 1) := by decide +kernel
theorem dX5_tellings_35 : decode cX5_tellings 35 = .ok (.invokevirtual 131, 3) := by decide +kernel
theorem dX5_tellings_38 : decode cX5_tellings 38 = .ok (.aload_n 0, 1) := by decide +kernel
theorem dX5_tellings_39 : decode cX5_tellings 39 = .ok (.iload_n 1, 1) := by decide +kernel
theorem dX5_tellings_40 : decode cX5_tellings 40 = .ok (.iload_n 2, 1) := by decide +kernel
theorem dX5_tellings_41 : decode cX5_tellings 41 = .ok (.invokevirtual 135, 3) := by decide +kernel
theorem dX5_tellings_44 : decode cX5_tellings 44 = .ok (.ifCond .ne 6, 3) := by decide +kernel
theorem dX5_tellings_47 : decode cX5_tellings 47 = .ok (.bipush (-6), 2) := by decide +kernel
theorem dX5_tellings_49 : decode cX5_tellings 49 = .ok (.ireturn, 1) := by decide +kernel
theorem dX5_tellings_50 : decode cX5_tellings 50 = .ok (.iload 4, 2) := by decide +kernel
theorem dX5_tellings_52 : decode cX5_tellings 52 = .ok (.iconst (-1), 1) := by decide +kernel
theorem dX5_tellings_53 : decode cX5_tellings 53 = .ok (.if_icmp .ne 10, 3) := by decide +kernel
theorem dX5_tellings_56 : decode cX5_tellings 56 = .ok (.aload_n 0, 1) := by decide +kernel
theorem dX5_tellings_57 : decode cX5_tellings 57 = .ok (.getfield 116, 3) := by decide +kernel
theorem dX5_tellings_60 : decode cX5_tellings 60 = .ok (.goto 37, 3) := by decide +kernel
theorem dX5_tellings_63 : decode cX5_tellings 63 = .ok (.iload 4, 2) := by decide +kernel
theorem dX5_tellings_65 : decode cX5_tellings 65 = .ok (.iconst 0, 1) := by decide +kernel
theorem dX5_tellings_66 : decode cX5_tellings 66 = .ok (.aload_n 0, 1) := by decide +kernel
theorem dX5_tellings_67 : decode cX5_tellings 67 = .ok (.getfield 119, 3) := by decide +kernel
theorem dX5_tellings_70 : decode cX5_tellings 70 = .ok (.iconst 1, 1) := by decide +kernel
theorem dX5_tellings_71 : decode cX5_tellings 71 = .ok (.isub, 1) := by decide +kernel
theorem dX5_tellings_72 : decode cX5_tellings 72 = .ok (.invokestatic 54, 3) := by decide +kernel
theorem dX5_tellings_75 : decode cX5_tellings 75 = .ok (.ifCond .eq 20, 3) := by decide +kernel
theorem dX5_tellings_78 : decode cX5_tellings 78 = .ok (.aload_n 0, 1) := by decide +kernel
theorem dX5_tellings_79 : decode cX5_tellings 79 = .ok (.aload_n 0, 1) := by decide +kernel
theorem dX5_tellings_80 : decode cX5_tellings 80 = .ok (.getfield 122, 3) := by decide +kernel
theorem dX5_tellings_83 : decode cX5_tellings 83 = .ok (.aload_n 0, 1) := by decide +kernel
theorem dX5_tellings_84 : decode cX5_tellings 84 = .ok (.getfield 119, 3) := by decide +kernel
theorem dX5_tellings_87 : decode cX5_tellings 87 = .ok (.iload 4, 2) := by decide +kernel
theorem dX5_tellings_89 : decode cX5_tellings 89 = .ok (.invokevirtual 125, 3) := by decide +kernel
theorem dX5_tellings_92 : decode cX5_tellings 92 = .ok (.goto 5, 3) := by decide +kernel
theorem dX5_tellings_95 : decode cX5_tellings 95 = .ok (.bipush (-6), 2) := by decide +kernel
theorem dX5_tellings_97 : decode cX5_tellings 97 = .ok (.ireturn, 1) := by decide +kernel
set_option maxRecDepth 20000 in
theorem ggX5_stands_X5_is6 : GoodIn wsX5_stands wsX5_is6 := goodIn_r _ [6, 7, 8, 5, 9] (by decide +kernel) (by decide +kernel)
set_option maxRecDepth 20000 in
theorem gX5_stands_X5_is6 : GoodIn wsX5_stands (va_wsS RX5 58 yX5_is6 wsX5_is6) := goodIn_app (goodIn_of _ (by decide +kernel)) ggX5_stands_X5_is6
set_option maxRecDepth 20000 in
theorem ggX5_stands_X5_in : GoodIn wsX5_stands wsX5_in := goodIn_r _ [9] (by decide +kernel) (by decide +kernel)
set_option maxRecDepth 20000 in
theorem gX5_stands_X5_in : GoodIn wsX5_stands (va_wsS RX5 54 yX5_in wsX5_in) := goodIn_app (goodIn_of _ (by decide +kernel)) ggX5_stands_X5_in
set_option maxRecDepth 20000 in
theorem ggX5_stands_X5_asNow : GoodIn wsX5_stands wsX5_asNow := goodIn_r _ [13, 14, 15, 44, 45, 46, 47, 48, 49, 50, 51, 52, 53, 54, 55, 56, 57, 58, 59, 60, 61, 62, 63, 64, 65] (by decide +kernel) (by decide +kernel)
set_option maxRecDepth 20000 in
theorem gX5_stands_X5_asNow : GoodIn wsX5_stands (wsV RX5 73 RX5 yX5_asNow wsX5_asNow) := goodIn_app (goodIn_of _ (by decide +kernel)) ggX5_stands_X5_asNow
set_option maxRecDepth 20000 in
theorem ggX5_stands_X5_bornBy : GoodIn wsX5_stands wsX5_bornBy := goodIn_r _ [19, 14, 44, 45, 46, 47, 48, 49, 50, 51, 52, 53, 54, 55, 56, 57, 58, 59, 60, 61, 62, 63, 64, 65] (by decide +kernel) (by decide +kernel)
set_option maxRecDepth 20000 in
theorem gX5_stands_X5_bornBy : GoodIn wsX5_stands (wsV RX5 101 RX5 yX5_bornBy wsX5_bornBy) := goodIn_app (goodIn_of _ (by decide +kernel)) ggX5_stands_X5_bornBy
set_option maxRecDepth 20000 in
theorem ggX5_stands_X5_layWay : GoodIn wsX5_stands wsX5_layWay := goodIn_r _ [23, 2, 24, 25, 26, 1, 27, 28, 5, 29, 30, 31, 32, 33, 34, 35, 36, 37, 38, 39, 44, 45, 46, 47, 48, 49, 50, 51, 52, 53, 54, 55, 56, 57, 58, 59, 60, 61, 62, 63, 64, 65] (by decide +kernel) (by decide +kernel)
set_option maxRecDepth 20000 in
theorem gX5_stands_X5_layWay : GoodIn wsX5_stands (wsV RX5 135 RX5 yX5_layWay wsX5_layWay) := goodIn_app (goodIn_of _ (by decide +kernel)) ggX5_stands_X5_layWay
set_option maxRecDepth 20000 in
theorem ggX5_stands_X5_pass : GoodIn wsX5_stands wsX5_pass := goodIn_r _ [43, 14, 44, 45, 46, 47, 48, 49, 50, 51, 52, 53, 54, 55, 56, 57, 58, 59, 60, 61, 62, 63, 64, 65] (by decide +kernel) (by decide +kernel)
set_option maxRecDepth 20000 in
theorem gX5_stands_X5_pass : GoodIn wsX5_stands (wsV RX5 85 RX5 yX5_pass wsX5_pass) := goodIn_app (goodIn_of _ (by decide +kernel)) ggX5_stands_X5_pass
theorem dX5_stands_0 : decode cX5_stands 0 = .ok (.iload_n 1, 1) := by decide +kernel
theorem dX5_stands_1 : decode cX5_stands 1 = .ok (.invokestatic 58, 3) := by decide +kernel
theorem dX5_stands_4 : decode cX5_stands 4 = .ok (.ifCond .eq 10, 3) := by decide +kernel
theorem dX5_stands_7 : decode cX5_stands 7 = .ok (.iload_n 2, 1) := by decide +kernel
theorem dX5_stands_8 : decode cX5_stands 8 = .ok (.invokestatic 58, 3) := by decide +kernel
theorem dX5_stands_11 : decode cX5_stands 11 = .ok (.ifCond .ne 5, 3) := by decide +kernel
theorem dX5_stands_14 : decode cX5_stands 14 = .ok (.iconst (-1), 1) := by decide +kernel
theorem dX5_stands_15 : decode cX5_stands 15 = .ok (.ireturn, 1) := by decide +kernel
theorem dX5_stands_16 : decode cX5_stands 16 = .ok (.iload_n 3, 1) := by decide +kernel
theorem dX5_stands_17 : decode cX5_stands 17 = .ok (.iconst 1, 1) := by decide +kernel
theorem dX5_stands_18 : decode cX5_stands 18 = .ok (.bipush 6, 2) := by decide +kernel
theorem dX5_stands_20 : decode cX5_stands 20 = .ok (.invokestatic 54, 3) := by decide +kernel
theorem dX5_stands_23 : decode cX5_stands 23 = .ok (.ifCond .ne 6, 3) := by decide +kernel
theorem dX5_stands_26 : decode cX5_stands 26 = .ok (.bipush (-2), 2) := by decide +kernel
theorem dX5_stands_28 : decode cX5_stands 28 = .ok (.ireturn, 1) := by decide +kernel
theorem dX5_stands_29 : decode cX5_stands 29 = .ok (.iload_n 1, 1) := by decide +kernel
theorem dX5_stands_30 : decode cX5_stands 30 = .ok (.iload_n 2, 1) := by decide +kernel
theorem dX5_stands_31 : decode cX5_stands 31 = .ok (.if_icmp .ne 6, 3) := by decide +kernel
theorem dX5_stands_34 : decode cX5_stands 34 = .ok (.bipush (-6), 2) := by decide +kernel
theorem dX5_stands_36 : decode cX5_stands 36 = .ok (.ireturn, 1) := by decide +kernel
theorem dX5_stands_37 : decode cX5_stands 37 = .ok (.aload_n 0, 1) := by decide +kernel
theorem dX5_stands_38 : decode cX5_stands 38 = .ok (.invokevirtual 73, 3) := by decide +kernel
theorem dX5_stands_41 : decode cX5_stands 41 = .ok (.iconst 0, 1) := by decide +kernel
theorem dX5_stands_42 : decode cX5_stands 42 = .ok (.istore 4, 2) := by decide +kernel
theorem dX5_stands_44 : decode cX5_stands 44 = .ok (.iconst 1, 1) := by decide +kernel
theorem dX5_stands_45 : decode cX5_stands 45 = .ok (.istore 5, 2) := by decide +kernel
theorem dX5_stands_47 : decode cX5_stands 47 = .ok (.iload 5, 2) := by decide +kernel
theorem dX5_stands_49 : decode cX5_stands 49 = .ok (.ifCond .eq 65, 3) := by decide +kernel
theorem dX5_stands_52 : decode cX5_stands 52 = .ok (.iconst 0, 1) := by decide +kernel
theorem dX5_stands_53 : decode cX5_stands 53 = .ok (.istore 6, 2) := by decide +kernel
theorem dX5_stands_55 : decode cX5_stands 55 = .ok (.iload 6, 2) := by decide +kernel
theorem dX5_stands_57 : decode cX5_stands 57 = .ok (.bipush 6, 2) := by decide +kernel
theorem dX5_stands_59 : decode cX5_stands 59 = .ok (.if_icmp .ge 32, 3) := by decide +kernel
theorem dX5_stands_62 : decode cX5_stands 62 = .ok (.aload_n 0, 1) := by decide +kernel
theorem dX5_stands_63 : decode cX5_stands 63 = .ok (.getfield 44, 3) := by decide +kernel
theorem dX5_stands_66 : decode cX5_stands 66 = .ok (.iload 6, 2) := by decide +kernel
theorem dX5_stands_68 : decode cX5_stands 68 = .ok (.aload_n 0, 1) := by decide +kernel
theorem dX5_stands_69 : decode cX5_stands 69 = .ok (.iload 6, 2) := by decide +kernel
theorem dX5_stands_71 : decode cX5_stands 71 = .ok (.invokevirtual 101, 3) := by decide +kernel
theorem dX5_stands_74 : decode cX5_stands 74 = .ok (.iload_n 3, 1) := by decide +kernel
theorem dX5_stands_75 : decode cX5_stands 75 = .ok (.if_icmp .lt 7, 3) := by decide +kernel
theorem dX5_stands_78 : decode cX5_stands 78 = .ok (.iconst 0, 1) := by decide +kernel
theorem dX5_stands_79 : decode cX5_stands 79 = .ok (.goto 5, 3) := by decide +kernel
theorem dX5_stands_82 : decode cX5_stands 82 = .ok (.ldc 115, 2) := by decide +kernel
theorem dX5_stands_84 : decode cX5_stands 84 = .ok (.iastore, 1) := by decide +kernel
theorem dX5_stands_85 : decode cX5_stands 85 = .ok (.iinc 6 1, 3) := by decide +kernel
theorem dX5_stands_88 : decode cX5_stands 88 = .ok (.goto (-33), 3) := by decide +kernel
theorem dX5_stands_91 : decode cX5_stands 91 = .ok (.aload_n 0, 1) := by decide +kernel
theorem dX5_stands_92 : decode cX5_stands 92 = .ok (.iload_n 1, 1) := by decide +kernel
theorem dX5_stands_93 : decode cX5_stands 93 = .ok (.iload_n 2, 1) := by decide +kernel
theorem dX5_stands_94 : decode cX5_stands 94 = .ok (.invokevirtual 135, 3) := by decide +kernel
theorem dX5_stands_97 : decode cX5_stands 97 = .ok (.istore 5, 2) := by decide +kernel
theorem dX5_stands_99 : decode cX5_stands 99 = .ok (.iload 5, 2) := by decide +kernel
theorem dX5_stands_101 : decode cX5_stands 101 = .ok (.ifCond .eq (-54), 3) := by decide +kernel
theorem dX5_stands_104 : decode cX5_stands 104 = .ok (.aload_n 0, 1) := by decide +kernel
theorem dX5_stands_105 : decode cX5_stands 105 = .ok (.invokevirtual 85, 3) := by decide +kernel
theorem dX5_stands_108 : decode cX5_stands 108 = .ok (.iinc 4 1, 3) := by decide +kernel
theorem dX5_stands_111 : decode cX5_stands 111 = .ok (.goto (-64), 3) := by decide +kernel
theorem dX5_stands_114 : decode cX5_stands 114 = .ok (.iload 4, 2) := by decide +kernel
theorem dX5_stands_116 : decode cX5_stands 116 = .ok (.ireturn, 1) := by decide +kernel
set_option maxRecDepth 20000 in
theorem ggX5_word_X5_in : GoodIn wsX5_word wsX5_in := goodIn_r _ [4] (by decide +kernel) (by decide +kernel)
set_option maxRecDepth 20000 in
theorem gX5_word_X5_in : GoodIn wsX5_word (va_wsS RX5 54 yX5_in wsX5_in) := goodIn_app (goodIn_of _ (by decide +kernel)) ggX5_word_X5_in
set_option maxRecDepth 20000 in
theorem ggX5_word_X5_asNow : GoodIn wsX5_word wsX5_asNow := goodIn_r _ [8, 9, 10, 19, 20, 21, 22, 23, 24, 25, 26, 27, 28, 29, 30, 31, 32, 33, 34, 35, 36, 37, 38, 39, 40] (by decide +kernel) (by decide +kernel)
set_option maxRecDepth 20000 in
theorem gX5_word_X5_asNow : GoodIn wsX5_word (wsV RX5 73 RX5 yX5_asNow wsX5_asNow) := goodIn_app (goodIn_of _ (by decide +kernel)) ggX5_word_X5_asNow
set_option maxRecDepth 20000 in
theorem ggX5_word_X5_denies : GoodIn wsX5_word wsX5_denies := goodIn_r _ [14, 15, 9, 16, 17, 3, 18, 19, 20, 21, 22, 23, 24, 25, 26, 27, 28, 29, 30, 31, 32, 33, 34, 35, 36, 37, 38, 39, 40] (by decide +kernel) (by decide +kernel)
set_option maxRecDepth 20000 in
theorem gX5_word_X5_denies : GoodIn wsX5_word (wsV RX5 88 RX5 yX5_denies wsX5_denies) := goodIn_app (goodIn_of _ (by decide +kernel)) ggX5_word_X5_denies
theorem dX5_word_0 : decode cX5_word 0 = .ok (.iload_n 1, 1) := by decide +kernel
theorem dX5_word_1 : decode cX5_word 1 = .ok (.iconst 0, 1) := by decide +kernel
theorem dX5_word_2 : decode cX5_word 2 = .ok (.iconst 1, 1) := by decide +kernel
theorem dX5_word_3 : decode cX5_word 3 = .ok (.invokestatic 54, 3) := by decide +kernel
theorem dX5_word_6 : decode cX5_word 6 = .ok (.ifCond .ne 6, 3) := by decide +kernel
theorem dX5_word_9 : decode cX5_word 9 = .ok (.bipush (-2), 2) := by decide +kernel
theorem dX5_word_11 : decode cX5_word 11 = .ok (.ireturn, 1) := by decide +kernel
theorem dX5_word_12 : decode cX5_word 12 = .ok (.iconst 0, 1) := by decide +kernel
theorem dX5_word_13 : decode cX5_word 13 = .ok (.istore_n 2, 1) := by decide +kernel
theorem dX5_word_14 : decode cX5_word 14 = .ok (.bipush (-6), 2) := by decide +kernel
theorem dX5_word_16 : decode cX5_word 16 = .ok (.istore_n 3, 1) := by decide +kernel
theorem dX5_word_17 : decode cX5_word 17 = .ok (.iconst 0, 1) := by decide +kernel
theorem dX5_word_18 : decode cX5_word 18 = .ok (.istore 4, 2) := by decide +kernel
theorem dX5_word_20 : decode cX5_word 20 = .ok (.iload 4, 2) := by decide +kernel
theorem dX5_word_22 : decode cX5_word 22 = .ok (.bipush 6, 2) := by decide +kernel
theorem dX5_word_24 : decode cX5_word 24 = .ok (.if_icmp .ge 103, 3) := by decide +kernel
theorem dX5_word_27 : decode cX5_word 27 = .ok (.iconst 0, 1) := by decide +kernel
theorem dX5_word_28 : decode cX5_word 28 = .ok (.istore 5, 2) := by decide +kernel
theorem dX5_word_30 : decode cX5_word 30 = .ok (.iload 5, 2) := by decide +kernel
theorem dX5_word_32 : decode cX5_word 32 = .ok (.bipush 6, 2) := by decide +kernel
theorem dX5_word_34 : decode cX5_word 34 = .ok (.if_icmp .ge 87, 3) := by decide +kernel
theorem dX5_word_37 : decode cX5_word 37 = .ok (.aload_n 0, 1) := by decide +kernel
theorem dX5_word_38 : decode cX5_word 38 = .ok (.invokevirtual 73, 3) := by decide +kernel
theorem dX5_word_41 : decode cX5_word 41 = .ok (.iconst 0, 1) := by decide +kernel
theorem dX5_word_42 : decode cX5_word 42 = .ok (.istore 6, 2) := by decide +kernel
theorem dX5_word_44 : decode cX5_word 44 = .ok (.iconst 0, 1) := by decide +kernel
theorem dX5_word_45 : decode cX5_word 45 = .ok (.istore 7, 2) := by decide +kernel
theorem dX5_word_47 : decode cX5_word 47 = .ok (.iload 7, 2) := by decide +kernel
theorem dX5_word_49 : decode cX5_word 49 = .ok (.bipush 6, 2) := by decide +kernel
theorem dX5_word_51 : decode cX5_word 51 = .ok (.if_icmp .ge 32, 3) := by decide +kernel
theorem dX5_word_54 : decode cX5_word 54 = .ok (.iload 6, 2) := by decide +kernel
theorem dX5_word_56 : decode cX5_word 56 = .ok (.aload_n 0, 1) := by decide +kernel
theorem dX5_word_57 : decode cX5_word 57 = .ok (.iload 4, 2) := by decide +kernel
theorem dX5_word_59 : decode cX5_word 59 = .ok (.iload 7, 2) := by decide +kernel
theorem dX5_word_61 : decode cX5_word 61 = .ok (.iload 5, 2) := by decide +kernel
theorem dX5_word_63 : decode cX5_word 63 = .ok (.invokevirtual 88, 3) := by decide +kernel
theorem dX5_word_66 : decode cX5_word 66 = .ok (.ifCond .eq 7, 3) := by decide +kernel
theorem dX5_word_69 : decode cX5_word 69 = .ok (.iconst 1, 1) := by decide +kernel
theorem dX5_word_70 : decode cX5_word 70 = .ok (.goto 4, 3) := by decide +kernel
theorem dX5_word_73 : decode cX5_word 73 = .ok (.iconst 0, 1) := by decide +kernel
theorem dX5_word_74 : decode cX5_word 74 = .ok (.iadd, 1) := by decide +kernel
theorem dX5_word_75 : decode cX5_word 75 = .ok (.istore 6, 2) := by decide +kernel
theorem dX5_word_77 : decode cX5_word 77 = .ok (.iinc 7 1, 3) := by decide +kernel
theorem dX5_word_80 : decode cX5_word 80 = .ok (.goto (-33), 3) := by decide +kernel
theorem dX5_word_83 : decode cX5_word 83 = .ok (.iload 6, 2) := by decide +kernel
theorem dX5_word_85 : decode cX5_word 85 = .ok (.iload_n 3, 1) := by decide +kernel
theorem dX5_word_86 : decode cX5_word 86 = .ok (.if_icmp .le 14, 3) := by decide +kernel
theorem dX5_word_89 : decode cX5_word 89 = .ok (.bipush 10, 2) := by decide +kernel
theorem dX5_word_91 : decode cX5_word 91 = .ok (.iload 4, 2) := by decide +kernel
theorem dX5_word_93 : decode cX5_word 93 = .ok (.imul, 1) := by decide +kernel
theorem dX5_word_94 : decode cX5_word 94 = .ok (.iload 5, 2) := by decide +kernel
theorem dX5_word_96 : decode cX5_word 96 = .ok (.iadd, 1) := by decide +kernel
theorem dX5_word_97 : decode cX5_word 97 = .ok (.goto 4, 3) := by decide +kernel
theorem dX5_word_100 : decode cX5_word 100 = .ok (.iload_n 2, 1) := by decide +kernel
theorem dX5_word_101 : decode cX5_word 101 = .ok (.istore_n 2, 1) := by decide +kernel
theorem dX5_word_102 : decode cX5_word 102 = .ok (.iload 6, 2) := by decide +kernel
theorem dX5_word_104 : decode cX5_word 104 = .ok (.iload_n 3, 1) := by decide +kernel
theorem dX5_word_105 : decode cX5_word 105 = .ok (.if_icmp .le 8, 3) := by decide +kernel
theorem dX5_word_108 : decode cX5_word 108 = .ok (.iload 6, 2) := by decide +kernel
theorem dX5_word_110 : decode cX5_word 110 = .ok (.goto 4, 3) := by decide +kernel
theorem dX5_word_113 : decode cX5_word 113 = .ok (.iload_n 3, 1) := by decide +kernel
theorem dX5_word_114 : decode cX5_word 114 = .ok (.istore_n 3, 1) := by decide +kernel
theorem dX5_word_115 : decode cX5_word 115 = .ok (.iinc 5 1, 3) := by decide +kernel
theorem dX5_word_118 : decode cX5_word 118 = .ok (.goto (-88), 3) := by decide +kernel
theorem dX5_word_121 : decode cX5_word 121 = .ok (.iinc 4 1, 3) := by decide +kernel
theorem dX5_word_124 : decode cX5_word 124 = .ok (.goto (-104), 3) := by decide +kernel
theorem dX5_word_127 : decode cX5_word 127 = .ok (.iload_n 1, 1) := by decide +kernel
theorem dX5_word_128 : decode cX5_word 128 = .ok (.ifCond .ne 7, 3) := by decide +kernel
theorem dX5_word_131 : decode cX5_word 131 = .ok (.iload_n 2, 1) := by decide +kernel
theorem dX5_word_132 : decode cX5_word 132 = .ok (.goto 4, 3) := by decide +kernel
theorem dX5_word_135 : decode cX5_word 135 = .ok (.iload_n 3, 1) := by decide +kernel
theorem dX5_word_136 : decode cX5_word 136 = .ok (.ireturn, 1) := by decide +kernel
set_option maxRecDepth 20000 in
theorem ggX5_rumour_X5_is6 : GoodIn wsX5_rumour wsX5_is6 := goodIn_r _ [7, 8, 9, 6, 10] (by decide +kernel) (by decide +kernel)
set_option maxRecDepth 20000 in
theorem gX5_rumour_X5_is6 : GoodIn wsX5_rumour (va_wsS RX5 58 yX5_is6 wsX5_is6) := goodIn_app (goodIn_of _ (by decide +kernel)) ggX5_rumour_X5_is6
set_option maxRecDepth 20000 in
theorem ggX5_rumour_X5_in : GoodIn wsX5_rumour wsX5_in := goodIn_r _ [10] (by decide +kernel) (by decide +kernel)
set_option maxRecDepth 20000 in
theorem gX5_rumour_X5_in : GoodIn wsX5_rumour (va_wsS RX5 54 yX5_in wsX5_in) := goodIn_app (goodIn_of _ (by decide +kernel)) ggX5_rumour_X5_in
set_option maxRecDepth 20000 in
theorem ggX5_rumour_X5_asNow : GoodIn wsX5_rumour wsX5_asNow := goodIn_r _ [14, 2, 15, 34, 35, 36, 37, 38, 39, 40, 41, 42, 43, 44, 45, 46, 47, 48, 49, 50, 51, 52, 53, 54, 55] (by decide +kernel) (by decide +kernel)
set_option maxRecDepth 20000 in
theorem gX5_rumour_X5_asNow : GoodIn wsX5_rumour (wsV RX5 73 RX5 yX5_asNow wsX5_asNow) := goodIn_app (goodIn_of _ (by decide +kernel)) ggX5_rumour_X5_asNow
set_option maxRecDepth 20000 in
theorem ggX5_rumour_X5_bornBy : GoodIn wsX5_rumour wsX5_bornBy := goodIn_r _ [19, 2, 34, 35, 36, 37, 38, 39, 40, 41, 42, 43, 44, 45, 46, 47, 48, 49, 50, 51, 52, 53, 54, 55] (by decide +kernel) (by decide +kernel)
set_option maxRecDepth 20000 in
theorem gX5_rumour_X5_bornBy : GoodIn wsX5_rumour (wsV RX5 101 RX5 yX5_bornBy wsX5_bornBy) := goodIn_app (goodIn_of _ (by decide +kernel)) ggX5_rumour_X5_bornBy
set_option maxRecDepth 20000 in
theorem ggX5_rumour_X5_has : GoodIn wsX5_rumour wsX5_has := goodIn_r _ [22] (by decide +kernel) (by decide +kernel)
set_option maxRecDepth 20000 in
theorem gX5_rumour_X5_has : GoodIn wsX5_rumour (va_wsS RX5 69 yX5_has wsX5_has) := goodIn_app (goodIn_of _ (by decide +kernel)) ggX5_rumour_X5_has
set_option maxRecDepth 20000 in
theorem ggX5_rumour_X5_tells : GoodIn wsX5_rumour wsX5_tells := goodIn_r _ [26, 1, 2, 27, 28, 29, 20, 21, 6, 22, 34, 35, 36, 37, 38, 39, 40, 41, 42, 43, 44, 45, 46, 47, 48, 49, 50, 51, 52, 53, 54, 55] (by decide +kernel) (by decide +kernel)
set_option maxRecDepth 20000 in
theorem gX5_rumour_X5_tells : GoodIn wsX5_rumour (wsV RX5 91 RX5 yX5_tells wsX5_tells) := goodIn_app (goodIn_of _ (by decide +kernel)) ggX5_rumour_X5_tells
set_option maxRecDepth 20000 in
theorem ggX5_rumour_X5_pass : GoodIn wsX5_rumour wsX5_pass := goodIn_r _ [33, 2, 34, 35, 36, 37, 38, 39, 40, 41, 42, 43, 44, 45, 46, 47, 48, 49, 50, 51, 52, 53, 54, 55] (by decide +kernel) (by decide +kernel)
set_option maxRecDepth 20000 in
theorem gX5_rumour_X5_pass : GoodIn wsX5_rumour (wsV RX5 85 RX5 yX5_pass wsX5_pass) := goodIn_app (goodIn_of _ (by decide +kernel)) ggX5_rumour_X5_pass
theorem dX5_rumour_0 : decode cX5_rumour 0 = .ok (.iload_n 1, 1) := by decide +kernel
theorem dX5_rumour_1 : decode cX5_rumour 1 = .ok (.invokestatic 58, 3) := by decide +kernel
theorem dX5_rumour_4 : decode cX5_rumour 4 = .ok (.ifCond .ne 5, 3) := by decide +kernel
theorem dX5_rumour_7 : decode cX5_rumour 7 = .ok (.iconst (-1), 1) := by decide +kernel
theorem dX5_rumour_8 : decode cX5_rumour 8 = .ok (.ireturn, 1) := by decide +kernel
theorem dX5_rumour_9 : decode cX5_rumour 9 = .ok (.iload_n 2, 1) := by decide +kernel
theorem dX5_rumour_10 : decode cX5_rumour 10 = .ok (.iconst 1, 1) := by decide +kernel
theorem dX5_rumour_11 : decode cX5_rumour 11 = .ok (.bipush 6, 2) := by decide +kernel
theorem dX5_rumour_13 : decode cX5_rumour 13 = .ok (.invokestatic 54, 3) := by decide +kernel
theorem dX5_rumour_16 : decode cX5_rumour 16 = .ok (.ifCond .ne 6, 3) := by decide +kernel
theorem dX5_rumour_19 : decode cX5_rumour 19 = .ok (.bipush (-2), 2) := by decide +kernel
theorem dX5_rumour_21 : decode cX5_rumour 21 = .ok (.ireturn, 1) := by decide +kernel
theorem dX5_rumour_22 : decode cX5_rumour 22 = .ok (.aload_n 0, 1) := by decide +kernel
theorem dX5_rumour_23 : decode cX5_rumour 23 = .ok (.invokevirtual 73, 3) := by decide +kernel
theorem dX5_rumour_26 : decode cX5_rumour 26 = .ok (.aload_n 0, 1) := by decide +kernel
theorem dX5_rumour_27 : decode cX5_rumour 27 = .ok (.iload_n 1, 1) := by decide +kernel
theorem dX5_rumour_28 : decode cX5_rumour 28 = .ok (.invokevirtual 101, 3) := by decide +kernel
theorem dX5_rumour_31 : decode cX5_rumour 31 = .ok (.iload_n 2, 1) := by decide +kernel
theorem dX5_rumour_32 : decode cX5_rumour 32 = .ok (.if_icmp .lt 5, 3) := by decide +kernel
theorem dX5_rumour_35 : decode cX5_rumour 35 = .ok (.iconst 0, 1) := by decide +kernel
theorem dX5_rumour_36 : decode cX5_rumour 36 = .ok (.ireturn, 1) := by decide +kernel
theorem dX5_rumour_37 : decode cX5_rumour 37 = .ok (.iconst 1, 1) := by decide +kernel
theorem dX5_rumour_38 : decode cX5_rumour 38 = .ok (.istore_n 3, 1) := by decide +kernel
theorem dX5_rumour_39 : decode cX5_rumour 39 = .ok (.iload_n 3, 1) := by decide +kernel
theorem dX5_rumour_40 : decode cX5_rumour 40 = .ok (.bipush 31, 2) := by decide +kernel
theorem dX5_rumour_42 : decode cX5_rumour 42 = .ok (.if_icmp .ge 148, 3) := by decide +kernel
theorem dX5_rumour_45 : decode cX5_rumour 45 = .ok (.iconst 1, 1) := by decide +kernel
theorem dX5_rumour_46 : decode cX5_rumour 46 = .ok (.aload_n 0, 1) := by decide +kernel
theorem dX5_rumour_47 : decode cX5_rumour 47 = .ok (.getfield 16, 3) := by decide +kernel
theorem dX5_rumour_50 : decode cX5_rumour 50 = .ok (.iload_n 1, 1) := by decide +kernel
theorem dX5_rumour_51 : decode cX5_rumour 51 = .ok (.iaload, 1) := by decide +kernel
theorem dX5_rumour_52 : decode cX5_rumour 52 = .ok (.ishl, 1) := by decide +kernel
theorem dX5_rumour_53 : decode cX5_rumour 53 = .ok (.istore 4, 2) := by decide +kernel
theorem dX5_rumour_55 : decode cX5_rumour 55 = .ok (.iconst 0, 1) := by decide +kernel
theorem dX5_rumour_56 : decode cX5_rumour 56 = .ok (.istore 5, 2) := by decide +kernel
theorem dX5_rumour_58 : decode cX5_rumour 58 = .ok (.iload 5, 2) := by decide +kernel
theorem dX5_rumour_60 : decode cX5_rumour 60 = .ok (.bipush 6, 2) := by decide +kernel
theorem dX5_rumour_62 : decode cX5_rumour 62 = .ok (.if_icmp .ge 37, 3) := by decide +kernel
theorem dX5_rumour_65 : decode cX5_rumour 65 = .ok (.iload 4, 2) := by decide +kernel
theorem dX5_rumour_67 : decode cX5_rumour 67 = .ok (.aload_n 0, 1) := by decide +kernel
theorem dX5_rumour_68 : decode cX5_rumour 68 = .ok (.getfield 41, 3) := by decide +kernel
theorem dX5_rumour_71 : decode cX5_rumour 71 = .ok (.bipush 6, 2) := by decide +kernel
theorem dX5_rumour_73 : decode cX5_rumour 73 = .ok (.iload 5, 2) := by decide +kernel
theorem dX5_rumour_75 : decode cX5_rumour 75 = .ok (.imul, 1) := by decide +kernel
theorem dX5_rumour_76 : decode cX5_rumour 76 = .ok (.iload_n 1, 1) := by decide +kernel
theorem dX5_rumour_77 : decode cX5_rumour 77 = .ok (.iadd, 1) := by decide +kernel
theorem dX5_rumour_78 : decode cX5_rumour 78 = .ok (.iaload, 1) := by decide +kernel
theorem dX5_rumour_79 : decode cX5_rumour 79 = .ok (.ifCond .le 10, 3) := by decide +kernel
theorem dX5_rumour_82 : decode cX5_rumour 82 = .ok (.iconst 1, 1) := by decide +kernel
theorem dX5_rumour_83 : decode cX5_rumour 83 = .ok (.iload 5, 2) := by decide +kernel
theorem dX5_rumour_85 : decode cX5_rumour 85 = .ok (.ishl, 1) := by decide +kernel
theorem dX5_rumour_86 : decode cX5_rumour 86 = .ok (.goto 4, 3) := by decide +kernel
theorem dX5_rumour_89 : decode cX5_rumour 89 = .ok (.iconst 0, 1) := by decide +kernel
theorem dX5_rumour_90 : decode cX5_rumour 90 = .ok (.ior, 1) := by decide +kernel
theorem dX5_rumour_91 : decode cX5_rumour 91 = .ok (.istore 4, 2) := by decide +kernel
theorem dX5_rumour_93 : decode cX5_rumour 93 = .ok (.iinc 5 1, 3) := by decide +kernel
theorem dX5_rumour_96 : decode cX5_rumour 96 = .ok (.goto (-38), 3) := by decide +kernel
theorem dX5_rumour_99 : decode cX5_rumour 99 = .ok (.iconst 0, 1) := by decide +kernel
theorem dX5_rumour_100 : decode cX5_rumour 100 = .ok (.istore 5, 2) := by decide +kernel
theorem dX5_rumour_102 : decode cX5_rumour 102 = .ok (.iload 5, 2) := by decide +kernel
theorem dX5_rumour_104 : decode cX5_rumour 104 = .ok (.bipush 6, 2) := by decide +kernel
theorem dX5_rumour_106 : decode cX5_rumour 106 = .ok (.if_icmp .ge 63, 3) := by decide +kernel
theorem dX5_rumour_109 : decode cX5_rumour 109 = .ok (.iconst 0, 1) := by decide +kernel
theorem dX5_rumour_110 : decode cX5_rumour 110 = .ok (.istore 6, 2) := by decide +kernel
theorem dX5_rumour_112 : decode cX5_rumour 112 = .ok (.iload 6, 2) := by decide +kernel
theorem dX5_rumour_114 : decode cX5_rumour 114 = .ok (.bipush 6, 2) := by decide +kernel
theorem dX5_rumour_116 : decode cX5_rumour 116 = .ok (.if_icmp .ge 47, 3) := by decide +kernel
theorem dX5_rumour_119 : decode cX5_rumour 119 = .ok (.iload 4, 2) := by decide +kernel
theorem dX5_rumour_121 : decode cX5_rumour 121 = .ok (.iload 5, 2) := by decide +kernel
theorem dX5_rumour_123 : decode cX5_rumour 123 = .ok (.invokestatic 69, 3) := by decide +kernel
theorem dX5_rumour_126 : decode cX5_rumour 126 = .ok (.ifCond .eq 37, 3) := by decide +kernel
theorem dX5_rumour_129 : decode cX5_rumour 129 = .ok (.aload_n 0, 1) := by decide +kernel
theorem dX5_rumour_130 : decode cX5_rumour 130 = .ok (.iload 5, 2) := by decide +kernel
theorem dX5_rumour_132 : decode cX5_rumour 132 = .ok (.iload 6, 2) := by decide +kernel
theorem dX5_rumour_134 : decode cX5_rumour 134 = .ok (.iload_n 1, 1) := by decide +kernel
theorem dX5_rumour_135 : decode cX5_rumour 135 = .ok (.invokevirtual 91, 3) := by decide +kernel
theorem dX5_rumour_138 : decode cX5_rumour 138 = .ok (.istore 7, 2) := by decide +kernel
theorem dX5_rumour_140 : decode cX5_rumour 140 = .ok (.aload_n 0, 1) := by decide +kernel
theorem dX5_rumour_141 : decode cX5_rumour 141 = .ok (.iload 7, 2) := by decide +kernel
theorem dX5_rumour_143 : decode cX5_rumour 143 = .ok (.ifCond .eq 7, 3) := by decide +kernel
theorem dX5_rumour_146 : decode cX5_rumour 146 = .ok (.iload_n 3, 1) := by decide +kernel
theorem dX5_rumour_147 : decode cX5_rumour 147 = .ok (.goto 7, 3) := by decide +kernel
theorem dX5_rumour_150 : decode cX5_rumour 150 = .ok (.aload_n 0, 1) := by decide +kernel
theorem dX5_rumour_151 : decode cX5_rumour 151 = .ok (.getfield 79, 3) := by decide +kernel
theorem dX5_rumour_154 : decode cX5_rumour 154 = .ok (.putfield 79, 3) := by decide +kernel
theorem dX5_rumour_157 : decode cX5_rumour 157 = .ok (.iinc 6 1, 3) := by decide +kernel
theorem dX5_rumour_160 : decode cX5_rumour 160 = .ok (.goto (-48), 3) := by decide +kernel
theorem dX5_rumour_163 : decode cX5_rumour 163 = .ok (.iinc 5 1, 3) := by decide +kernel
theorem dX5_rumour_166 : decode cX5_rumour 166 = .ok (.goto (-64), 3) := by decide +kernel
theorem dX5_rumour_169 : decode cX5_rumour 169 = .ok (.aload_n 0, 1) := by decide +kernel
theorem dX5_rumour_170 : decode cX5_rumour 170 = .ok (.iload_n 1, 1) := by decide +kernel
theorem dX5_rumour_171 : decode cX5_rumour 171 = .ok (.invokevirtual 101, 3) := by decide +kernel
theorem dX5_rumour_174 : decode cX5_rumour 174 = .ok (.iload_n 2, 1) := by decide +kernel
theorem dX5_rumour_175 : decode cX5_rumour 175 = .ok (.if_icmp .lt 5, 3) := by decide +kernel
theorem dX5_rumour_178 : decode cX5_rumour 178 = .ok (.iload_n 3, 1) := by decide +kernel
theorem dX5_rumour_179 : decode cX5_rumour 179 = .ok (.ireturn, 1) := by decide +kernel
theorem dX5_rumour_180 : decode cX5_rumour 180 = .ok (.aload_n 0, 1) := by decide +kernel
theorem dX5_rumour_181 : decode cX5_rumour 181 = .ok (.invokevirtual 85, 3) := by decide +kernel
theorem dX5_rumour_184 : decode cX5_rumour 184 = .ok (.iinc 3 1, 3) := by decide +kernel
theorem dX5_rumour_187 : decode cX5_rumour 187 = .ok (.goto (-148), 3) := by decide +kernel
theorem dX5_rumour_190 : decode cX5_rumour 190 = .ok (.bipush (-6), 2) := by decide +kernel
theorem dX5_rumour_192 : decode cX5_rumour 192 = .ok (.ireturn, 1) := by decide +kernel
set_option maxRecDepth 20000 in
theorem ggX5_toAll_X5_denies : GoodIn wsX5_toAll wsX5_denies := goodIn_r _ [6, 7, 8, 9, 10, 5, 11, 19, 20, 21, 22, 23, 24, 25, 26, 27, 28, 29, 30, 31, 32, 33, 34, 35, 36, 37, 38, 39, 40] (by decide +kernel) (by decide +kernel)
set_option maxRecDepth 20000 in
theorem gX5_toAll_X5_denies : GoodIn wsX5_toAll (wsV RX5 88 RX5 yX5_denies wsX5_denies) := goodIn_app (goodIn_of _ (by decide +kernel)) ggX5_toAll_X5_denies
set_option maxRecDepth 20000 in
theorem ggX5_toAll_X5_tells : GoodIn wsX5_toAll wsX5_tells := goodIn_r _ [15, 16, 8, 7, 17, 18, 9, 10, 5, 11, 19, 20, 21, 22, 23, 24, 25, 26, 27, 28, 29, 30, 31, 32, 33, 34, 35, 36, 37, 38, 39, 40] (by decide +kernel) (by decide +kernel)
set_option maxRecDepth 20000 in
theorem gX5_toAll_X5_tells : GoodIn wsX5_toAll (wsV RX5 91 RX5 yX5_tells wsX5_tells) := goodIn_app (goodIn_of _ (by decide +kernel)) ggX5_toAll_X5_tells
theorem dX5_toAll_0 : decode cX5_toAll 0 = .ok (.iconst 0, 1) := by decide +kernel
theorem dX5_toAll_1 : decode cX5_toAll 1 = .ok (.istore 4, 2) := by decide +kernel
theorem dX5_toAll_3 : decode cX5_toAll 3 = .ok (.iload 4, 2) := by decide +kernel
theorem dX5_toAll_5 : decode cX5_toAll 5 = .ok (.bipush 6, 2) := by decide +kernel
theorem dX5_toAll_7 : decode cX5_toAll 7 = .ok (.if_icmp .ge 52, 3) := by decide +kernel
theorem dX5_toAll_10 : decode cX5_toAll 10 = .ok (.iload_n 3, 1) := by decide +kernel
theorem dX5_toAll_11 : decode cX5_toAll 11 = .ok (.ifCond .eq 14, 3) := by decide +kernel
theorem dX5_toAll_14 : decode cX5_toAll 14 = .ok (.aload_n 0, 1) := by decide +kernel
theorem dX5_toAll_15 : decode cX5_toAll 15 = .ok (.iload_n 1, 1) := by decide +kernel
theorem dX5_toAll_16 : decode cX5_toAll 16 = .ok (.iload 4, 2) := by decide +kernel
theorem dX5_toAll_18 : decode cX5_toAll 18 = .ok (.iload_n 2, 1) := by decide +kernel
theorem dX5_toAll_19 : decode cX5_toAll 19 = .ok (.invokevirtual 88, 3) := by decide +kernel
theorem dX5_toAll_22 : decode cX5_toAll 22 = .ok (.goto 11, 3) := by decide +kernel
theorem dX5_toAll_25 : decode cX5_toAll 25 = .ok (.aload_n 0, 1) := by decide +kernel
theorem dX5_toAll_26 : decode cX5_toAll 26 = .ok (.iload_n 1, 1) := by decide +kernel
theorem dX5_toAll_27 : decode cX5_toAll 27 = .ok (.iload 4, 2) := by decide +kernel
theorem dX5_toAll_29 : decode cX5_toAll 29 = .ok (.iload_n 2, 1) := by decide +kernel
theorem dX5_toAll_30 : decode cX5_toAll 30 = .ok (.invokevirtual 91, 3) := by decide +kernel
theorem dX5_toAll_33 : decode cX5_toAll 33 = .ok (.istore 5, 2) := by decide +kernel
theorem dX5_toAll_35 : decode cX5_toAll 35 = .ok (.aload_n 0, 1) := by decide +kernel
theorem dX5_toAll_36 : decode cX5_toAll 36 = .ok (.iload 5, 2) := by decide +kernel
theorem dX5_toAll_38 : decode cX5_toAll 38 = .ok (.ifCond .eq 8, 3) := by decide +kernel
theorem dX5_toAll_41 : decode cX5_toAll 41 = .ok (.iload 4, 2) := by decide +kernel
theorem dX5_toAll_43 : decode cX5_toAll 43 = .ok (.goto 7, 3) := by decide +kernel
theorem dX5_toAll_46 : decode cX5_toAll 46 = .ok (.aload_n 0, 1) := by decide +kernel
theorem dX5_toAll_47 : decode cX5_toAll 47 = .ok (.getfield 79, 3) := by decide +kernel
theorem dX5_toAll_50 : decode cX5_toAll 50 = .ok (.putfield 79, 3) := by decide +kernel
theorem dX5_toAll_53 : decode cX5_toAll 53 = .ok (.iinc 4 1, 3) := by decide +kernel
theorem dX5_toAll_56 : decode cX5_toAll 56 = .ok (.goto (-53), 3) := by decide +kernel
theorem dX5_toAll_59 : decode cX5_toAll 59 = .ok (.return_, 1) := by decide +kernel
set_option maxRecDepth 20000 in
theorem ggX5_odds_X5_is6 : GoodIn wsX5_odds wsX5_is6 := goodIn_r _ [4, 5, 6, 3, 7] (by decide +kernel) (by decide +kernel)
set_option maxRecDepth 20000 in
theorem gX5_odds_X5_is6 : GoodIn wsX5_odds (va_wsS RX5 58 yX5_is6 wsX5_is6) := goodIn_app (goodIn_of _ (by decide +kernel)) ggX5_odds_X5_is6
set_option maxRecDepth 20000 in
theorem ggX5_odds_X5_in : GoodIn wsX5_odds wsX5_in := goodIn_r _ [7] (by decide +kernel) (by decide +kernel)
set_option maxRecDepth 20000 in
theorem gX5_odds_X5_in : GoodIn wsX5_odds (va_wsS RX5 54 yX5_in wsX5_in) := goodIn_app (goodIn_of _ (by decide +kernel)) ggX5_odds_X5_in
set_option maxRecDepth 20000 in
theorem ggX5_odds_X5_asNow : GoodIn wsX5_odds wsX5_asNow := goodIn_r _ [11, 12, 13, 38, 39, 40, 41, 42, 43, 44, 45, 46, 47, 48, 49, 50, 51, 52, 53, 54, 55, 56, 57, 58, 59] (by decide +kernel) (by decide +kernel)
set_option maxRecDepth 20000 in
theorem gX5_odds_X5_asNow : GoodIn wsX5_odds (wsV RX5 73 RX5 yX5_asNow wsX5_asNow) := goodIn_app (goodIn_of _ (by decide +kernel)) ggX5_odds_X5_asNow
set_option maxRecDepth 20000 in
theorem ggX5_odds_X5_toAll : GoodIn wsX5_odds wsX5_toAll := goodIn_r _ [17, 18, 19, 20, 21, 3, 22, 23, 12, 24, 25, 26, 27, 28, 29, 30, 31, 32, 33, 38, 39, 40, 41, 42, 43, 44, 45, 46, 47, 48, 49, 50, 51, 52, 53, 54, 55, 56, 57, 58, 59] (by decide +kernel) (by decide +kernel)
set_option maxRecDepth 20000 in
theorem gX5_odds_X5_toAll : GoodIn wsX5_odds (wsV RX5 138 RX5 yX5_toAll wsX5_toAll) := goodIn_app (goodIn_of _ (by decide +kernel)) ggX5_odds_X5_toAll
set_option maxRecDepth 20000 in
theorem ggX5_odds_X5_bornBy : GoodIn wsX5_odds wsX5_bornBy := goodIn_r _ [37, 12, 38, 39, 40, 41, 42, 43, 44, 45, 46, 47, 48, 49, 50, 51, 52, 53, 54, 55, 56, 57, 58, 59] (by decide +kernel) (by decide +kernel)
set_option maxRecDepth 20000 in
theorem gX5_odds_X5_bornBy : GoodIn wsX5_odds (wsV RX5 101 RX5 yX5_bornBy wsX5_bornBy) := goodIn_app (goodIn_of _ (by decide +kernel)) ggX5_odds_X5_bornBy
theorem dX5_odds_0 : decode cX5_odds 0 = .ok (.iload_n 1, 1) := by decide +kernel
theorem dX5_odds_1 : decode cX5_odds 1 = .ok (.invokestatic 58, 3) := by decide +kernel
theorem dX5_odds_4 : decode cX5_odds 4 = .ok (.ifCond .eq 22, 3) := by decide +kernel
theorem dX5_odds_7 : decode cX5_odds 7 = .ok (.iload_n 2, 1) := by decide +kernel
theorem dX5_odds_8 : decode cX5_odds 8 = .ok (.invokestatic 58, 3) := by decide +kernel
theorem dX5_odds_11 : decode cX5_odds 11 = .ok (.ifCond .eq 15, 3) := by decide +kernel
theorem dX5_odds_14 : decode cX5_odds 14 = .ok (.iload_n 3, 1) := by decide +kernel
theorem dX5_odds_15 : decode cX5_odds 15 = .ok (.invokestatic 58, 3) := by decide +kernel
theorem dX5_odds_18 : decode cX5_odds 18 = .ok (.ifCond .eq 8, 3) := by decide +kernel
theorem dX5_odds_21 : decode cX5_odds 21 = .ok (.iload_n 2, 1) := by decide +kernel
theorem dX5_odds_22 : decode cX5_odds 22 = .ok (.iload_n 3, 1) := by decide +kernel
theorem dX5_odds_23 : decode cX5_odds 23 = .ok (.if_icmp .ne 5, 3) := by decide +kernel
theorem dX5_odds_26 : decode cX5_odds 26 = .ok (.iconst (-1), 1) := by decide +kernel
end
section
theorem dX5_odds_27 : decode cX5_odds 27 = .ok (.ireturn, 1) := by decide +kernel
theorem dX5_odds_28 : decode cX5_odds 28 = .ok (.iload 4, 2) := by decide +kernel
theorem dX5_odds_30 : decode cX5_odds 30 = .ok (.iconst 0, 1) := by decide +kernel
theorem dX5_odds_31 : decode cX5_odds 31 = .ok (.iconst 1, 1) := by decide +kernel
theorem dX5_odds_32 : decode cX5_odds 32 = .ok (.invokestatic 54, 3) := by decide +kernel
theorem dX5_odds_35 : decode cX5_odds 35 = .ok (.ifCond .ne 6, 3) := by decide +kernel
theorem dX5_odds_38 : decode cX5_odds 38 = .ok (.bipush (-2), 2) := by decide +kernel
theorem dX5_odds_40 : decode cX5_odds 40 = .ok (.ireturn, 1) := by decide +kernel
theorem dX5_odds_41 : decode cX5_odds 41 = .ok (.aload_n 0, 1) := by decide +kernel
theorem dX5_odds_42 : decode cX5_odds 42 = .ok (.invokevirtual 73, 3) := by decide +kernel
theorem dX5_odds_45 : decode cX5_odds 45 = .ok (.aload_n 0, 1) := by decide +kernel
theorem dX5_odds_46 : decode cX5_odds 46 = .ok (.iload 4, 2) := by decide +kernel
theorem dX5_odds_48 : decode cX5_odds 48 = .ok (.ifCond .ne 7, 3) := by decide +kernel
theorem dX5_odds_51 : decode cX5_odds 51 = .ok (.iload_n 2, 1) := by decide +kernel
theorem dX5_odds_52 : decode cX5_odds 52 = .ok (.goto 4, 3) := by decide +kernel
theorem dX5_odds_55 : decode cX5_odds 55 = .ok (.iload_n 3, 1) := by decide +kernel
theorem dX5_odds_56 : decode cX5_odds 56 = .ok (.iload_n 1, 1) := by decide +kernel
theorem dX5_odds_57 : decode cX5_odds 57 = .ok (.iload 4, 2) := by decide +kernel
theorem dX5_odds_59 : decode cX5_odds 59 = .ok (.iconst 1, 1) := by decide +kernel
theorem dX5_odds_60 : decode cX5_odds 60 = .ok (.if_icmp .ne 7, 3) := by decide +kernel
theorem dX5_odds_63 : decode cX5_odds 63 = .ok (.iconst 1, 1) := by decide +kernel
theorem dX5_odds_64 : decode cX5_odds 64 = .ok (.goto 4, 3) := by decide +kernel
theorem dX5_odds_67 : decode cX5_odds 67 = .ok (.iconst 0, 1) := by decide +kernel
theorem dX5_odds_68 : decode cX5_odds 68 = .ok (.invokevirtual 138, 3) := by decide +kernel
theorem dX5_odds_71 : decode cX5_odds 71 = .ok (.aload_n 0, 1) := by decide +kernel
theorem dX5_odds_72 : decode cX5_odds 72 = .ok (.iload 4, 2) := by decide +kernel
theorem dX5_odds_74 : decode cX5_odds 74 = .ok (.ifCond .ne 7, 3) := by decide +kernel
theorem dX5_odds_77 : decode cX5_odds 77 = .ok (.iload_n 3, 1) := by decide +kernel
theorem dX5_odds_78 : decode cX5_odds 78 = .ok (.goto 4, 3) := by decide +kernel
theorem dX5_odds_81 : decode cX5_odds 81 = .ok (.iload_n 2, 1) := by decide +kernel
theorem dX5_odds_82 : decode cX5_odds 82 = .ok (.iload_n 1, 1) := by decide +kernel
theorem dX5_odds_83 : decode cX5_odds 83 = .ok (.iload 4, 2) := by decide +kernel
theorem dX5_odds_85 : decode cX5_odds 85 = .ok (.ifCond .ne 7, 3) := by decide +kernel
theorem dX5_odds_88 : decode cX5_odds 88 = .ok (.iconst 1, 1) := by decide +kernel
theorem dX5_odds_89 : decode cX5_odds 89 = .ok (.goto 4, 3) := by decide +kernel
theorem dX5_odds_92 : decode cX5_odds 92 = .ok (.iconst 0, 1) := by decide +kernel
theorem dX5_odds_93 : decode cX5_odds 93 = .ok (.invokevirtual 138, 3) := by decide +kernel
theorem dX5_odds_96 : decode cX5_odds 96 = .ok (.aload_n 0, 1) := by decide +kernel
theorem dX5_odds_97 : decode cX5_odds 97 = .ok (.iload_n 1, 1) := by decide +kernel
theorem dX5_odds_98 : decode cX5_odds 98 = .ok (.invokevirtual 101, 3) := by decide +kernel
theorem dX5_odds_101 : decode cX5_odds 101 = .ok (.ireturn, 1) := by decide +kernel
set_option maxRecDepth 20000 in
theorem ggX5_tenths_X5_is6 : GoodIn wsX5_tenths wsX5_is6 := goodIn_r _ [5, 6, 7, 4, 8] (by decide +kernel) (by decide +kernel)
set_option maxRecDepth 20000 in
theorem gX5_tenths_X5_is6 : GoodIn wsX5_tenths (va_wsS RX5 58 yX5_is6 wsX5_is6) := goodIn_app (goodIn_of _ (by decide +kernel)) ggX5_tenths_X5_is6
set_option maxRecDepth 20000 in
theorem ggX5_tenths_X5_in : GoodIn wsX5_tenths wsX5_in := goodIn_r _ [8] (by decide +kernel) (by decide +kernel)
set_option maxRecDepth 20000 in
theorem gX5_tenths_X5_in : GoodIn wsX5_tenths (va_wsS RX5 54 yX5_in wsX5_in) := goodIn_app (goodIn_of _ (by decide +kernel)) ggX5_tenths_X5_in
theorem dX5_tenths_0 : decode cX5_tenths 0 = .ok (.iload_n 1, 1) := by decide +kernel
theorem dX5_tenths_1 : decode cX5_tenths 1 = .ok (.invokestatic 58, 3) := by decide +kernel
theorem dX5_tenths_4 : decode cX5_tenths 4 = .ok (.ifCond .ne 5, 3) := by decide +kernel
theorem dX5_tenths_7 : decode cX5_tenths 7 = .ok (.iconst (-1), 1) := by decide +kernel
theorem dX5_tenths_8 : decode cX5_tenths 8 = .ok (.ireturn, 1) := by decide +kernel
theorem dX5_tenths_9 : decode cX5_tenths 9 = .ok (.iload_n 2, 1) := by decide +kernel
theorem dX5_tenths_10 : decode cX5_tenths 10 = .ok (.iconst 0, 1) := by decide +kernel
theorem dX5_tenths_11 : decode cX5_tenths 11 = .ok (.bipush 10, 2) := by decide +kernel
theorem dX5_tenths_13 : decode cX5_tenths 13 = .ok (.invokestatic 54, 3) := by decide +kernel
theorem dX5_tenths_16 : decode cX5_tenths 16 = .ok (.ifCond .ne 6, 3) := by decide +kernel
theorem dX5_tenths_19 : decode cX5_tenths 19 = .ok (.bipush (-2), 2) := by decide +kernel
theorem dX5_tenths_21 : decode cX5_tenths 21 = .ok (.ireturn, 1) := by decide +kernel
theorem dX5_tenths_22 : decode cX5_tenths 22 = .ok (.aload_n 0, 1) := by decide +kernel
theorem dX5_tenths_23 : decode cX5_tenths 23 = .ok (.getfield 28, 3) := by decide +kernel
theorem dX5_tenths_26 : decode cX5_tenths 26 = .ok (.iload_n 1, 1) := by decide +kernel
theorem dX5_tenths_27 : decode cX5_tenths 27 = .ok (.iaload, 1) := by decide +kernel
theorem dX5_tenths_28 : decode cX5_tenths 28 = .ok (.istore_n 3, 1) := by decide +kernel
theorem dX5_tenths_29 : decode cX5_tenths 29 = .ok (.aload_n 0, 1) := by decide +kernel
theorem dX5_tenths_30 : decode cX5_tenths 30 = .ok (.getfield 28, 3) := by decide +kernel
theorem dX5_tenths_33 : decode cX5_tenths 33 = .ok (.iload_n 1, 1) := by decide +kernel
theorem dX5_tenths_34 : decode cX5_tenths 34 = .ok (.iload_n 2, 1) := by decide +kernel
theorem dX5_tenths_35 : decode cX5_tenths 35 = .ok (.iastore, 1) := by decide +kernel
theorem dX5_tenths_36 : decode cX5_tenths 36 = .ok (.iload_n 3, 1) := by decide +kernel
theorem dX5_tenths_37 : decode cX5_tenths 37 = .ok (.ireturn, 1) := by decide +kernel
set_option maxRecDepth 20000 in
theorem ggX5_laySafe_X5_powerOf : GoodIn wsX5_laySafe wsX5_powerOf := goodIn_r _ [8] (by decide +kernel) (by decide +kernel)
set_option maxRecDepth 20000 in
theorem gX5_laySafe_X5_powerOf : GoodIn wsX5_laySafe (va_wsS RX5 109 yX5_powerOf wsX5_powerOf) := goodIn_app (goodIn_of _ (by decide +kernel)) ggX5_laySafe_X5_powerOf
set_option maxRecDepth 20000 in
theorem ggX5_laySafe_X5_plankOf : GoodIn wsX5_laySafe wsX5_plankOf := goodIn_r _ [12, 5, 6, 7, 8] (by decide +kernel) (by decide +kernel)
set_option maxRecDepth 20000 in
theorem gX5_laySafe_X5_plankOf : GoodIn wsX5_laySafe (wsV RX5 125 RX5 yX5_plankOf wsX5_plankOf) := goodIn_app (goodIn_of _ (by decide +kernel)) ggX5_laySafe_X5_plankOf
set_option maxRecDepth 20000 in
theorem ggX5_laySafe_X5_over : GoodIn wsX5_laySafe wsX5_over := goodIn_r _ [16, 17, 18, 19, 20, 21, 22, 23, 24, 25, 26, 27, 28, 29, 30, 31, 32, 33, 34, 35, 36, 37, 38, 39, 40] (by decide +kernel) (by decide +kernel)
set_option maxRecDepth 20000 in
theorem gX5_laySafe_X5_over : GoodIn wsX5_laySafe (wsV RX5 112 RX5 yX5_over wsX5_over) := goodIn_app (goodIn_of _ (by decide +kernel)) ggX5_laySafe_X5_over
theorem dX5_laySafe_0 : decode cX5_laySafe 0 = .ok (.bipush (-6), 2) := by decide +kernel
theorem dX5_laySafe_2 : decode cX5_laySafe 2 = .ok (.istore_n 3, 1) := by decide +kernel
theorem dX5_laySafe_3 : decode cX5_laySafe 3 = .ok (.iconst 0, 1) := by decide +kernel
theorem dX5_laySafe_4 : decode cX5_laySafe 4 = .ok (.istore 4, 2) := by decide +kernel
theorem dX5_laySafe_6 : decode cX5_laySafe 6 = .ok (.iload 4, 2) := by decide +kernel
theorem dX5_laySafe_8 : decode cX5_laySafe 8 = .ok (.bipush 6, 2) := by decide +kernel
theorem dX5_laySafe_10 : decode cX5_laySafe 10 = .ok (.if_icmp .ge 138, 3) := by decide +kernel
theorem dX5_laySafe_13 : decode cX5_laySafe 13 = .ok (.iconst 0, 1) := by decide +kernel
theorem dX5_laySafe_14 : decode cX5_laySafe 14 = .ok (.istore 5, 2) := by decide +kernel
theorem dX5_laySafe_16 : decode cX5_laySafe 16 = .ok (.iload 5, 2) := by decide +kernel
theorem dX5_laySafe_18 : decode cX5_laySafe 18 = .ok (.bipush 6, 2) := by decide +kernel
theorem dX5_laySafe_20 : decode cX5_laySafe 20 = .ok (.iload 4, 2) := by decide +kernel
theorem dX5_laySafe_22 : decode cX5_laySafe 22 = .ok (.invokestatic 109, 3) := by decide +kernel
theorem dX5_laySafe_25 : decode cX5_laySafe 25 = .ok (.if_icmp .ge 117, 3) := by decide +kernel
theorem dX5_laySafe_28 : decode cX5_laySafe 28 = .ok (.iload_n 1, 1) := by decide +kernel
theorem dX5_laySafe_29 : decode cX5_laySafe 29 = .ok (.istore 6, 2) := by decide +kernel
theorem dX5_laySafe_31 : decode cX5_laySafe 31 = .ok (.iconst 1, 1) := by decide +kernel
theorem dX5_laySafe_32 : decode cX5_laySafe 32 = .ok (.istore 7, 2) := by decide +kernel
theorem dX5_laySafe_34 : decode cX5_laySafe 34 = .ok (.iconst 0, 1) := by decide +kernel
theorem dX5_laySafe_35 : decode cX5_laySafe 35 = .ok (.istore 8, 2) := by decide +kernel
theorem dX5_laySafe_37 : decode cX5_laySafe 37 = .ok (.iload 8, 2) := by decide +kernel
theorem dX5_laySafe_39 : decode cX5_laySafe 39 = .ok (.iload 4, 2) := by decide +kernel
theorem dX5_laySafe_41 : decode cX5_laySafe 41 = .ok (.if_icmp .ge 48, 3) := by decide +kernel
theorem dX5_laySafe_44 : decode cX5_laySafe 44 = .ok (.iload 6, 2) := by decide +kernel
theorem dX5_laySafe_46 : decode cX5_laySafe 46 = .ok (.ifCond .lt 43, 3) := by decide +kernel
theorem dX5_laySafe_49 : decode cX5_laySafe 49 = .ok (.aload_n 0, 1) := by decide +kernel
theorem dX5_laySafe_50 : decode cX5_laySafe 50 = .ok (.iload 5, 2) := by decide +kernel
theorem dX5_laySafe_52 : decode cX5_laySafe 52 = .ok (.iload 4, 2) := by decide +kernel
theorem dX5_laySafe_54 : decode cX5_laySafe 54 = .ok (.iload 8, 2) := by decide +kernel
theorem dX5_laySafe_56 : decode cX5_laySafe 56 = .ok (.invokevirtual 125, 3) := by decide +kernel
theorem dX5_laySafe_59 : decode cX5_laySafe 59 = .ok (.istore 9, 2) := by decide +kernel
theorem dX5_laySafe_61 : decode cX5_laySafe 61 = .ok (.aload_n 0, 1) := by decide +kernel
theorem dX5_laySafe_62 : decode cX5_laySafe 62 = .ok (.iload 9, 2) := by decide +kernel
theorem dX5_laySafe_64 : decode cX5_laySafe 64 = .ok (.iload 6, 2) := by decide +kernel
theorem dX5_laySafe_66 : decode cX5_laySafe 66 = .ok (.invokevirtual 112, 3) := by decide +kernel
theorem dX5_laySafe_69 : decode cX5_laySafe 69 = .ok (.istore 6, 2) := by decide +kernel
theorem dX5_laySafe_71 : decode cX5_laySafe 71 = .ok (.iload 7, 2) := by decide +kernel
theorem dX5_laySafe_73 : decode cX5_laySafe 73 = .ok (.aload_n 0, 1) := by decide +kernel
theorem dX5_laySafe_74 : decode cX5_laySafe 74 = .ok (.getfield 28, 3) := by decide +kernel
theorem dX5_laySafe_77 : decode cX5_laySafe 77 = .ok (.iload 9, 2) := by decide +kernel
theorem dX5_laySafe_79 : decode cX5_laySafe 79 = .ok (.iaload, 1) := by decide +kernel
theorem dX5_laySafe_80 : decode cX5_laySafe 80 = .ok (.imul, 1) := by decide +kernel
theorem dX5_laySafe_81 : decode cX5_laySafe 81 = .ok (.istore 7, 2) := by decide +kernel
theorem dX5_laySafe_83 : decode cX5_laySafe 83 = .ok (.iinc 8 1, 3) := by decide +kernel
theorem dX5_laySafe_86 : decode cX5_laySafe 86 = .ok (.goto (-49), 3) := by decide +kernel
theorem dX5_laySafe_89 : decode cX5_laySafe 89 = .ok (.iload 7, 2) := by decide +kernel
theorem dX5_laySafe_91 : decode cX5_laySafe 91 = .ok (.bipush 10, 2) := by decide +kernel
theorem dX5_laySafe_93 : decode cX5_laySafe 93 = .ok (.iconst 5, 1) := by decide +kernel
theorem dX5_laySafe_94 : decode cX5_laySafe 94 = .ok (.iload 4, 2) := by decide +kernel
theorem dX5_laySafe_96 : decode cX5_laySafe 96 = .ok (.isub, 1) := by decide +kernel
theorem dX5_laySafe_97 : decode cX5_laySafe 97 = .ok (.invokestatic 109, 3) := by decide +kernel
theorem dX5_laySafe_100 : decode cX5_laySafe 100 = .ok (.imul, 1) := by decide +kernel
theorem dX5_laySafe_101 : decode cX5_laySafe 101 = .ok (.istore 8, 2) := by decide +kernel
theorem dX5_laySafe_103 : decode cX5_laySafe 103 = .ok (.iload 6, 2) := by decide +kernel
theorem dX5_laySafe_105 : decode cX5_laySafe 105 = .ok (.iload_n 2, 1) := by decide +kernel
theorem dX5_laySafe_106 : decode cX5_laySafe 106 = .ok (.if_icmp .ne 30, 3) := by decide +kernel
theorem dX5_laySafe_109 : decode cX5_laySafe 109 = .ok (.iload 8, 2) := by decide +kernel
theorem dX5_laySafe_111 : decode cX5_laySafe 111 = .ok (.iload_n 3, 1) := by decide +kernel
theorem dX5_laySafe_112 : decode cX5_laySafe 112 = .ok (.if_icmp .le 24, 3) := by decide +kernel
theorem dX5_laySafe_115 : decode cX5_laySafe 115 = .ok (.iload 8, 2) := by decide +kernel
theorem dX5_laySafe_117 : decode cX5_laySafe 117 = .ok (.istore_n 3, 1) := by decide +kernel
theorem dX5_laySafe_118 : decode cX5_laySafe 118 = .ok (.aload_n 0, 1) := by decide +kernel
theorem dX5_laySafe_119 : decode cX5_laySafe 119 = .ok (.iload 7, 2) := by decide +kernel
theorem dX5_laySafe_121 : decode cX5_laySafe 121 = .ok (.putfield 142, 3) := by decide +kernel
theorem dX5_laySafe_124 : decode cX5_laySafe 124 = .ok (.aload_n 0, 1) := by decide +kernel
theorem dX5_laySafe_125 : decode cX5_laySafe 125 = .ok (.iload 4, 2) := by decide +kernel
theorem dX5_laySafe_127 : decode cX5_laySafe 127 = .ok (.putfield 119, 3) := by decide +kernel
theorem dX5_laySafe_130 : decode cX5_laySafe 130 = .ok (.aload_n 0, 1) := by decide +kernel
theorem dX5_laySafe_131 : decode cX5_laySafe 131 = .ok (.iload 5, 2) := by decide +kernel
theorem dX5_laySafe_133 : decode cX5_laySafe 133 = .ok (.putfield 122, 3) := by decide +kernel
theorem dX5_laySafe_136 : decode cX5_laySafe 136 = .ok (.iinc 5 1, 3) := by decide +kernel
theorem dX5_laySafe_139 : decode cX5_laySafe 139 = .ok (.goto (-123), 3) := by decide +kernel
theorem dX5_laySafe_142 : decode cX5_laySafe 142 = .ok (.iinc 4 1, 3) := by decide +kernel
theorem dX5_laySafe_145 : decode cX5_laySafe 145 = .ok (.goto (-139), 3) := by decide +kernel
theorem dX5_laySafe_148 : decode cX5_laySafe 148 = .ok (.iload_n 3, 1) := by decide +kernel
theorem dX5_laySafe_149 : decode cX5_laySafe 149 = .ok (.ifCond .lt 7, 3) := by decide +kernel
theorem dX5_laySafe_152 : decode cX5_laySafe 152 = .ok (.iconst 1, 1) := by decide +kernel
theorem dX5_laySafe_153 : decode cX5_laySafe 153 = .ok (.goto 4, 3) := by decide +kernel
theorem dX5_laySafe_156 : decode cX5_laySafe 156 = .ok (.iconst 0, 1) := by decide +kernel
theorem dX5_laySafe_157 : decode cX5_laySafe 157 = .ok (.ireturn, 1) := by decide +kernel
set_option maxRecDepth 20000 in
theorem ggX5_safe_X5_is6 : GoodIn wsX5_safe wsX5_is6 := goodIn_r _ [6, 7, 8, 5, 9] (by decide +kernel) (by decide +kernel)
set_option maxRecDepth 20000 in
theorem gX5_safe_X5_is6 : GoodIn wsX5_safe (va_wsS RX5 58 yX5_is6 wsX5_is6) := goodIn_app (goodIn_of _ (by decide +kernel)) ggX5_safe_X5_is6
set_option maxRecDepth 20000 in
theorem ggX5_safe_X5_laySafe : GoodIn wsX5_safe wsX5_laySafe := goodIn_r _ [13, 14, 15, 1, 2, 16, 17, 5, 18, 19, 20, 21, 22, 23, 24, 25, 26, 27, 28, 29, 30, 31, 32, 33, 34, 35, 36, 37, 38, 39, 40, 41, 42, 43, 44, 45, 46, 47, 48, 49, 50] (by decide +kernel) (by decide +kernel)
set_option maxRecDepth 20000 in
theorem gX5_safe_X5_laySafe : GoodIn wsX5_safe (wsV RX5 145 RX5 yX5_laySafe wsX5_laySafe) := goodIn_app (goodIn_of _ (by decide +kernel)) ggX5_safe_X5_laySafe
set_option maxRecDepth 20000 in
theorem ggX5_safe_X5_in : GoodIn wsX5_safe wsX5_in := goodIn_r _ [9] (by decide +kernel) (by decide +kernel)
set_option maxRecDepth 20000 in
theorem gX5_safe_X5_in : GoodIn wsX5_safe (va_wsS RX5 54 yX5_in wsX5_in) := goodIn_app (goodIn_of _ (by decide +kernel)) ggX5_safe_X5_in
set_option maxRecDepth 20000 in
theorem ggX5_safe_X5_plankOf : GoodIn wsX5_safe wsX5_plankOf := goodIn_r _ [22, 16, 17, 5, 18] (by decide +kernel) (by decide +kernel)
set_option maxRecDepth 20000 in
theorem gX5_safe_X5_plankOf : GoodIn wsX5_safe (wsV RX5 125 RX5 yX5_plankOf wsX5_plankOf) := goodIn_app (goodIn_of _ (by decide +kernel)) ggX5_safe_X5_plankOf
theorem dX5_safe_0 : decode cX5_safe 0 = .ok (.iload_n 1, 1) := by decide +kernel
theorem dX5_safe_1 : decode cX5_safe 1 = .ok (.invokestatic 58, 3) := by decide +kernel
theorem dX5_safe_4 : decode cX5_safe 4 = .ok (.ifCond .eq 10, 3) := by decide +kernel
theorem dX5_safe_7 : decode cX5_safe 7 = .ok (.iload_n 2, 1) := by decide +kernel
theorem dX5_safe_8 : decode cX5_safe 8 = .ok (.invokestatic 58, 3) := by decide +kernel
theorem dX5_safe_11 : decode cX5_safe 11 = .ok (.ifCond .ne 5, 3) := by decide +kernel
theorem dX5_safe_14 : decode cX5_safe 14 = .ok (.iconst (-1), 1) := by decide +kernel
theorem dX5_safe_15 : decode cX5_safe 15 = .ok (.ireturn, 1) := by decide +kernel
theorem dX5_safe_16 : decode cX5_safe 16 = .ok (.aload_n 0, 1) := by decide +kernel
theorem dX5_safe_17 : decode cX5_safe 17 = .ok (.iload_n 1, 1) := by decide +kernel
theorem dX5_safe_18 : decode cX5_safe 18 = .ok (.iload_n 2, 1) := by decide +kernel
theorem dX5_safe_19 : decode cX5_safe 19 = .ok (.invokevirtual 145, 3) := by decide +kernel
theorem dX5_safe_22 : decode cX5_safe 22 = .ok (.ifCond .eq 33, 3) := by decide +kernel
theorem dX5_safe_25 : decode cX5_safe 25 = .ok (.iload_n 3, 1) := by decide +kernel
theorem dX5_safe_26 : decode cX5_safe 26 = .ok (.iconst 0, 1) := by decide +kernel
theorem dX5_safe_27 : decode cX5_safe 27 = .ok (.aload_n 0, 1) := by decide +kernel
theorem dX5_safe_28 : decode cX5_safe 28 = .ok (.getfield 119, 3) := by decide +kernel
theorem dX5_safe_31 : decode cX5_safe 31 = .ok (.iconst 1, 1) := by decide +kernel
theorem dX5_safe_32 : decode cX5_safe 32 = .ok (.isub, 1) := by decide +kernel
theorem dX5_safe_33 : decode cX5_safe 33 = .ok (.invokestatic 54, 3) := by decide +kernel
theorem dX5_safe_36 : decode cX5_safe 36 = .ok (.ifCond .eq 19, 3) := by decide +kernel
theorem dX5_safe_39 : decode cX5_safe 39 = .ok (.aload_n 0, 1) := by decide +kernel
theorem dX5_safe_40 : decode cX5_safe 40 = .ok (.aload_n 0, 1) := by decide +kernel
theorem dX5_safe_41 : decode cX5_safe 41 = .ok (.getfield 122, 3) := by decide +kernel
theorem dX5_safe_44 : decode cX5_safe 44 = .ok (.aload_n 0, 1) := by decide +kernel
theorem dX5_safe_45 : decode cX5_safe 45 = .ok (.getfield 119, 3) := by decide +kernel
theorem dX5_safe_48 : decode cX5_safe 48 = .ok (.iload_n 3, 1) := by decide +kernel
theorem dX5_safe_49 : decode cX5_safe 49 = .ok (.invokevirtual 125, 3) := by decide +kernel
theorem dX5_safe_52 : decode cX5_safe 52 = .ok (.goto 5, 3) := by decide +kernel
theorem dX5_safe_55 : decode cX5_safe 55 = .ok (.bipush (-6), 2) := by decide +kernel
theorem dX5_safe_57 : decode cX5_safe 57 = .ok (.ireturn, 1) := by decide +kernel
set_option maxRecDepth 20000 in
theorem ggX5_chance_X5_is6 : GoodIn wsX5_chance wsX5_is6 := goodIn_r _ [8, 9, 10, 7, 11] (by decide +kernel) (by decide +kernel)
set_option maxRecDepth 20000 in
theorem gX5_chance_X5_is6 : GoodIn wsX5_chance (va_wsS RX5 58 yX5_is6 wsX5_is6) := goodIn_app (goodIn_of _ (by decide +kernel)) ggX5_chance_X5_is6
set_option maxRecDepth 20000 in
theorem ggX5_chance_X5_in : GoodIn wsX5_chance wsX5_in := goodIn_r _ [11] (by decide +kernel) (by decide +kernel)
set_option maxRecDepth 20000 in
theorem gX5_chance_X5_in : GoodIn wsX5_chance (va_wsS RX5 54 yX5_in wsX5_in) := goodIn_app (goodIn_of _ (by decide +kernel)) ggX5_chance_X5_in
set_option maxRecDepth 20000 in
theorem ggX5_chance_X5_laySafe : GoodIn wsX5_chance wsX5_laySafe := goodIn_r _ [15, 16, 3, 4, 17, 18, 19, 7, 20, 21, 22, 23, 24, 25, 26, 27, 28, 29, 30, 31, 32, 33, 34, 35, 36, 37, 38, 39, 40, 41, 42, 43, 44, 45, 46, 47, 48, 49, 50, 51, 52] (by decide +kernel) (by decide +kernel)
set_option maxRecDepth 20000 in
theorem gX5_chance_X5_laySafe : GoodIn wsX5_chance (wsV RX5 145 RX5 yX5_laySafe wsX5_laySafe) := goodIn_app (goodIn_of _ (by decide +kernel)) ggX5_chance_X5_laySafe
set_option maxRecDepth 20000 in
theorem ggX5_chance_X5_powerOf : GoodIn wsX5_chance wsX5_powerOf := goodIn_r _ [20] (by decide +kernel) (by decide +kernel)
set_option maxRecDepth 20000 in
theorem gX5_chance_X5_powerOf : GoodIn wsX5_chance (va_wsS RX5 109 yX5_powerOf wsX5_powerOf) := goodIn_app (goodIn_of _ (by decide +kernel)) ggX5_chance_X5_powerOf
theorem dX5_chance_0 : decode cX5_chance 0 = .ok (.iload_n 1, 1) := by decide +kernel
theorem dX5_chance_1 : decode cX5_chance 1 = .ok (.invokestatic 58, 3) := by decide +kernel
theorem dX5_chance_4 : decode cX5_chance 4 = .ok (.ifCond .eq 10, 3) := by decide +kernel
theorem dX5_chance_7 : decode cX5_chance 7 = .ok (.iload_n 2, 1) := by decide +kernel
theorem dX5_chance_8 : decode cX5_chance 8 = .ok (.invokestatic 58, 3) := by decide +kernel
theorem dX5_chance_11 : decode cX5_chance 11 = .ok (.ifCond .ne 7, 3) := by decide +kernel
theorem dX5_chance_14 : decode cX5_chance 14 = .ok (.ldc2_w 148, 3) := by decide +kernel
theorem dX5_chance_17 : decode cX5_chance 17 = .ok (.lreturn, 1) := by decide +kernel
theorem dX5_chance_18 : decode cX5_chance 18 = .ok (.iload_n 3, 1) := by decide +kernel
theorem dX5_chance_19 : decode cX5_chance 19 = .ok (.iconst 0, 1) := by decide +kernel
theorem dX5_chance_20 : decode cX5_chance 20 = .ok (.iconst 1, 1) := by decide +kernel
theorem dX5_chance_21 : decode cX5_chance 21 = .ok (.invokestatic 54, 3) := by decide +kernel
theorem dX5_chance_24 : decode cX5_chance 24 = .ok (.ifCond .ne 7, 3) := by decide +kernel
theorem dX5_chance_27 : decode cX5_chance 27 = .ok (.ldc2_w 150, 3) := by decide +kernel
theorem dX5_chance_30 : decode cX5_chance 30 = .ok (.lreturn, 1) := by decide +kernel
theorem dX5_chance_31 : decode cX5_chance 31 = .ok (.aload_n 0, 1) := by decide +kernel
theorem dX5_chance_32 : decode cX5_chance 32 = .ok (.iload_n 1, 1) := by decide +kernel
theorem dX5_chance_33 : decode cX5_chance 33 = .ok (.iload_n 2, 1) := by decide +kernel
theorem dX5_chance_34 : decode cX5_chance 34 = .ok (.invokevirtual 145, 3) := by decide +kernel
theorem dX5_chance_37 : decode cX5_chance 37 = .ok (.istore 4, 2) := by decide +kernel
theorem dX5_chance_39 : decode cX5_chance 39 = .ok (.iload 4, 2) := by decide +kernel
theorem dX5_chance_41 : decode cX5_chance 41 = .ok (.ifCond .eq 10, 3) := by decide +kernel
theorem dX5_chance_44 : decode cX5_chance 44 = .ok (.aload_n 0, 1) := by decide +kernel
theorem dX5_chance_45 : decode cX5_chance 45 = .ok (.getfield 142, 3) := by decide +kernel
theorem dX5_chance_48 : decode cX5_chance 48 = .ok (.goto 4, 3) := by decide +kernel
theorem dX5_chance_51 : decode cX5_chance 51 = .ok (.iconst 0, 1) := by decide +kernel
theorem dX5_chance_52 : decode cX5_chance 52 = .ok (.istore 5, 2) := by decide +kernel
theorem dX5_chance_54 : decode cX5_chance 54 = .ok (.iload 4, 2) := by decide +kernel
theorem dX5_chance_56 : decode cX5_chance 56 = .ok (.ifCond .eq 15, 3) := by decide +kernel
theorem dX5_chance_59 : decode cX5_chance 59 = .ok (.bipush 10, 2) := by decide +kernel
theorem dX5_chance_61 : decode cX5_chance 61 = .ok (.aload_n 0, 1) := by decide +kernel
theorem dX5_chance_62 : decode cX5_chance 62 = .ok (.getfield 119, 3) := by decide +kernel
theorem dX5_chance_65 : decode cX5_chance 65 = .ok (.invokestatic 109, 3) := by decide +kernel
theorem dX5_chance_68 : decode cX5_chance 68 = .ok (.goto 4, 3) := by decide +kernel
theorem dX5_chance_71 : decode cX5_chance 71 = .ok (.iconst 1, 1) := by decide +kernel
theorem dX5_chance_72 : decode cX5_chance 72 = .ok (.istore 6, 2) := by decide +kernel
theorem dX5_chance_74 : decode cX5_chance 74 = .ok (.iload 5, 2) := by decide +kernel
theorem dX5_chance_76 : decode cX5_chance 76 = .ok (.istore 7, 2) := by decide +kernel
theorem dX5_chance_78 : decode cX5_chance 78 = .ok (.iload 6, 2) := by decide +kernel
theorem dX5_chance_80 : decode cX5_chance 80 = .ok (.istore 8, 2) := by decide +kernel
theorem dX5_chance_82 : decode cX5_chance 82 = .ok (.iload 8, 2) := by decide +kernel
theorem dX5_chance_84 : decode cX5_chance 84 = .ok (.ifCond .eq 21, 3) := by decide +kernel
theorem dX5_chance_87 : decode cX5_chance 87 = .ok (.iload 7, 2) := by decide +kernel
theorem dX5_chance_89 : decode cX5_chance 89 = .ok (.iload 8, 2) := by decide +kernel
theorem dX5_chance_91 : decode cX5_chance 91 = .ok (.irem, 1) := by decide +kernel
theorem dX5_chance_92 : decode cX5_chance 92 = .ok (.istore 9, 2) := by decide +kernel
theorem dX5_chance_94 : decode cX5_chance 94 = .ok (.iload 8, 2) := by decide +kernel
theorem dX5_chance_96 : decode cX5_chance 96 = .ok (.istore 7, 2) := by decide +kernel
theorem dX5_chance_98 : decode cX5_chance 98 = .ok (.iload 9, 2) := by decide +kernel
theorem dX5_chance_100 : decode cX5_chance 100 = .ok (.istore 8, 2) := by decide +kernel
theorem dX5_chance_102 : decode cX5_chance 102 = .ok (.goto (-20), 3) := by decide +kernel
theorem dX5_chance_105 : decode cX5_chance 105 = .ok (.iload_n 3, 1) := by decide +kernel
theorem dX5_chance_106 : decode cX5_chance 106 = .ok (.ifCond .ne 12, 3) := by decide +kernel
theorem dX5_chance_109 : decode cX5_chance 109 = .ok (.iload 5, 2) := by decide +kernel
theorem dX5_chance_111 : decode cX5_chance 111 = .ok (.iload 7, 2) := by decide +kernel
theorem dX5_chance_113 : decode cX5_chance 113 = .ok (.idiv, 1) := by decide +kernel
theorem dX5_chance_114 : decode cX5_chance 114 = .ok (.i2l, 1) := by decide +kernel
theorem dX5_chance_115 : decode cX5_chance 115 = .ok (.goto 9, 3) := by decide +kernel
theorem dX5_chance_118 : decode cX5_chance 118 = .ok (.iload 6, 2) := by decide +kernel
theorem dX5_chance_120 : decode cX5_chance 120 = .ok (.iload 7, 2) := by decide +kernel
theorem dX5_chance_122 : decode cX5_chance 122 = .ok (.idiv, 1) := by decide +kernel
theorem dX5_chance_123 : decode cX5_chance 123 = .ok (.i2l, 1) := by decide +kernel
theorem dX5_chance_124 : decode cX5_chance 124 = .ok (.lreturn, 1) := by decide +kernel
set_option maxRecDepth 20000 in
theorem ggX5_seen_X5_is6 : GoodIn wsX5_seen wsX5_is6 := goodIn_r _ [6, 7, 8, 5, 9] (by decide +kernel) (by decide +kernel)
set_option maxRecDepth 20000 in
theorem gX5_seen_X5_is6 : GoodIn wsX5_seen (va_wsS RX5 58 yX5_is6 wsX5_is6) := goodIn_app (goodIn_of _ (by decide +kernel)) ggX5_seen_X5_is6
set_option maxRecDepth 20000 in
theorem ggX5_seen_X5_in : GoodIn wsX5_seen wsX5_in := goodIn_r _ [9] (by decide +kernel) (by decide +kernel)
set_option maxRecDepth 20000 in
theorem gX5_seen_X5_in : GoodIn wsX5_seen (va_wsS RX5 54 yX5_in wsX5_in) := goodIn_app (goodIn_of _ (by decide +kernel)) ggX5_seen_X5_in
theorem dX5_seen_0 : decode cX5_seen 0 = .ok (.iload_n 1, 1) := by decide +kernel
theorem dX5_seen_1 : decode cX5_seen 1 = .ok (.invokestatic 58, 3) := by decide +kernel
theorem dX5_seen_4 : decode cX5_seen 4 = .ok (.ifCond .ne 5, 3) := by decide +kernel
theorem dX5_seen_7 : decode cX5_seen 7 = .ok (.iconst (-1), 1) := by decide +kernel
theorem dX5_seen_8 : decode cX5_seen 8 = .ok (.ireturn, 1) := by decide +kernel
theorem dX5_seen_9 : decode cX5_seen 9 = .ok (.iload_n 2, 1) := by decide +kernel
theorem dX5_seen_10 : decode cX5_seen 10 = .ok (.iconst 0, 1) := by decide +kernel
theorem dX5_seen_11 : decode cX5_seen 11 = .ok (.bipush 6, 2) := by decide +kernel
theorem dX5_seen_13 : decode cX5_seen 13 = .ok (.invokestatic 54, 3) := by decide +kernel
theorem dX5_seen_16 : decode cX5_seen 16 = .ok (.ifCond .ne 6, 3) := by decide +kernel
theorem dX5_seen_19 : decode cX5_seen 19 = .ok (.bipush (-2), 2) := by decide +kernel
theorem dX5_seen_21 : decode cX5_seen 21 = .ok (.ireturn, 1) := by decide +kernel
theorem dX5_seen_22 : decode cX5_seen 22 = .ok (.aload_n 0, 1) := by decide +kernel
theorem dX5_seen_23 : decode cX5_seen 23 = .ok (.getfield 152, 3) := by decide +kernel
theorem dX5_seen_26 : decode cX5_seen 26 = .ok (.bipush 6, 2) := by decide +kernel
theorem dX5_seen_28 : decode cX5_seen 28 = .ok (.if_icmp .ne 6, 3) := by decide +kernel
theorem dX5_seen_31 : decode cX5_seen 31 = .ok (.bipush (-4), 2) := by decide +kernel
theorem dX5_seen_33 : decode cX5_seen 33 = .ok (.ireturn, 1) := by decide +kernel
theorem dX5_seen_34 : decode cX5_seen 34 = .ok (.aload_n 0, 1) := by decide +kernel
theorem dX5_seen_35 : decode cX5_seen 35 = .ok (.getfield 35, 3) := by decide +kernel
theorem dX5_seen_38 : decode cX5_seen 38 = .ok (.iconst 2, 1) := by decide +kernel
theorem dX5_seen_39 : decode cX5_seen 39 = .ok (.aload_n 0, 1) := by decide +kernel
theorem dX5_seen_40 : decode cX5_seen 40 = .ok (.getfield 152, 3) := by decide +kernel
theorem dX5_seen_43 : decode cX5_seen 43 = .ok (.imul, 1) := by decide +kernel
theorem dX5_seen_44 : decode cX5_seen 44 = .ok (.iload_n 1, 1) := by decide +kernel
theorem dX5_seen_45 : decode cX5_seen 45 = .ok (.iastore, 1) := by decide +kernel
theorem dX5_seen_46 : decode cX5_seen 46 = .ok (.aload_n 0, 1) := by decide +kernel
theorem dX5_seen_47 : decode cX5_seen 47 = .ok (.getfield 35, 3) := by decide +kernel
theorem dX5_seen_50 : decode cX5_seen 50 = .ok (.iconst 2, 1) := by decide +kernel
theorem dX5_seen_51 : decode cX5_seen 51 = .ok (.aload_n 0, 1) := by decide +kernel
theorem dX5_seen_52 : decode cX5_seen 52 = .ok (.getfield 152, 3) := by decide +kernel
theorem dX5_seen_55 : decode cX5_seen 55 = .ok (.imul, 1) := by decide +kernel
theorem dX5_seen_56 : decode cX5_seen 56 = .ok (.iconst 1, 1) := by decide +kernel
theorem dX5_seen_57 : decode cX5_seen 57 = .ok (.iadd, 1) := by decide +kernel
theorem dX5_seen_58 : decode cX5_seen 58 = .ok (.iload_n 2, 1) := by decide +kernel
theorem dX5_seen_59 : decode cX5_seen 59 = .ok (.iastore, 1) := by decide +kernel
theorem dX5_seen_60 : decode cX5_seen 60 = .ok (.aload_n 0, 1) := by decide +kernel
theorem dX5_seen_61 : decode cX5_seen 61 = .ok (.dup, 1) := by decide +kernel
theorem dX5_seen_62 : decode cX5_seen 62 = .ok (.getfield 152, 3) := by decide +kernel
theorem dX5_seen_65 : decode cX5_seen 65 = .ok (.iconst 1, 1) := by decide +kernel
theorem dX5_seen_66 : decode cX5_seen 66 = .ok (.iadd, 1) := by decide +kernel
theorem dX5_seen_67 : decode cX5_seen 67 = .ok (.putfield 152, 3) := by decide +kernel
theorem dX5_seen_70 : decode cX5_seen 70 = .ok (.aload_n 0, 1) := by decide +kernel
theorem dX5_seen_71 : decode cX5_seen 71 = .ok (.getfield 152, 3) := by decide +kernel
theorem dX5_seen_74 : decode cX5_seen 74 = .ok (.ireturn, 1) := by decide +kernel
theorem dX5_forget_0 : decode cX5_forget 0 = .ok (.aload_n 0, 1) := by decide +kernel
theorem dX5_forget_1 : decode cX5_forget 1 = .ok (.getfield 152, 3) := by decide +kernel
theorem dX5_forget_4 : decode cX5_forget 4 = .ok (.istore_n 1, 1) := by decide +kernel
theorem dX5_forget_5 : decode cX5_forget 5 = .ok (.aload_n 0, 1) := by decide +kernel
theorem dX5_forget_6 : decode cX5_forget 6 = .ok (.iconst 0, 1) := by decide +kernel
theorem dX5_forget_7 : decode cX5_forget 7 = .ok (.putfield 152, 3) := by decide +kernel
theorem dX5_forget_10 : decode cX5_forget 10 = .ok (.iload_n 1, 1) := by decide +kernel
theorem dX5_forget_11 : decode cX5_forget 11 = .ok (.ireturn, 1) := by decide +kernel
set_option maxRecDepth 20000 in
theorem ggX5_filled_X5_faultOf : GoodIn wsX5_filled wsX5_faultOf := goodIn_r _ [7, 8, 9, 10, 11, 6, 12, 55, 56, 57, 58, 59, 60, 61, 62, 63, 64, 65, 66, 67, 68, 69, 70, 71, 72, 73, 74, 75, 76] (by decide +kernel) (by decide +kernel)
set_option maxRecDepth 20000 in
theorem gX5_filled_X5_faultOf : GoodIn wsX5_filled (wsV RX5 65 RX5 yX5_faultOf wsX5_faultOf) := goodIn_app (goodIn_of _ (by decide +kernel)) ggX5_filled_X5_faultOf
set_option maxRecDepth 20000 in
theorem ggX5_filled_X5_opens : GoodIn wsX5_filled wsX5_opens := goodIn_r _ [16, 8, 9, 55, 56, 57, 58, 59, 60, 61, 62, 63, 64, 65, 66, 67, 68, 69, 70, 71, 72, 73, 74, 75, 76] (by decide +kernel) (by decide +kernel)
set_option maxRecDepth 20000 in
theorem gX5_filled_X5_opens : GoodIn wsX5_filled (wsV RX5 76 RX5 yX5_opens wsX5_opens) := goodIn_app (goodIn_of _ (by decide +kernel)) ggX5_filled_X5_opens
set_option maxRecDepth 20000 in
theorem ggX5_filled_X5_powerOf : GoodIn wsX5_filled wsX5_powerOf := goodIn_r _ [19] (by decide +kernel) (by decide +kernel)
set_option maxRecDepth 20000 in
theorem gX5_filled_X5_powerOf : GoodIn wsX5_filled (va_wsS RX5 109 yX5_powerOf wsX5_powerOf) := goodIn_app (goodIn_of _ (by decide +kernel)) ggX5_filled_X5_powerOf
set_option maxRecDepth 20000 in
theorem ggX5_filled_X5_goText : GoodIn wsX5_filled wsX5_goText := goodIn_r _ [23, 24, 25, 8, 9, 26, 27, 28, 6, 29, 30, 31, 13, 14, 15, 16, 32, 33, 34, 35, 36, 37, 38, 39, 40, 41, 42, 43, 44, 45, 46, 47, 48, 49, 50, 55, 56, 57, 58, 59, 60, 61, 62, 63, 64, 65, 66, 67, 68, 69, 70, 71, 72, 73, 74, 75, 76] (by decide +kernel) (by decide +kernel)
set_option maxRecDepth 20000 in
theorem gX5_filled_X5_goText : GoodIn wsX5_filled (wsV RX5 97 RX5 yX5_goText wsX5_goText) := goodIn_app (goodIn_of _ (by decide +kernel)) ggX5_filled_X5_goText
set_option maxRecDepth 20000 in
theorem ggX5_filled_X5_bornBy : GoodIn wsX5_filled wsX5_bornBy := goodIn_r _ [54, 30, 55, 56, 57, 58, 59, 60, 61, 62, 63, 64, 65, 66, 67, 68, 69, 70, 71, 72, 73, 74, 75, 76] (by decide +kernel) (by decide +kernel)
set_option maxRecDepth 20000 in
theorem gX5_filled_X5_bornBy : GoodIn wsX5_filled (wsV RX5 101 RX5 yX5_bornBy wsX5_bornBy) := goodIn_app (goodIn_of _ (by decide +kernel)) ggX5_filled_X5_bornBy
set_option maxRecDepth 20000 in
theorem ggX5_filled_X5_in : GoodIn wsX5_filled wsX5_in := goodIn_r _ [12] (by decide +kernel) (by decide +kernel)
set_option maxRecDepth 20000 in
theorem gX5_filled_X5_in : GoodIn wsX5_filled (va_wsS RX5 54 yX5_in wsX5_in) := goodIn_app (goodIn_of _ (by decide +kernel)) ggX5_filled_X5_in
theorem dX5_filled_0 : decode cX5_filled 0 = .ok (.aload_n 0, 1) := by decide +kernel
theorem dX5_filled_1 : decode cX5_filled 1 = .ok (.invokevirtual 65, 3) := by decide +kernel
theorem dX5_filled_4 : decode cX5_filled 4 = .ok (.ifCond .lt 6, 3) := by decide +kernel
theorem dX5_filled_7 : decode cX5_filled 7 = .ok (.bipush (-5), 2) := by decide +kernel
theorem dX5_filled_9 : decode cX5_filled 9 = .ok (.ireturn, 1) := by decide +kernel
theorem dX5_filled_10 : decode cX5_filled 10 = .ok (.bipush 6, 2) := by decide +kernel
theorem dX5_filled_12 : decode cX5_filled 12 = .ok (.aload_n 0, 1) := by decide +kernel
theorem dX5_filled_13 : decode cX5_filled 13 = .ok (.invokevirtual 76, 3) := by decide +kernel
theorem dX5_filled_16 : decode cX5_filled 16 = .ok (.invokestatic 109, 3) := by decide +kernel
theorem dX5_filled_19 : decode cX5_filled 19 = .ok (.istore_n 2, 1) := by decide +kernel
theorem dX5_filled_20 : decode cX5_filled 20 = .ok (.iconst 0, 1) := by decide +kernel
theorem dX5_filled_21 : decode cX5_filled 21 = .ok (.istore_n 3, 1) := by decide +kernel
theorem dX5_filled_22 : decode cX5_filled 22 = .ok (.bipush (-6), 2) := by decide +kernel
theorem dX5_filled_24 : decode cX5_filled 24 = .ok (.istore 4, 2) := by decide +kernel
theorem dX5_filled_26 : decode cX5_filled 26 = .ok (.iconst 0, 1) := by decide +kernel
theorem dX5_filled_27 : decode cX5_filled 27 = .ok (.istore 5, 2) := by decide +kernel
theorem dX5_filled_29 : decode cX5_filled 29 = .ok (.iload 5, 2) := by decide +kernel
theorem dX5_filled_31 : decode cX5_filled 31 = .ok (.iload_n 2, 1) := by decide +kernel
theorem dX5_filled_32 : decode cX5_filled 32 = .ok (.if_icmp .ge 106, 3) := by decide +kernel
theorem dX5_filled_35 : decode cX5_filled 35 = .ok (.aload_n 0, 1) := by decide +kernel
theorem dX5_filled_36 : decode cX5_filled 36 = .ok (.iload 5, 2) := by decide +kernel
theorem dX5_filled_38 : decode cX5_filled 38 = .ok (.bipush (-6), 2) := by decide +kernel
theorem dX5_filled_40 : decode cX5_filled 40 = .ok (.invokevirtual 97, 3) := by decide +kernel
theorem dX5_filled_43 : decode cX5_filled 43 = .ok (.ifCond .ne 7, 3) := by decide +kernel
theorem dX5_filled_46 : decode cX5_filled 46 = .ok (.iconst 1, 1) := by decide +kernel
theorem dX5_filled_47 : decode cX5_filled 47 = .ok (.goto 4, 3) := by decide +kernel
theorem dX5_filled_50 : decode cX5_filled 50 = .ok (.iconst 0, 1) := by decide +kernel
theorem dX5_filled_51 : decode cX5_filled 51 = .ok (.istore 6, 2) := by decide +kernel
theorem dX5_filled_53 : decode cX5_filled 53 = .ok (.iconst 0, 1) := by decide +kernel
theorem dX5_filled_54 : decode cX5_filled 54 = .ok (.istore 7, 2) := by decide +kernel
theorem dX5_filled_56 : decode cX5_filled 56 = .ok (.iload 7, 2) := by decide +kernel
theorem dX5_filled_58 : decode cX5_filled 58 = .ok (.aload_n 0, 1) := by decide +kernel
theorem dX5_filled_59 : decode cX5_filled 59 = .ok (.getfield 152, 3) := by decide +kernel
theorem dX5_filled_62 : decode cX5_filled 62 = .ok (.if_icmp .ge 48, 3) := by decide +kernel
theorem dX5_filled_65 : decode cX5_filled 65 = .ok (.iload 6, 2) := by decide +kernel
theorem dX5_filled_67 : decode cX5_filled 67 = .ok (.ifCond .eq 43, 3) := by decide +kernel
theorem dX5_filled_70 : decode cX5_filled 70 = .ok (.aload_n 0, 1) := by decide +kernel
theorem dX5_filled_71 : decode cX5_filled 71 = .ok (.aload_n 0, 1) := by decide +kernel
theorem dX5_filled_72 : decode cX5_filled 72 = .ok (.getfield 35, 3) := by decide +kernel
theorem dX5_filled_75 : decode cX5_filled 75 = .ok (.iconst 2, 1) := by decide +kernel
theorem dX5_filled_76 : decode cX5_filled 76 = .ok (.iload 7, 2) := by decide +kernel
theorem dX5_filled_78 : decode cX5_filled 78 = .ok (.imul, 1) := by decide +kernel
theorem dX5_filled_79 : decode cX5_filled 79 = .ok (.iaload, 1) := by decide +kernel
theorem dX5_filled_80 : decode cX5_filled 80 = .ok (.invokevirtual 101, 3) := by decide +kernel
theorem dX5_filled_83 : decode cX5_filled 83 = .ok (.aload_n 0, 1) := by decide +kernel
theorem dX5_filled_84 : decode cX5_filled 84 = .ok (.getfield 35, 3) := by decide +kernel
theorem dX5_filled_87 : decode cX5_filled 87 = .ok (.iconst 2, 1) := by decide +kernel
theorem dX5_filled_88 : decode cX5_filled 88 = .ok (.iload 7, 2) := by decide +kernel
theorem dX5_filled_90 : decode cX5_filled 90 = .ok (.imul, 1) := by decide +kernel
theorem dX5_filled_91 : decode cX5_filled 91 = .ok (.iconst 1, 1) := by decide +kernel
theorem dX5_filled_92 : decode cX5_filled 92 = .ok (.iadd, 1) := by decide +kernel
theorem dX5_filled_93 : decode cX5_filled 93 = .ok (.iaload, 1) := by decide +kernel
theorem dX5_filled_94 : decode cX5_filled 94 = .ok (.if_icmp .ne 7, 3) := by decide +kernel
theorem dX5_filled_97 : decode cX5_filled 97 = .ok (.iconst 1, 1) := by decide +kernel
theorem dX5_filled_98 : decode cX5_filled 98 = .ok (.goto 4, 3) := by decide +kernel
theorem dX5_filled_101 : decode cX5_filled 101 = .ok (.iconst 0, 1) := by decide +kernel
theorem dX5_filled_102 : decode cX5_filled 102 = .ok (.istore 6, 2) := by decide +kernel
theorem dX5_filled_104 : decode cX5_filled 104 = .ok (.iinc 7 1, 3) := by decide +kernel
theorem dX5_filled_107 : decode cX5_filled 107 = .ok (.goto (-51), 3) := by decide +kernel
theorem dX5_filled_110 : decode cX5_filled 110 = .ok (.iload 6, 2) := by decide +kernel
theorem dX5_filled_112 : decode cX5_filled 112 = .ok (.ifCond .eq 20, 3) := by decide +kernel
theorem dX5_filled_115 : decode cX5_filled 115 = .ok (.iload 4, 2) := by decide +kernel
theorem dX5_filled_117 : decode cX5_filled 117 = .ok (.ifCond .ge 8, 3) := by decide +kernel
theorem dX5_filled_120 : decode cX5_filled 120 = .ok (.iload 5, 2) := by decide +kernel
theorem dX5_filled_122 : decode cX5_filled 122 = .ok (.goto 5, 3) := by decide +kernel
theorem dX5_filled_125 : decode cX5_filled 125 = .ok (.iload 4, 2) := by decide +kernel
theorem dX5_filled_127 : decode cX5_filled 127 = .ok (.istore 4, 2) := by decide +kernel
theorem dX5_filled_129 : decode cX5_filled 129 = .ok (.iinc 3 1, 3) := by decide +kernel
theorem dX5_filled_132 : decode cX5_filled 132 = .ok (.iinc 5 1, 3) := by decide +kernel
theorem dX5_filled_135 : decode cX5_filled 135 = .ok (.goto (-106), 3) := by decide +kernel
theorem dX5_filled_138 : decode cX5_filled 138 = .ok (.iload_n 1, 1) := by decide +kernel
theorem dX5_filled_139 : decode cX5_filled 139 = .ok (.iconst (-1), 1) := by decide +kernel
theorem dX5_filled_140 : decode cX5_filled 140 = .ok (.if_icmp .ne 5, 3) := by decide +kernel
theorem dX5_filled_143 : decode cX5_filled 143 = .ok (.iload_n 3, 1) := by decide +kernel
theorem dX5_filled_144 : decode cX5_filled 144 = .ok (.ireturn, 1) := by decide +kernel
theorem dX5_filled_145 : decode cX5_filled 145 = .ok (.iload 4, 2) := by decide +kernel
theorem dX5_filled_147 : decode cX5_filled 147 = .ok (.ifCond .lt 39, 3) := by decide +kernel
theorem dX5_filled_150 : decode cX5_filled 150 = .ok (.iload_n 1, 1) := by decide +kernel
theorem dX5_filled_151 : decode cX5_filled 151 = .ok (.iconst 0, 1) := by decide +kernel
theorem dX5_filled_152 : decode cX5_filled 152 = .ok (.aload_n 0, 1) := by decide +kernel
theorem dX5_filled_153 : decode cX5_filled 153 = .ok (.invokevirtual 76, 3) := by decide +kernel
theorem dX5_filled_156 : decode cX5_filled 156 = .ok (.iconst 1, 1) := by decide +kernel
theorem dX5_filled_157 : decode cX5_filled 157 = .ok (.isub, 1) := by decide +kernel
theorem dX5_filled_158 : decode cX5_filled 158 = .ok (.invokestatic 54, 3) := by decide +kernel
theorem dX5_filled_161 : decode cX5_filled 161 = .ok (.ifCond .eq 25, 3) := by decide +kernel
theorem dX5_filled_164 : decode cX5_filled 164 = .ok (.iload 4, 2) := by decide +kernel
theorem dX5_filled_166 : decode cX5_filled 166 = .ok (.bipush 6, 2) := by decide +kernel
theorem dX5_filled_168 : decode cX5_filled 168 = .ok (.aload_n 0, 1) := by decide +kernel
theorem dX5_filled_169 : decode cX5_filled 169 = .ok (.invokevirtual 76, 3) := by decide +kernel
theorem dX5_filled_172 : decode cX5_filled 172 = .ok (.iconst 1, 1) := by decide +kernel
theorem dX5_filled_173 : decode cX5_filled 173 = .ok (.isub, 1) := by decide +kernel
theorem dX5_filled_174 : decode cX5_filled 174 = .ok (.iload_n 1, 1) := by decide +kernel
theorem dX5_filled_175 : decode cX5_filled 175 = .ok (.isub, 1) := by decide +kernel
theorem dX5_filled_176 : decode cX5_filled 176 = .ok (.invokestatic 109, 3) := by decide +kernel
theorem dX5_filled_179 : decode cX5_filled 179 = .ok (.idiv, 1) := by decide +kernel
theorem dX5_filled_180 : decode cX5_filled 180 = .ok (.bipush 6, 2) := by decide +kernel
theorem dX5_filled_182 : decode cX5_filled 182 = .ok (.irem, 1) := by decide +kernel
theorem dX5_filled_183 : decode cX5_filled 183 = .ok (.goto 5, 3) := by decide +kernel
theorem dX5_filled_186 : decode cX5_filled 186 = .ok (.bipush (-6), 2) := by decide +kernel
theorem dX5_filled_188 : decode cX5_filled 188 = .ok (.ireturn, 1) := by decide +kernel
set_option maxRecDepth 20000 in
theorem ggX5_year_X5_in : GoodIn wsX5_year wsX5_in := goodIn_r _ [5] (by decide +kernel) (by decide +kernel)
set_option maxRecDepth 20000 in
theorem gX5_year_X5_in : GoodIn wsX5_year (va_wsS RX5 54 yX5_in wsX5_in) := goodIn_app (goodIn_of _ (by decide +kernel)) ggX5_year_X5_in
set_option maxRecDepth 20000 in
theorem ggX5_year_X5_asNow : GoodIn wsX5_year wsX5_asNow := goodIn_r _ [9, 10, 11, 31, 32, 33, 34, 35, 36, 37, 38, 39, 40, 41, 42, 43, 44, 45, 46, 47, 48, 49, 50, 51, 52] (by decide +kernel) (by decide +kernel)
set_option maxRecDepth 20000 in
theorem gX5_year_X5_asNow : GoodIn wsX5_year (wsV RX5 73 RX5 yX5_asNow wsX5_asNow) := goodIn_app (goodIn_of _ (by decide +kernel)) ggX5_year_X5_asNow
set_option maxRecDepth 20000 in
theorem ggX5_year_X5_tells : GoodIn wsX5_year wsX5_tells := goodIn_r _ [15, 16, 10, 17, 18, 19, 20, 21, 4, 22, 31, 32, 33, 34, 35, 36, 37, 38, 39, 40, 41, 42, 43, 44, 45, 46, 47, 48, 49, 50, 51, 52] (by decide +kernel) (by decide +kernel)
set_option maxRecDepth 20000 in
theorem gX5_year_X5_tells : GoodIn wsX5_year (wsV RX5 91 RX5 yX5_tells wsX5_tells) := goodIn_app (goodIn_of _ (by decide +kernel)) ggX5_year_X5_tells
set_option maxRecDepth 20000 in
theorem ggX5_year_X5_pass : GoodIn wsX5_year wsX5_pass := goodIn_r _ [26, 10, 31, 32, 33, 34, 35, 36, 37, 38, 39, 40, 41, 42, 43, 44, 45, 46, 47, 48, 49, 50, 51, 52] (by decide +kernel) (by decide +kernel)
set_option maxRecDepth 20000 in
theorem gX5_year_X5_pass : GoodIn wsX5_year (wsV RX5 85 RX5 yX5_pass wsX5_pass) := goodIn_app (goodIn_of _ (by decide +kernel)) ggX5_year_X5_pass
set_option maxRecDepth 20000 in
theorem ggX5_year_X5_bornBy : GoodIn wsX5_year wsX5_bornBy := goodIn_r _ [30, 10, 31, 32, 33, 34, 35, 36, 37, 38, 39, 40, 41, 42, 43, 44, 45, 46, 47, 48, 49, 50, 51, 52] (by decide +kernel) (by decide +kernel)
set_option maxRecDepth 20000 in
theorem gX5_year_X5_bornBy : GoodIn wsX5_year (wsV RX5 101 RX5 yX5_bornBy wsX5_bornBy) := goodIn_app (goodIn_of _ (by decide +kernel)) ggX5_year_X5_bornBy
theorem dX5_year_0 : decode cX5_year 0 = .ok (.iload_n 3, 1) := by decide +kernel
theorem dX5_year_1 : decode cX5_year 1 = .ok (.iconst (-1), 1) := by decide +kernel
theorem dX5_year_2 : decode cX5_year 2 = .ok (.iconst 5, 1) := by decide +kernel
theorem dX5_year_3 : decode cX5_year 3 = .ok (.invokestatic 54, 3) := by decide +kernel
theorem dX5_year_6 : decode cX5_year 6 = .ok (.ifCond .ne 5, 3) := by decide +kernel
theorem dX5_year_9 : decode cX5_year 9 = .ok (.iconst (-1), 1) := by decide +kernel
theorem dX5_year_10 : decode cX5_year 10 = .ok (.ireturn, 1) := by decide +kernel
theorem dX5_year_11 : decode cX5_year 11 = .ok (.iload_n 1, 1) := by decide +kernel
theorem dX5_year_12 : decode cX5_year 12 = .ok (.iconst 0, 1) := by decide +kernel
theorem dX5_year_13 : decode cX5_year 13 = .ok (.sipush 9999, 3) := by decide +kernel
theorem dX5_year_16 : decode cX5_year 16 = .ok (.invokestatic 54, 3) := by decide +kernel
theorem dX5_year_19 : decode cX5_year 19 = .ok (.ifCond .eq 13, 3) := by decide +kernel
theorem dX5_year_22 : decode cX5_year 22 = .ok (.iload_n 2, 1) := by decide +kernel
theorem dX5_year_23 : decode cX5_year 23 = .ok (.iconst 1, 1) := by decide +kernel
theorem dX5_year_24 : decode cX5_year 24 = .ok (.bipush 99, 2) := by decide +kernel
theorem dX5_year_26 : decode cX5_year 26 = .ok (.invokestatic 54, 3) := by decide +kernel
theorem dX5_year_29 : decode cX5_year 29 = .ok (.ifCond .ne 6, 3) := by decide +kernel
theorem dX5_year_32 : decode cX5_year 32 = .ok (.bipush (-2), 2) := by decide +kernel
theorem dX5_year_34 : decode cX5_year 34 = .ok (.ireturn, 1) := by decide +kernel
theorem dX5_year_35 : decode cX5_year 35 = .ok (.aload_n 0, 1) := by decide +kernel
theorem dX5_year_36 : decode cX5_year 36 = .ok (.invokevirtual 73, 3) := by decide +kernel
theorem dX5_year_39 : decode cX5_year 39 = .ok (.iload_n 1, 1) := by decide +kernel
theorem dX5_year_40 : decode cX5_year 40 = .ok (.istore 4, 2) := by decide +kernel
theorem dX5_year_42 : decode cX5_year 42 = .ok (.iconst 0, 1) := by decide +kernel
theorem dX5_year_43 : decode cX5_year 43 = .ok (.istore 5, 2) := by decide +kernel
theorem dX5_year_45 : decode cX5_year 45 = .ok (.iconst 1, 1) := by decide +kernel
theorem dX5_year_46 : decode cX5_year 46 = .ok (.istore 6, 2) := by decide +kernel
theorem dX5_year_48 : decode cX5_year 48 = .ok (.iload 6, 2) := by decide +kernel
theorem dX5_year_50 : decode cX5_year 50 = .ok (.iload_n 2, 1) := by decide +kernel
theorem dX5_year_51 : decode cX5_year 51 = .ok (.if_icmp .gt 72, 3) := by decide +kernel
theorem dX5_year_54 : decode cX5_year 54 = .ok (.bipush 75, 2) := by decide +kernel
theorem dX5_year_56 : decode cX5_year 56 = .ok (.iload 4, 2) := by decide +kernel
theorem dX5_year_58 : decode cX5_year 58 = .ok (.imul, 1) := by decide +kernel
theorem dX5_year_59 : decode cX5_year 59 = .ok (.bipush 74, 2) := by decide +kernel
theorem dX5_year_61 : decode cX5_year 61 = .ok (.iadd, 1) := by decide +kernel
theorem dX5_year_62 : decode cX5_year 62 = .ok (.ldc 155, 2) := by decide +kernel
theorem dX5_year_64 : decode cX5_year 64 = .ok (.irem, 1) := by decide +kernel
theorem dX5_year_65 : decode cX5_year 65 = .ok (.istore 4, 2) := by decide +kernel
theorem dX5_year_67 : decode cX5_year 67 = .ok (.iload 5, 2) := by decide +kernel
theorem dX5_year_69 : decode cX5_year 69 = .ok (.aload_n 0, 1) := by decide +kernel
theorem dX5_year_70 : decode cX5_year 70 = .ok (.iload 4, 2) := by decide +kernel
theorem dX5_year_72 : decode cX5_year 72 = .ok (.bipush 6, 2) := by decide +kernel
theorem dX5_year_74 : decode cX5_year 74 = .ok (.irem, 1) := by decide +kernel
theorem dX5_year_75 : decode cX5_year 75 = .ok (.iload 4, 2) := by decide +kernel
theorem dX5_year_77 : decode cX5_year 77 = .ok (.bipush 6, 2) := by decide +kernel
theorem dX5_year_79 : decode cX5_year 79 = .ok (.idiv, 1) := by decide +kernel
theorem dX5_year_80 : decode cX5_year 80 = .ok (.bipush 6, 2) := by decide +kernel
theorem dX5_year_82 : decode cX5_year 82 = .ok (.irem, 1) := by decide +kernel
theorem dX5_year_83 : decode cX5_year 83 = .ok (.iload 4, 2) := by decide +kernel
theorem dX5_year_85 : decode cX5_year 85 = .ok (.bipush 36, 2) := by decide +kernel
theorem dX5_year_87 : decode cX5_year 87 = .ok (.idiv, 1) := by decide +kernel
theorem dX5_year_88 : decode cX5_year 88 = .ok (.bipush 6, 2) := by decide +kernel
theorem dX5_year_90 : decode cX5_year 90 = .ok (.irem, 1) := by decide +kernel
theorem dX5_year_91 : decode cX5_year 91 = .ok (.invokevirtual 91, 3) := by decide +kernel
theorem dX5_year_94 : decode cX5_year 94 = .ok (.ifCond .eq 7, 3) := by decide +kernel
theorem dX5_year_97 : decode cX5_year 97 = .ok (.iconst 1, 1) := by decide +kernel
theorem dX5_year_98 : decode cX5_year 98 = .ok (.goto 4, 3) := by decide +kernel
theorem dX5_year_101 : decode cX5_year 101 = .ok (.iconst 0, 1) := by decide +kernel
theorem dX5_year_102 : decode cX5_year 102 = .ok (.iadd, 1) := by decide +kernel
theorem dX5_year_103 : decode cX5_year 103 = .ok (.istore 5, 2) := by decide +kernel
theorem dX5_year_105 : decode cX5_year 105 = .ok (.iload 6, 2) := by decide +kernel
theorem dX5_year_107 : decode cX5_year 107 = .ok (.bipush 10, 2) := by decide +kernel
theorem dX5_year_109 : decode cX5_year 109 = .ok (.irem, 1) := by decide +kernel
theorem dX5_year_110 : decode cX5_year 110 = .ok (.ifCond .ne 7, 3) := by decide +kernel
theorem dX5_year_113 : decode cX5_year 113 = .ok (.aload_n 0, 1) := by decide +kernel
theorem dX5_year_114 : decode cX5_year 114 = .ok (.invokevirtual 85, 3) := by decide +kernel
theorem dX5_year_117 : decode cX5_year 117 = .ok (.iinc 6 1, 3) := by decide +kernel
theorem dX5_year_120 : decode cX5_year 120 = .ok (.goto (-72), 3) := by decide +kernel
theorem dX5_year_123 : decode cX5_year 123 = .ok (.iload_n 3, 1) := by decide +kernel
theorem dX5_year_124 : decode cX5_year 124 = .ok (.ifCond .ge 8, 3) := by decide +kernel
theorem dX5_year_127 : decode cX5_year 127 = .ok (.iload 5, 2) := by decide +kernel
theorem dX5_year_129 : decode cX5_year 129 = .ok (.goto 8, 3) := by decide +kernel
theorem dX5_year_132 : decode cX5_year 132 = .ok (.aload_n 0, 1) := by decide +kernel
theorem dX5_year_133 : decode cX5_year 133 = .ok (.iload_n 3, 1) := by decide +kernel
theorem dX5_year_134 : decode cX5_year 134 = .ok (.invokevirtual 101, 3) := by decide +kernel
theorem dX5_year_137 : decode cX5_year 137 = .ok (.ireturn, 1) := by decide +kernel
set_option maxRecDepth 20000 in
theorem ggX5_image_X5_in : GoodIn wsX5_image wsX5_in := goodIn_r _ [16] (by decide +kernel) (by decide +kernel)
set_option maxRecDepth 20000 in
theorem gX5_image_X5_in : GoodIn wsX5_image (va_wsS RX5 54 yX5_in wsX5_in) := goodIn_app (goodIn_of _ (by decide +kernel)) ggX5_image_X5_in
theorem dX5_image_0 : decode cX5_image 0 = .ok (.iload_n 1, 1) := by decide +kernel
theorem dX5_image_1 : decode cX5_image 1 = .ok (.iconst 0, 1) := by decide +kernel
theorem dX5_image_2 : decode cX5_image 2 = .ok (.iconst 1, 1) := by decide +kernel
theorem dX5_image_3 : decode cX5_image 3 = .ok (.invokestatic 54, 3) := by decide +kernel
theorem dX5_image_6 : decode cX5_image 6 = .ok (.ifCond .ne 6, 3) := by decide +kernel
theorem dX5_image_9 : decode cX5_image 9 = .ok (.bipush (-2), 2) := by decide +kernel
theorem dX5_image_11 : decode cX5_image 11 = .ok (.ireturn, 1) := by decide +kernel
theorem dX5_image_12 : decode cX5_image 12 = .ok (.bipush 100, 2) := by decide +kernel
theorem dX5_image_14 : decode cX5_image 14 = .ok (.iload_n 1, 1) := by decide +kernel
theorem dX5_image_15 : decode cX5_image 15 = .ok (.imul, 1) := by decide +kernel
theorem dX5_image_16 : decode cX5_image 16 = .ok (.istore_n 2, 1) := by decide +kernel
theorem dX5_image_17 : decode cX5_image 17 = .ok (.iconst 0, 1) := by decide +kernel
theorem dX5_image_18 : decode cX5_image 18 = .ok (.istore_n 3, 1) := by decide +kernel
theorem dX5_image_19 : decode cX5_image 19 = .ok (.iload_n 3, 1) := by decide +kernel
theorem dX5_image_20 : decode cX5_image 20 = .ok (.bipush 36, 2) := by decide +kernel
theorem dX5_image_22 : decode cX5_image 22 = .ok (.if_icmp .ge 23, 3) := by decide +kernel
theorem dX5_image_25 : decode cX5_image 25 = .ok (.aload_n 0, 1) := by decide +kernel
theorem dX5_image_26 : decode cX5_image 26 = .ok (.getfield 47, 3) := by decide +kernel
theorem dX5_image_29 : decode cX5_image 29 = .ok (.iload_n 2, 1) := by decide +kernel
theorem dX5_image_30 : decode cX5_image 30 = .ok (.iload_n 3, 1) := by decide +kernel
theorem dX5_image_31 : decode cX5_image 31 = .ok (.iadd, 1) := by decide +kernel
theorem dX5_image_32 : decode cX5_image 32 = .ok (.aload_n 0, 1) := by decide +kernel
theorem dX5_image_33 : decode cX5_image 33 = .ok (.getfield 25, 3) := by decide +kernel
theorem dX5_image_36 : decode cX5_image 36 = .ok (.iload_n 3, 1) := by decide +kernel
theorem dX5_image_37 : decode cX5_image 37 = .ok (.iaload, 1) := by decide +kernel
theorem dX5_image_38 : decode cX5_image 38 = .ok (.iastore, 1) := by decide +kernel
theorem dX5_image_39 : decode cX5_image 39 = .ok (.iinc 3 1, 3) := by decide +kernel
theorem dX5_image_42 : decode cX5_image 42 = .ok (.goto (-23), 3) := by decide +kernel
theorem dX5_image_45 : decode cX5_image 45 = .ok (.iconst 0, 1) := by decide +kernel
theorem dX5_image_46 : decode cX5_image 46 = .ok (.istore_n 3, 1) := by decide +kernel
theorem dX5_image_47 : decode cX5_image 47 = .ok (.iload_n 3, 1) := by decide +kernel
theorem dX5_image_48 : decode cX5_image 48 = .ok (.bipush 6, 2) := by decide +kernel
theorem dX5_image_50 : decode cX5_image 50 = .ok (.if_icmp .ge 111, 3) := by decide +kernel
theorem dX5_image_53 : decode cX5_image 53 = .ok (.aload_n 0, 1) := by decide +kernel
theorem dX5_image_54 : decode cX5_image 54 = .ok (.getfield 47, 3) := by decide +kernel
theorem dX5_image_57 : decode cX5_image 57 = .ok (.iload_n 2, 1) := by decide +kernel
theorem dX5_image_58 : decode cX5_image 58 = .ok (.bipush 36, 2) := by decide +kernel
theorem dX5_image_60 : decode cX5_image 60 = .ok (.iadd, 1) := by decide +kernel
theorem dX5_image_61 : decode cX5_image 61 = .ok (.iload_n 3, 1) := by decide +kernel
theorem dX5_image_62 : decode cX5_image 62 = .ok (.iadd, 1) := by decide +kernel
theorem dX5_image_63 : decode cX5_image 63 = .ok (.aload_n 0, 1) := by decide +kernel
theorem dX5_image_64 : decode cX5_image 64 = .ok (.getfield 7, 3) := by decide +kernel
theorem dX5_image_67 : decode cX5_image 67 = .ok (.iload_n 3, 1) := by decide +kernel
theorem dX5_image_68 : decode cX5_image 68 = .ok (.iaload, 1) := by decide +kernel
theorem dX5_image_69 : decode cX5_image 69 = .ok (.iastore, 1) := by decide +kernel
theorem dX5_image_70 : decode cX5_image 70 = .ok (.aload_n 0, 1) := by decide +kernel
theorem dX5_image_71 : decode cX5_image 71 = .ok (.getfield 47, 3) := by decide +kernel
theorem dX5_image_74 : decode cX5_image 74 = .ok (.iload_n 2, 1) := by decide +kernel
theorem dX5_image_75 : decode cX5_image 75 = .ok (.bipush 42, 2) := by decide +kernel
theorem dX5_image_77 : decode cX5_image 77 = .ok (.iadd, 1) := by decide +kernel
theorem dX5_image_78 : decode cX5_image 78 = .ok (.iload_n 3, 1) := by decide +kernel
theorem dX5_image_79 : decode cX5_image 79 = .ok (.iadd, 1) := by decide +kernel
theorem dX5_image_80 : decode cX5_image 80 = .ok (.aload_n 0, 1) := by decide +kernel
theorem dX5_image_81 : decode cX5_image 81 = .ok (.getfield 13, 3) := by decide +kernel
theorem dX5_image_84 : decode cX5_image 84 = .ok (.iload_n 3, 1) := by decide +kernel
theorem dX5_image_85 : decode cX5_image 85 = .ok (.iaload, 1) := by decide +kernel
theorem dX5_image_86 : decode cX5_image 86 = .ok (.iastore, 1) := by decide +kernel
theorem dX5_image_87 : decode cX5_image 87 = .ok (.aload_n 0, 1) := by decide +kernel
theorem dX5_image_88 : decode cX5_image 88 = .ok (.getfield 47, 3) := by decide +kernel
theorem dX5_image_91 : decode cX5_image 91 = .ok (.iload_n 2, 1) := by decide +kernel
theorem dX5_image_92 : decode cX5_image 92 = .ok (.bipush 48, 2) := by decide +kernel
theorem dX5_image_94 : decode cX5_image 94 = .ok (.iadd, 1) := by decide +kernel
theorem dX5_image_95 : decode cX5_image 95 = .ok (.iload_n 3, 1) := by decide +kernel
theorem dX5_image_96 : decode cX5_image 96 = .ok (.iadd, 1) := by decide +kernel
theorem dX5_image_97 : decode cX5_image 97 = .ok (.aload_n 0, 1) := by decide +kernel
theorem dX5_image_98 : decode cX5_image 98 = .ok (.getfield 16, 3) := by decide +kernel
theorem dX5_image_101 : decode cX5_image 101 = .ok (.iload_n 3, 1) := by decide +kernel
theorem dX5_image_102 : decode cX5_image 102 = .ok (.iaload, 1) := by decide +kernel
theorem dX5_image_103 : decode cX5_image 103 = .ok (.iastore, 1) := by decide +kernel
theorem dX5_image_104 : decode cX5_image 104 = .ok (.aload_n 0, 1) := by decide +kernel
theorem dX5_image_105 : decode cX5_image 105 = .ok (.getfield 47, 3) := by decide +kernel
theorem dX5_image_108 : decode cX5_image 108 = .ok (.iload_n 2, 1) := by decide +kernel
theorem dX5_image_109 : decode cX5_image 109 = .ok (.bipush 54, 2) := by decide +kernel
theorem dX5_image_111 : decode cX5_image 111 = .ok (.iadd, 1) := by decide +kernel
theorem dX5_image_112 : decode cX5_image 112 = .ok (.iload_n 3, 1) := by decide +kernel
theorem dX5_image_113 : decode cX5_image 113 = .ok (.iadd, 1) := by decide +kernel
theorem dX5_image_114 : decode cX5_image 114 = .ok (.aload_n 0, 1) := by decide +kernel
theorem dX5_image_115 : decode cX5_image 115 = .ok (.getfield 19, 3) := by decide +kernel
theorem dX5_image_118 : decode cX5_image 118 = .ok (.iload_n 3, 1) := by decide +kernel
theorem dX5_image_119 : decode cX5_image 119 = .ok (.iaload, 1) := by decide +kernel
theorem dX5_image_120 : decode cX5_image 120 = .ok (.iastore, 1) := by decide +kernel
theorem dX5_image_121 : decode cX5_image 121 = .ok (.aload_n 0, 1) := by decide +kernel
theorem dX5_image_122 : decode cX5_image 122 = .ok (.getfield 47, 3) := by decide +kernel
theorem dX5_image_125 : decode cX5_image 125 = .ok (.iload_n 2, 1) := by decide +kernel
theorem dX5_image_126 : decode cX5_image 126 = .ok (.bipush 60, 2) := by decide +kernel
theorem dX5_image_128 : decode cX5_image 128 = .ok (.iadd, 1) := by decide +kernel
theorem dX5_image_129 : decode cX5_image 129 = .ok (.iload_n 3, 1) := by decide +kernel
theorem dX5_image_130 : decode cX5_image 130 = .ok (.iadd, 1) := by decide +kernel
theorem dX5_image_131 : decode cX5_image 131 = .ok (.aload_n 0, 1) := by decide +kernel
theorem dX5_image_132 : decode cX5_image 132 = .ok (.getfield 22, 3) := by decide +kernel
theorem dX5_image_135 : decode cX5_image 135 = .ok (.iload_n 3, 1) := by decide +kernel
theorem dX5_image_136 : decode cX5_image 136 = .ok (.iaload, 1) := by decide +kernel
theorem dX5_image_137 : decode cX5_image 137 = .ok (.iastore, 1) := by decide +kernel
theorem dX5_image_138 : decode cX5_image 138 = .ok (.aload_n 0, 1) := by decide +kernel
theorem dX5_image_139 : decode cX5_image 139 = .ok (.getfield 47, 3) := by decide +kernel
theorem dX5_image_142 : decode cX5_image 142 = .ok (.iload_n 2, 1) := by decide +kernel
theorem dX5_image_143 : decode cX5_image 143 = .ok (.bipush 66, 2) := by decide +kernel
theorem dX5_image_145 : decode cX5_image 145 = .ok (.iadd, 1) := by decide +kernel
theorem dX5_image_146 : decode cX5_image 146 = .ok (.iload_n 3, 1) := by decide +kernel
theorem dX5_image_147 : decode cX5_image 147 = .ok (.iadd, 1) := by decide +kernel
theorem dX5_image_148 : decode cX5_image 148 = .ok (.aload_n 0, 1) := by decide +kernel
theorem dX5_image_149 : decode cX5_image 149 = .ok (.getfield 28, 3) := by decide +kernel
theorem dX5_image_152 : decode cX5_image 152 = .ok (.iload_n 3, 1) := by decide +kernel
theorem dX5_image_153 : decode cX5_image 153 = .ok (.iaload, 1) := by decide +kernel
theorem dX5_image_154 : decode cX5_image 154 = .ok (.iastore, 1) := by decide +kernel
theorem dX5_image_155 : decode cX5_image 155 = .ok (.iinc 3 1, 3) := by decide +kernel
theorem dX5_image_158 : decode cX5_image 158 = .ok (.goto (-111), 3) := by decide +kernel
theorem dX5_image_161 : decode cX5_image 161 = .ok (.iconst 0, 1) := by decide +kernel
theorem dX5_image_162 : decode cX5_image 162 = .ok (.istore_n 3, 1) := by decide +kernel
theorem dX5_image_163 : decode cX5_image 163 = .ok (.iload_n 3, 1) := by decide +kernel
theorem dX5_image_164 : decode cX5_image 164 = .ok (.bipush 12, 2) := by decide +kernel
theorem dX5_image_166 : decode cX5_image 166 = .ok (.if_icmp .ge 26, 3) := by decide +kernel
theorem dX5_image_169 : decode cX5_image 169 = .ok (.aload_n 0, 1) := by decide +kernel
theorem dX5_image_170 : decode cX5_image 170 = .ok (.getfield 47, 3) := by decide +kernel
theorem dX5_image_173 : decode cX5_image 173 = .ok (.iload_n 2, 1) := by decide +kernel
theorem dX5_image_174 : decode cX5_image 174 = .ok (.bipush 72, 2) := by decide +kernel
theorem dX5_image_176 : decode cX5_image 176 = .ok (.iadd, 1) := by decide +kernel
theorem dX5_image_177 : decode cX5_image 177 = .ok (.iload_n 3, 1) := by decide +kernel
theorem dX5_image_178 : decode cX5_image 178 = .ok (.iadd, 1) := by decide +kernel
theorem dX5_image_179 : decode cX5_image 179 = .ok (.aload_n 0, 1) := by decide +kernel
theorem dX5_image_180 : decode cX5_image 180 = .ok (.getfield 35, 3) := by decide +kernel
theorem dX5_image_183 : decode cX5_image 183 = .ok (.iload_n 3, 1) := by decide +kernel
theorem dX5_image_184 : decode cX5_image 184 = .ok (.iaload, 1) := by decide +kernel
theorem dX5_image_185 : decode cX5_image 185 = .ok (.iastore, 1) := by decide +kernel
theorem dX5_image_186 : decode cX5_image 186 = .ok (.iinc 3 1, 3) := by decide +kernel
theorem dX5_image_189 : decode cX5_image 189 = .ok (.goto (-26), 3) := by decide +kernel
theorem dX5_image_192 : decode cX5_image 192 = .ok (.aload_n 0, 1) := by decide +kernel
theorem dX5_image_193 : decode cX5_image 193 = .ok (.getfield 47, 3) := by decide +kernel
theorem dX5_image_196 : decode cX5_image 196 = .ok (.iload_n 2, 1) := by decide +kernel
theorem dX5_image_197 : decode cX5_image 197 = .ok (.bipush 84, 2) := by decide +kernel
theorem dX5_image_199 : decode cX5_image 199 = .ok (.iadd, 1) := by decide +kernel
theorem dX5_image_200 : decode cX5_image 200 = .ok (.aload_n 0, 1) := by decide +kernel
theorem dX5_image_201 : decode cX5_image 201 = .ok (.getfield 31, 3) := by decide +kernel
theorem dX5_image_204 : decode cX5_image 204 = .ok (.iastore, 1) := by decide +kernel
theorem dX5_image_205 : decode cX5_image 205 = .ok (.aload_n 0, 1) := by decide +kernel
theorem dX5_image_206 : decode cX5_image 206 = .ok (.getfield 47, 3) := by decide +kernel
theorem dX5_image_209 : decode cX5_image 209 = .ok (.iload_n 2, 1) := by decide +kernel
theorem dX5_image_210 : decode cX5_image 210 = .ok (.bipush 85, 2) := by decide +kernel
theorem dX5_image_212 : decode cX5_image 212 = .ok (.iadd, 1) := by decide +kernel
theorem dX5_image_213 : decode cX5_image 213 = .ok (.aload_n 0, 1) := by decide +kernel
theorem dX5_image_214 : decode cX5_image 214 = .ok (.getfield 152, 3) := by decide +kernel
theorem dX5_image_217 : decode cX5_image 217 = .ok (.iastore, 1) := by decide +kernel
theorem dX5_image_218 : decode cX5_image 218 = .ok (.aload_n 0, 1) := by decide +kernel
theorem dX5_image_219 : decode cX5_image 219 = .ok (.getfield 50, 3) := by decide +kernel
theorem dX5_image_222 : decode cX5_image 222 = .ok (.iload_n 1, 1) := by decide +kernel
theorem dX5_image_223 : decode cX5_image 223 = .ok (.iconst 1, 1) := by decide +kernel
theorem dX5_image_224 : decode cX5_image 224 = .ok (.bastore, 1) := by decide +kernel
theorem dX5_image_225 : decode cX5_image 225 = .ok (.iconst 1, 1) := by decide +kernel
theorem dX5_image_226 : decode cX5_image 226 = .ok (.ireturn, 1) := by decide +kernel
set_option maxRecDepth 20000 in
theorem ggX5_restore_X5_in : GoodIn wsX5_restore wsX5_in := goodIn_r _ [16] (by decide +kernel) (by decide +kernel)
set_option maxRecDepth 20000 in
theorem gX5_restore_X5_in : GoodIn wsX5_restore (va_wsS RX5 54 yX5_in wsX5_in) := goodIn_app (goodIn_of _ (by decide +kernel)) ggX5_restore_X5_in
theorem dX5_restore_0 : decode cX5_restore 0 = .ok (.iload_n 1, 1) := by decide +kernel
theorem dX5_restore_1 : decode cX5_restore 1 = .ok (.iconst 0, 1) := by decide +kernel
theorem dX5_restore_2 : decode cX5_restore 2 = .ok (.iconst 1, 1) := by decide +kernel
theorem dX5_restore_3 : decode cX5_restore 3 = .ok (.invokestatic 54, 3) := by decide +kernel
theorem dX5_restore_6 : decode cX5_restore 6 = .ok (.ifCond .ne 6, 3) := by decide +kernel
theorem dX5_restore_9 : decode cX5_restore 9 = .ok (.bipush (-2), 2) := by decide +kernel
theorem dX5_restore_11 : decode cX5_restore 11 = .ok (.ireturn, 1) := by decide +kernel
theorem dX5_restore_12 : decode cX5_restore 12 = .ok (.aload_n 0, 1) := by decide +kernel
theorem dX5_restore_13 : decode cX5_restore 13 = .ok (.getfield 50, 3) := by decide +kernel
theorem dX5_restore_16 : decode cX5_restore 16 = .ok (.iload_n 1, 1) := by decide +kernel
theorem dX5_restore_17 : decode cX5_restore 17 = .ok (.baload, 1) := by decide +kernel
theorem dX5_restore_18 : decode cX5_restore 18 = .ok (.ifCond .ne 6, 3) := by decide +kernel
theorem dX5_restore_21 : decode cX5_restore 21 = .ok (.bipush (-3), 2) := by decide +kernel
theorem dX5_restore_23 : decode cX5_restore 23 = .ok (.ireturn, 1) := by decide +kernel
theorem dX5_restore_24 : decode cX5_restore 24 = .ok (.bipush 100, 2) := by decide +kernel
theorem dX5_restore_26 : decode cX5_restore 26 = .ok (.iload_n 1, 1) := by decide +kernel
theorem dX5_restore_27 : decode cX5_restore 27 = .ok (.imul, 1) := by decide +kernel
theorem dX5_restore_28 : decode cX5_restore 28 = .ok (.istore_n 2, 1) := by decide +kernel
theorem dX5_restore_29 : decode cX5_restore 29 = .ok (.iconst 0, 1) := by decide +kernel
theorem dX5_restore_30 : decode cX5_restore 30 = .ok (.istore_n 3, 1) := by decide +kernel
theorem dX5_restore_31 : decode cX5_restore 31 = .ok (.iload_n 3, 1) := by decide +kernel
theorem dX5_restore_32 : decode cX5_restore 32 = .ok (.bipush 36, 2) := by decide +kernel
theorem dX5_restore_34 : decode cX5_restore 34 = .ok (.if_icmp .ge 23, 3) := by decide +kernel
theorem dX5_restore_37 : decode cX5_restore 37 = .ok (.aload_n 0, 1) := by decide +kernel
theorem dX5_restore_38 : decode cX5_restore 38 = .ok (.getfield 25, 3) := by decide +kernel
theorem dX5_restore_41 : decode cX5_restore 41 = .ok (.iload_n 3, 1) := by decide +kernel
theorem dX5_restore_42 : decode cX5_restore 42 = .ok (.aload_n 0, 1) := by decide +kernel
theorem dX5_restore_43 : decode cX5_restore 43 = .ok (.getfield 47, 3) := by decide +kernel
theorem dX5_restore_46 : decode cX5_restore 46 = .ok (.iload_n 2, 1) := by decide +kernel
theorem dX5_restore_47 : decode cX5_restore 47 = .ok (.iload_n 3, 1) := by decide +kernel
theorem dX5_restore_48 : decode cX5_restore 48 = .ok (.iadd, 1) := by decide +kernel
theorem dX5_restore_49 : decode cX5_restore 49 = .ok (.iaload, 1) := by decide +kernel
theorem dX5_restore_50 : decode cX5_restore 50 = .ok (.iastore, 1) := by decide +kernel
theorem dX5_restore_51 : decode cX5_restore 51 = .ok (.iinc 3 1, 3) := by decide +kernel
theorem dX5_restore_54 : decode cX5_restore 54 = .ok (.goto (-23), 3) := by decide +kernel
theorem dX5_restore_57 : decode cX5_restore 57 = .ok (.iconst 0, 1) := by decide +kernel
theorem dX5_restore_58 : decode cX5_restore 58 = .ok (.istore_n 3, 1) := by decide +kernel
theorem dX5_restore_59 : decode cX5_restore 59 = .ok (.iload_n 3, 1) := by decide +kernel
theorem dX5_restore_60 : decode cX5_restore 60 = .ok (.bipush 6, 2) := by decide +kernel
theorem dX5_restore_62 : decode cX5_restore 62 = .ok (.if_icmp .ge 111, 3) := by decide +kernel
theorem dX5_restore_65 : decode cX5_restore 65 = .ok (.aload_n 0, 1) := by decide +kernel
theorem dX5_restore_66 : decode cX5_restore 66 = .ok (.getfield 7, 3) := by decide +kernel
theorem dX5_restore_69 : decode cX5_restore 69 = .ok (.iload_n 3, 1) := by decide +kernel
theorem dX5_restore_70 : decode cX5_restore 70 = .ok (.aload_n 0, 1) := by decide +kernel
theorem dX5_restore_71 : decode cX5_restore 71 = .ok (.getfield 47, 3) := by decide +kernel
theorem dX5_restore_74 : decode cX5_restore 74 = .ok (.iload_n 2, 1) := by decide +kernel
theorem dX5_restore_75 : decode cX5_restore 75 = .ok (.bipush 36, 2) := by decide +kernel
theorem dX5_restore_77 : decode cX5_restore 77 = .ok (.iadd, 1) := by decide +kernel
theorem dX5_restore_78 : decode cX5_restore 78 = .ok (.iload_n 3, 1) := by decide +kernel
theorem dX5_restore_79 : decode cX5_restore 79 = .ok (.iadd, 1) := by decide +kernel
theorem dX5_restore_80 : decode cX5_restore 80 = .ok (.iaload, 1) := by decide +kernel
theorem dX5_restore_81 : decode cX5_restore 81 = .ok (.iastore, 1) := by decide +kernel
theorem dX5_restore_82 : decode cX5_restore 82 = .ok (.aload_n 0, 1) := by decide +kernel
theorem dX5_restore_83 : decode cX5_restore 83 = .ok (.getfield 13, 3) := by decide +kernel
theorem dX5_restore_86 : decode cX5_restore 86 = .ok (.iload_n 3, 1) := by decide +kernel
theorem dX5_restore_87 : decode cX5_restore 87 = .ok (.aload_n 0, 1) := by decide +kernel
theorem dX5_restore_88 : decode cX5_restore 88 = .ok (.getfield 47, 3) := by decide +kernel
theorem dX5_restore_91 : decode cX5_restore 91 = .ok (.iload_n 2, 1) := by decide +kernel
theorem dX5_restore_92 : decode cX5_restore 92 = .ok (.bipush 42, 2) := by decide +kernel
theorem dX5_restore_94 : decode cX5_restore 94 = .ok (.iadd, 1) := by decide +kernel
theorem dX5_restore_95 : decode cX5_restore 95 = .ok (.iload_n 3, 1) := by decide +kernel
theorem dX5_restore_96 : decode cX5_restore 96 = .ok (.iadd, 1) := by decide +kernel
theorem dX5_restore_97 : decode cX5_restore 97 = .ok (.iaload, 1) := by decide +kernel
theorem dX5_restore_98 : decode cX5_restore 98 = .ok (.iastore, 1) := by decide +kernel
theorem dX5_restore_99 : decode cX5_restore 99 = .ok (.aload_n 0, 1) := by decide +kernel
theorem dX5_restore_100 : decode cX5_restore 100 = .ok (.getfield 16, 3) := by decide +kernel
theorem dX5_restore_103 : decode cX5_restore 103 = .ok (.iload_n 3, 1) := by decide +kernel
theorem dX5_restore_104 : decode cX5_restore 104 = .ok (.aload_n 0, 1) := by decide +kernel
theorem dX5_restore_105 : decode cX5_restore 105 = .ok (.getfield 47, 3) := by decide +kernel
theorem dX5_restore_108 : decode cX5_restore 108 = .ok (.iload_n 2, 1) := by decide +kernel
theorem dX5_restore_109 : decode cX5_restore 109 = .ok (.bipush 48, 2) := by decide +kernel
theorem dX5_restore_111 : decode cX5_restore 111 = .ok (.iadd, 1) := by decide +kernel
theorem dX5_restore_112 : decode cX5_restore 112 = .ok (.iload_n 3, 1) := by decide +kernel
theorem dX5_restore_113 : decode cX5_restore 113 = .ok (.iadd, 1) := by decide +kernel
theorem dX5_restore_114 : decode cX5_restore 114 = .ok (.iaload, 1) := by decide +kernel
theorem dX5_restore_115 : decode cX5_restore 115 = .ok (.iastore, 1) := by decide +kernel
theorem dX5_restore_116 : decode cX5_restore 116 = .ok (.aload_n 0, 1) := by decide +kernel
theorem dX5_restore_117 : decode cX5_restore 117 = .ok (.getfield 19, 3) := by decide +kernel
theorem dX5_restore_120 : decode cX5_restore 120 = .ok (.iload_n 3, 1) := by decide +kernel
theorem dX5_restore_121 : decode cX5_restore 121 = .ok (.aload_n 0, 1) := by decide +kernel
theorem dX5_restore_122 : decode cX5_restore 122 = .ok (.getfield 47, 3) := by decide +kernel
theorem dX5_restore_125 : decode cX5_restore 125 = .ok (.iload_n 2, 1) := by decide +kernel
theorem dX5_restore_126 : decode cX5_restore 126 = .ok (.bipush 54, 2) := by decide +kernel
theorem dX5_restore_128 : decode cX5_restore 128 = .ok (.iadd, 1) := by decide +kernel
theorem dX5_restore_129 : decode cX5_restore 129 = .ok (.iload_n 3, 1) := by decide +kernel
theorem dX5_restore_130 : decode cX5_restore 130 = .ok (.iadd, 1) := by decide +kernel
theorem dX5_restore_131 : decode cX5_restore 131 = .ok (.iaload, 1) := by decide +kernel
theorem dX5_restore_132 : decode cX5_restore 132 = .ok (.iastore, 1) := by decide +kernel
theorem dX5_restore_133 : decode cX5_restore 133 = .ok (.aload_n 0, 1) := by decide +kernel
theorem dX5_restore_134 : decode cX5_restore 134 = .ok (.getfield 22, 3) := by decide +kernel
theorem dX5_restore_137 : decode cX5_restore 137 = .ok (.iload_n 3, 1) := by decide +kernel
theorem dX5_restore_138 : decode cX5_restore 138 = .ok (.aload_n 0, 1) := by decide +kernel
theorem dX5_restore_139 : decode cX5_restore 139 = .ok (.getfield 47, 3) := by decide +kernel
theorem dX5_restore_142 : decode cX5_restore 142 = .ok (.iload_n 2, 1) := by decide +kernel
theorem dX5_restore_143 : decode cX5_restore 143 = .ok (.bipush 60, 2) := by decide +kernel
theorem dX5_restore_145 : decode cX5_restore 145 = .ok (.iadd, 1) := by decide +kernel
theorem dX5_restore_146 : decode cX5_restore 146 = .ok (.iload_n 3, 1) := by decide +kernel
theorem dX5_restore_147 : decode cX5_restore 147 = .ok (.iadd, 1) := by decide +kernel
theorem dX5_restore_148 : decode cX5_restore 148 = .ok (.iaload, 1) := by decide +kernel
theorem dX5_restore_149 : decode cX5_restore 149 = .ok (.iastore, 1) := by decide +kernel
theorem dX5_restore_150 : decode cX5_restore 150 = .ok (.aload_n 0, 1) := by decide +kernel
theorem dX5_restore_151 : decode cX5_restore 151 = .ok (.getfield 28, 3) := by decide +kernel
theorem dX5_restore_154 : decode cX5_restore 154 = .ok (.iload_n 3, 1) := by decide +kernel
theorem dX5_restore_155 : decode cX5_restore 155 = .ok (.aload_n 0, 1) := by decide +kernel
theorem dX5_restore_156 : decode cX5_restore 156 = .ok (.getfield 47, 3) := by decide +kernel
theorem dX5_restore_159 : decode cX5_restore 159 = .ok (.iload_n 2, 1) := by decide +kernel
theorem dX5_restore_160 : decode cX5_restore 160 = .ok (.bipush 66, 2) := by decide +kernel
theorem dX5_restore_162 : decode cX5_restore 162 = .ok (.iadd, 1) := by decide +kernel
theorem dX5_restore_163 : decode cX5_restore 163 = .ok (.iload_n 3, 1) := by decide +kernel
theorem dX5_restore_164 : decode cX5_restore 164 = .ok (.iadd, 1) := by decide +kernel
theorem dX5_restore_165 : decode cX5_restore 165 = .ok (.iaload, 1) := by decide +kernel
theorem dX5_restore_166 : decode cX5_restore 166 = .ok (.iastore, 1) := by decide +kernel
theorem dX5_restore_167 : decode cX5_restore 167 = .ok (.iinc 3 1, 3) := by decide +kernel
theorem dX5_restore_170 : decode cX5_restore 170 = .ok (.goto (-111), 3) := by decide +kernel
theorem dX5_restore_173 : decode cX5_restore 173 = .ok (.iconst 0, 1) := by decide +kernel
theorem dX5_restore_174 : decode cX5_restore 174 = .ok (.istore_n 3, 1) := by decide +kernel
theorem dX5_restore_175 : decode cX5_restore 175 = .ok (.iload_n 3, 1) := by decide +kernel
theorem dX5_restore_176 : decode cX5_restore 176 = .ok (.bipush 12, 2) := by decide +kernel
theorem dX5_restore_178 : decode cX5_restore 178 = .ok (.if_icmp .ge 26, 3) := by decide +kernel
theorem dX5_restore_181 : decode cX5_restore 181 = .ok (.aload_n 0, 1) := by decide +kernel
theorem dX5_restore_182 : decode cX5_restore 182 = .ok (.getfield 35, 3) := by decide +kernel
theorem dX5_restore_185 : decode cX5_restore 185 = .ok (.iload_n 3, 1) := by decide +kernel
theorem dX5_restore_186 : decode cX5_restore 186 = .ok (.aload_n 0, 1) := by decide +kernel
theorem dX5_restore_187 : decode cX5_restore 187 = .ok (.getfield 47, 3) := by decide +kernel
theorem dX5_restore_190 : decode cX5_restore 190 = .ok (.iload_n 2, 1) := by decide +kernel
theorem dX5_restore_191 : decode cX5_restore 191 = .ok (.bipush 72, 2) := by decide +kernel
theorem dX5_restore_193 : decode cX5_restore 193 = .ok (.iadd, 1) := by decide +kernel
theorem dX5_restore_194 : decode cX5_restore 194 = .ok (.iload_n 3, 1) := by decide +kernel
theorem dX5_restore_195 : decode cX5_restore 195 = .ok (.iadd, 1) := by decide +kernel
theorem dX5_restore_196 : decode cX5_restore 196 = .ok (.iaload, 1) := by decide +kernel
theorem dX5_restore_197 : decode cX5_restore 197 = .ok (.iastore, 1) := by decide +kernel
theorem dX5_restore_198 : decode cX5_restore 198 = .ok (.iinc 3 1, 3) := by decide +kernel
theorem dX5_restore_201 : decode cX5_restore 201 = .ok (.goto (-26), 3) := by decide +kernel
theorem dX5_restore_204 : decode cX5_restore 204 = .ok (.aload_n 0, 1) := by decide +kernel
theorem dX5_restore_205 : decode cX5_restore 205 = .ok (.aload_n 0, 1) := by decide +kernel
theorem dX5_restore_206 : decode cX5_restore 206 = .ok (.getfield 47, 3) := by decide +kernel
theorem dX5_restore_209 : decode cX5_restore 209 = .ok (.iload_n 2, 1) := by decide +kernel
theorem dX5_restore_210 : decode cX5_restore 210 = .ok (.bipush 84, 2) := by decide +kernel
theorem dX5_restore_212 : decode cX5_restore 212 = .ok (.iadd, 1) := by decide +kernel
theorem dX5_restore_213 : decode cX5_restore 213 = .ok (.iaload, 1) := by decide +kernel
theorem dX5_restore_214 : decode cX5_restore 214 = .ok (.putfield 31, 3) := by decide +kernel
theorem dX5_restore_217 : decode cX5_restore 217 = .ok (.aload_n 0, 1) := by decide +kernel
theorem dX5_restore_218 : decode cX5_restore 218 = .ok (.aload_n 0, 1) := by decide +kernel
theorem dX5_restore_219 : decode cX5_restore 219 = .ok (.getfield 47, 3) := by decide +kernel
theorem dX5_restore_222 : decode cX5_restore 222 = .ok (.iload_n 2, 1) := by decide +kernel
theorem dX5_restore_223 : decode cX5_restore 223 = .ok (.bipush 85, 2) := by decide +kernel
theorem dX5_restore_225 : decode cX5_restore 225 = .ok (.iadd, 1) := by decide +kernel
theorem dX5_restore_226 : decode cX5_restore 226 = .ok (.iaload, 1) := by decide +kernel
theorem dX5_restore_227 : decode cX5_restore 227 = .ok (.putfield 152, 3) := by decide +kernel
theorem dX5_restore_230 : decode cX5_restore 230 = .ok (.iconst 1, 1) := by decide +kernel
theorem dX5_restore_231 : decode cX5_restore 231 = .ok (.ireturn, 1) := by decide +kernel
set_option maxRecDepth 20000 in
theorem ggX5_told_X5_is6 : GoodIn wsX5_told wsX5_is6 := goodIn_r _ [13, 14, 15, 12, 16] (by decide +kernel) (by decide +kernel)
set_option maxRecDepth 20000 in
theorem gX5_told_X5_is6 : GoodIn wsX5_told (va_wsS RX5 58 yX5_is6 wsX5_is6) := goodIn_app (goodIn_of _ (by decide +kernel)) ggX5_told_X5_is6
theorem dX5_told_0 : decode cX5_told 0 = .ok (.iload_n 1, 1) := by decide +kernel
theorem dX5_told_1 : decode cX5_told 1 = .ok (.bipush 10, 2) := by decide +kernel
theorem dX5_told_3 : decode cX5_told 3 = .ok (.irem, 1) := by decide +kernel
theorem dX5_told_4 : decode cX5_told 4 = .ok (.istore_n 2, 1) := by decide +kernel
theorem dX5_told_5 : decode cX5_told 5 = .ok (.iload_n 1, 1) := by decide +kernel
theorem dX5_told_6 : decode cX5_told 6 = .ok (.bipush 10, 2) := by decide +kernel
theorem dX5_told_8 : decode cX5_told 8 = .ok (.if_icmp .lt 96, 3) := by decide +kernel
theorem dX5_told_11 : decode cX5_told 11 = .ok (.iload_n 1, 1) := by decide +kernel
theorem dX5_told_12 : decode cX5_told 12 = .ok (.bipush 49, 2) := by decide +kernel
theorem dX5_told_14 : decode cX5_told 14 = .ok (.if_icmp .gt 10, 3) := by decide +kernel
theorem dX5_told_17 : decode cX5_told 17 = .ok (.iload_n 2, 1) := by decide +kernel
theorem dX5_told_18 : decode cX5_told 18 = .ok (.invokestatic 58, 3) := by decide +kernel
theorem dX5_told_21 : decode cX5_told 21 = .ok (.ifCond .ne 6, 3) := by decide +kernel
theorem dX5_told_24 : decode cX5_told 24 = .ok (.bipush (-2), 2) := by decide +kernel
theorem dX5_told_26 : decode cX5_told 26 = .ok (.ireturn, 1) := by decide +kernel
theorem dX5_told_27 : decode cX5_told 27 = .ok (.iload_n 1, 1) := by decide +kernel
theorem dX5_told_28 : decode cX5_told 28 = .ok (.bipush 10, 2) := by decide +kernel
theorem dX5_told_30 : decode cX5_told 30 = .ok (.idiv, 1) := by decide +kernel
theorem dX5_told_31 : decode cX5_told 31 = .ok (.tableswitch 66 1 3 #[25, 32, 39], 25) := by decide +kernel
theorem dX5_told_56 : decode cX5_told 56 = .ok (.aload_n 0, 1) := by decide +kernel
theorem dX5_told_57 : decode cX5_told 57 = .ok (.getfield 19, 3) := by decide +kernel
theorem dX5_told_60 : decode cX5_told 60 = .ok (.iload_n 2, 1) := by decide +kernel
theorem dX5_told_61 : decode cX5_told 61 = .ok (.iaload, 1) := by decide +kernel
theorem dX5_told_62 : decode cX5_told 62 = .ok (.ireturn, 1) := by decide +kernel
theorem dX5_told_63 : decode cX5_told 63 = .ok (.aload_n 0, 1) := by decide +kernel
theorem dX5_told_64 : decode cX5_told 64 = .ok (.getfield 22, 3) := by decide +kernel
theorem dX5_told_67 : decode cX5_told 67 = .ok (.iload_n 2, 1) := by decide +kernel
theorem dX5_told_68 : decode cX5_told 68 = .ok (.iaload, 1) := by decide +kernel
theorem dX5_told_69 : decode cX5_told 69 = .ok (.ireturn, 1) := by decide +kernel
theorem dX5_told_70 : decode cX5_told 70 = .ok (.bipush 100, 2) := by decide +kernel
theorem dX5_told_72 : decode cX5_told 72 = .ok (.aload_n 0, 1) := by decide +kernel
theorem dX5_told_73 : decode cX5_told 73 = .ok (.getfield 16, 3) := by decide +kernel
theorem dX5_told_76 : decode cX5_told 76 = .ok (.iload_n 2, 1) := by decide +kernel
theorem dX5_told_77 : decode cX5_told 77 = .ok (.iaload, 1) := by decide +kernel
theorem dX5_told_78 : decode cX5_told 78 = .ok (.imul, 1) := by decide +kernel
theorem dX5_told_79 : decode cX5_told 79 = .ok (.bipush 10, 2) := by decide +kernel
theorem dX5_told_81 : decode cX5_told 81 = .ok (.aload_n 0, 1) := by decide +kernel
theorem dX5_told_82 : decode cX5_told 82 = .ok (.getfield 7, 3) := by decide +kernel
theorem dX5_told_85 : decode cX5_told 85 = .ok (.iload_n 2, 1) := by decide +kernel
theorem dX5_told_86 : decode cX5_told 86 = .ok (.iaload, 1) := by decide +kernel
theorem dX5_told_87 : decode cX5_told 87 = .ok (.imul, 1) := by decide +kernel
theorem dX5_told_88 : decode cX5_told 88 = .ok (.iadd, 1) := by decide +kernel
theorem dX5_told_89 : decode cX5_told 89 = .ok (.aload_n 0, 1) := by decide +kernel
theorem dX5_told_90 : decode cX5_told 90 = .ok (.getfield 13, 3) := by decide +kernel
theorem dX5_told_93 : decode cX5_told 93 = .ok (.iload_n 2, 1) := by decide +kernel
theorem dX5_told_94 : decode cX5_told 94 = .ok (.iaload, 1) := by decide +kernel
theorem dX5_told_95 : decode cX5_told 95 = .ok (.iadd, 1) := by decide +kernel
theorem dX5_told_96 : decode cX5_told 96 = .ok (.ireturn, 1) := by decide +kernel
theorem dX5_told_97 : decode cX5_told 97 = .ok (.aload_n 0, 1) := by decide +kernel
theorem dX5_told_98 : decode cX5_told 98 = .ok (.getfield 28, 3) := by decide +kernel
theorem dX5_told_101 : decode cX5_told 101 = .ok (.iload_n 2, 1) := by decide +kernel
theorem dX5_told_102 : decode cX5_told 102 = .ok (.iaload, 1) := by decide +kernel
theorem dX5_told_103 : decode cX5_told 103 = .ok (.ireturn, 1) := by decide +kernel
theorem dX5_told_104 : decode cX5_told 104 = .ok (.iload_n 1, 1) := by decide +kernel
theorem dX5_told_105 : decode cX5_told 105 = .ok (.ifCond .ne 10, 3) := by decide +kernel
theorem dX5_told_108 : decode cX5_told 108 = .ok (.aload_n 0, 1) := by decide +kernel
theorem dX5_told_109 : decode cX5_told 109 = .ok (.getfield 62, 3) := by decide +kernel
theorem dX5_told_112 : decode cX5_told 112 = .ok (.goto 29, 3) := by decide +kernel
theorem dX5_told_115 : decode cX5_told 115 = .ok (.iload_n 1, 1) := by decide +kernel
theorem dX5_told_116 : decode cX5_told 116 = .ok (.iconst 1, 1) := by decide +kernel
theorem dX5_told_117 : decode cX5_told 117 = .ok (.if_icmp .ne 10, 3) := by decide +kernel
theorem dX5_told_120 : decode cX5_told 120 = .ok (.aload_n 0, 1) := by decide +kernel
theorem dX5_told_121 : decode cX5_told 121 = .ok (.getfield 31, 3) := by decide +kernel
theorem dX5_told_124 : decode cX5_told 124 = .ok (.goto 17, 3) := by decide +kernel
theorem dX5_told_127 : decode cX5_told 127 = .ok (.iload_n 1, 1) := by decide +kernel
theorem dX5_told_128 : decode cX5_told 128 = .ok (.iconst 2, 1) := by decide +kernel
theorem dX5_told_129 : decode cX5_told 129 = .ok (.if_icmp .ne 10, 3) := by decide +kernel
theorem dX5_told_132 : decode cX5_told 132 = .ok (.aload_n 0, 1) := by decide +kernel
theorem dX5_told_133 : decode cX5_told 133 = .ok (.getfield 152, 3) := by decide +kernel
theorem dX5_told_136 : decode cX5_told 136 = .ok (.goto 5, 3) := by decide +kernel
theorem dX5_told_139 : decode cX5_told 139 = .ok (.bipush (-2), 2) := by decide +kernel
theorem dX5_told_141 : decode cX5_told 141 = .ok (.ireturn, 1) := by decide +kernel
set_option maxRecDepth 20000 in
theorem ggL_law_X4_init : GoodIn wsL_law wsX4_init := goodIn_r _ [8, 9, 10, 11, 12, 13, 14, 15, 16, 17, 18, 19, 20, 21, 22, 23, 24, 25, 26, 27, 28, 29, 30, 31, 32, 33, 34, 35, 36, 37, 38, 39, 40, 41, 42, 43, 44, 45, 46, 47, 48, 49, 50, 51, 52, 53, 54, 55, 2, 56, 57, 58, 59, 60, 61, 62, 63, 64, 65, 66, 67, 68, 69, 70, 71, 72, 73, 74, 75, 76, 77, 78, 79, 80, 666, 667, 668, 669, 670, 671, 672, 673, 674, 675, 676, 637, 638, 639, 640, 641, 642, 643, 677, 678, 679, 680, 681, 682, 683, 684, 685, 686, 687, 688, 689, 690, 691, 692] (by decide +kernel) (by decide +kernel)
set_option maxRecDepth 20000 in
theorem gL_law_X4_init : GoodIn wsL_law (wsX4_init) := ggL_law_X4_init
end
section
set_option maxRecDepth 20000 in
theorem ggL_law_X5_init : GoodIn wsL_law wsX5_init := goodIn_r _ [83, 84, 10, 11, 29, 85, 86, 87, 88, 89, 90, 91, 92, 93, 94, 95, 96, 97, 98, 99, 644, 645, 646, 647, 648, 649, 650, 651, 652, 653, 654, 655, 656, 657, 658, 659, 660, 661, 662, 663, 664, 665] (by decide +kernel) (by decide +kernel)
set_option maxRecDepth 20000 in
theorem gL_law_X5_init : GoodIn wsL_law (wsX5_init) := ggL_law_X5_init
set_option maxRecDepth 20000 in
theorem ggL_law_X4_plank : GoodIn wsL_law wsX4_plank := goodIn_r _ [103, 15, 104, 105, 2, 106, 107, 108, 109, 110, 111, 112, 113, 114, 115, 116, 52, 53, 14, 54, 36, 37, 38, 45, 41, 55, 56, 57, 58, 59, 27, 60, 50, 61, 62, 63, 64, 65, 66, 637, 638, 639, 640, 641, 642, 643, 666, 667, 668, 669, 670, 671, 672, 673, 674, 675, 676, 692] (by decide +kernel) (by decide +kernel)
set_option maxRecDepth 20000 in
theorem gL_law_X4_plank : GoodIn wsL_law (wsV RL 13 RX4 yX4_plank wsX4_plank) := goodIn_app (goodIn_of _ (by decide +kernel)) ggL_law_X4_plank
set_option maxRecDepth 20000 in
theorem ggL_law_X5_plank : GoodIn wsL_law wsX5_plank := goodIn_r _ [120, 85, 86, 87, 90, 89, 121, 122, 5, 123, 124, 125, 126, 644, 645, 646, 647, 648, 649, 650, 651, 652, 653, 654, 655, 656, 657, 658, 659, 660, 661, 662, 663, 664, 665] (by decide +kernel) (by decide +kernel)
set_option maxRecDepth 20000 in
theorem gL_law_X5_plank : GoodIn wsL_law (wsV RL 17 RX5 yX5_plank wsX5_plank) := goodIn_app (goodIn_of _ (by decide +kernel)) ggL_law_X5_plank
set_option maxRecDepth 20000 in
theorem ggL_law_X4_trust : GoodIn wsL_law wsX4_trust := goodIn_r _ [130, 15, 131, 113, 114, 2, 115, 107, 108, 109, 132, 61, 62, 63, 64, 65, 66, 55, 56, 637, 638, 639, 640, 641, 642, 643, 666, 667, 668, 669, 670, 671, 672, 673, 674, 675, 676] (by decide +kernel) (by decide +kernel)
set_option maxRecDepth 20000 in
theorem gL_law_X4_trust : GoodIn wsL_law (wsV RL 18 RX4 yX4_trust wsX4_trust) := goodIn_app (goodIn_of _ (by decide +kernel)) ggL_law_X4_trust
set_option maxRecDepth 20000 in
theorem ggL_law_X5_trust : GoodIn wsL_law wsX5_trust := goodIn_r _ [136, 88, 121, 122, 5, 123, 124, 125, 126, 644, 645, 646, 647, 648, 649, 650, 651, 652, 653, 654, 655, 656, 657, 658, 659, 660, 661, 662, 663, 664, 665] (by decide +kernel) (by decide +kernel)
set_option maxRecDepth 20000 in
theorem gL_law_X5_trust : GoodIn wsL_law (wsV RL 22 RX5 yX5_trust wsX5_trust) := goodIn_app (goodIn_of _ (by decide +kernel)) ggL_law_X5_trust
set_option maxRecDepth 20000 in
theorem ggL_law_X4_know : GoodIn wsL_law wsX4_know := goodIn_r _ [140, 15, 141, 142, 113, 114, 2, 115, 107, 108, 109, 104, 105, 106, 132, 61, 62, 63, 64, 65, 66, 55, 56, 143, 58, 59, 27, 60, 50, 637, 638, 639, 640, 641, 642, 643, 666, 667, 668, 669, 670, 671, 672, 673, 674, 675, 676, 692] (by decide +kernel) (by decide +kernel)
set_option maxRecDepth 20000 in
theorem gL_law_X4_know : GoodIn wsL_law (wsV RL 23 RX4 yX4_know wsX4_know) := goodIn_app (goodIn_of _ (by decide +kernel)) ggL_law_X4_know
set_option maxRecDepth 20000 in
theorem ggL_law_X5_know : GoodIn wsL_law wsX5_know := goodIn_r _ [147, 89, 90, 121, 122, 5, 123, 124, 125, 126, 644, 645, 646, 647, 648, 649, 650, 651, 652, 653, 654, 655, 656, 657, 658, 659, 660, 661, 662, 663, 664, 665] (by decide +kernel) (by decide +kernel)
set_option maxRecDepth 20000 in
theorem gL_law_X5_know : GoodIn wsL_law (wsV RL 26 RX5 yX5_know wsX5_know) := goodIn_app (goodIn_of _ (by decide +kernel)) ggL_law_X5_know
set_option maxRecDepth 20000 in
theorem ggL_law_X4_fade : GoodIn wsL_law wsX4_fade := goodIn_r _ [151, 15, 152, 107, 108, 2, 109, 637, 638, 639, 640, 641, 642, 643, 666, 667, 668, 669, 670, 671, 672, 673, 674, 675, 676] (by decide +kernel) (by decide +kernel)
set_option maxRecDepth 20000 in
theorem gL_law_X4_fade : GoodIn wsL_law (wsV RL 27 RX4 yX4_fade wsX4_fade) := goodIn_app (goodIn_of _ (by decide +kernel)) ggL_law_X4_fade
set_option maxRecDepth 20000 in
theorem ggL_law_X5_fade : GoodIn wsL_law wsX5_fade := goodIn_r _ [156, 92, 124, 125, 5, 126, 644, 645, 646, 647, 648, 649, 650, 651, 652, 653, 654, 655, 656, 657, 658, 659, 660, 661, 662, 663, 664, 665] (by decide +kernel) (by decide +kernel)
set_option maxRecDepth 20000 in
theorem gL_law_X5_fade : GoodIn wsL_law (wsV RL 31 RX5 yX5_fade wsX5_fade) := goodIn_app (goodIn_of _ (by decide +kernel)) ggL_law_X5_fade
set_option maxRecDepth 20000 in
theorem ggL_law_X4_say : GoodIn wsL_law wsX4_say := goodIn_r _ [160, 20, 161, 107, 108, 2, 109, 162, 163, 164, 19, 165, 166, 70, 55, 56, 637, 638, 639, 640, 641, 642, 643, 677, 678, 679, 680, 681, 682, 683, 684] (by decide +kernel) (by decide +kernel)
set_option maxRecDepth 20000 in
theorem gL_law_X4_say : GoodIn wsL_law (wsV RL 32 RX4 yX4_say wsX4_say) := goodIn_app (goodIn_of _ (by decide +kernel)) ggL_law_X4_say
set_option maxRecDepth 20000 in
theorem ggL_law_X5_say : GoodIn wsL_law wsX5_say := goodIn_r _ [170, 171, 94, 124, 125, 5, 126, 644, 645, 646, 647, 648, 649, 650, 651, 652, 653, 654, 655, 656, 657, 658, 659, 660, 661, 662, 663, 664, 665] (by decide +kernel) (by decide +kernel)
set_option maxRecDepth 20000 in
theorem gL_law_X5_say : GoodIn wsL_law (wsV RL 35 RX5 yX5_say wsX5_say) := goodIn_app (goodIn_of _ (by decide +kernel)) ggL_law_X5_say
set_option maxRecDepth 20000 in
theorem ggL_law_X4_wipe : GoodIn wsL_law wsX4_wipe := goodIn_r _ [175, 20, 161, 176, 177, 178, 19, 179, 166, 637, 638, 639, 640, 641, 642, 643, 677, 678, 679, 680, 681, 682, 683, 684] (by decide +kernel) (by decide +kernel)
set_option maxRecDepth 20000 in
theorem gL_law_X4_wipe : GoodIn wsL_law (wsV RL 36 RX4 yX4_wipe wsX4_wipe) := goodIn_app (goodIn_of _ (by decide +kernel)) ggL_law_X4_wipe
set_option maxRecDepth 20000 in
theorem ggL_law_X5_wipe : GoodIn wsL_law wsX5_wipe := goodIn_r _ [183, 171, 644, 645, 646, 647, 648, 649, 650, 651, 652, 653, 654, 655, 656, 657, 658, 659, 660, 661, 662, 663, 664, 665] (by decide +kernel) (by decide +kernel)
set_option maxRecDepth 20000 in
theorem gL_law_X5_wipe : GoodIn wsL_law (wsV RL 40 RX5 yX5_wipe wsX5_wipe) := goodIn_app (goodIn_of _ (by decide +kernel)) ggL_law_X5_wipe
set_option maxRecDepth 20000 in
theorem ggL_law_X4_fault : GoodIn wsL_law wsX4_fault := goodIn_r _ [187, 20, 188, 189, 190, 19, 191, 192, 193, 166, 70, 64, 2, 65, 194, 195, 196, 197, 198, 199, 200, 201, 71, 55, 56, 202, 203, 204, 205, 72, 114, 115, 107, 108, 109, 206, 207, 208, 209, 73, 210, 211, 212, 213, 214, 215, 216, 217, 74, 105, 106, 637, 638, 639, 640, 641, 642, 643, 677, 678, 679, 680, 681, 682, 683, 684] (by decide +kernel) (by decide +kernel)
set_option maxRecDepth 20000 in
theorem gL_law_X4_fault : GoodIn wsL_law (wsV RL 41 RX4 yX4_fault wsX4_fault) := goodIn_app (goodIn_of _ (by decide +kernel)) ggL_law_X4_fault
set_option maxRecDepth 20000 in
theorem ggL_law_X5_fault : GoodIn wsL_law wsX5_fault := goodIn_r _ [221, 222, 223, 224, 5, 225, 171, 94, 124, 125, 126, 644, 645, 646, 647, 648, 649, 650, 651, 652, 653, 654, 655, 656, 657, 658, 659, 660, 661, 662, 663, 664, 665] (by decide +kernel) (by decide +kernel)
set_option maxRecDepth 20000 in
theorem gL_law_X5_fault : GoodIn wsL_law (wsV RL 44 RX5 yX5_fault wsX5_fault) := goodIn_app (goodIn_of _ (by decide +kernel)) ggL_law_X5_fault
set_option maxRecDepth 20000 in
theorem ggL_law_X4_vain : GoodIn wsL_law wsX4_vain := goodIn_r _ [229, 28, 15, 142, 20, 230, 231, 232, 233, 2, 234, 235, 188, 189, 190, 19, 191, 192, 193, 166, 70, 64, 65, 194, 195, 196, 197, 198, 199, 200, 201, 71, 55, 56, 202, 203, 204, 205, 72, 114, 115, 107, 108, 109, 206, 207, 208, 209, 73, 210, 211, 212, 213, 214, 215, 216, 217, 74, 105, 106, 236, 237, 238, 27, 239, 50, 240, 241, 63, 242, 243, 244, 245, 246, 247, 30, 248, 249, 250, 251, 252, 253, 254, 255, 256, 14, 257, 40, 38, 41, 46, 258, 259, 260, 261, 262, 263, 264, 265, 266, 267, 57, 58, 59, 60, 268, 269, 270, 271, 637, 638, 639, 640, 641, 642, 643, 666, 667, 668, 669, 670, 671, 672, 673, 674, 675, 676, 677, 678, 679, 680, 681, 682, 683, 684, 692] (by decide +kernel) (by decide +kernel)
set_option maxRecDepth 20000 in
theorem gL_law_X4_vain : GoodIn wsL_law (wsV RL 45 RX4 yX4_vain wsX4_vain) := goodIn_app (goodIn_of _ (by decide +kernel)) ggL_law_X4_vain
set_option maxRecDepth 20000 in
theorem ggL_law_X5_vain : GoodIn wsL_law wsX5_vain := goodIn_r _ [275, 276, 277, 278, 279, 5, 280, 222, 223, 224, 225, 171, 94, 124, 125, 126, 281, 282, 283, 284, 285, 286, 287, 288, 289, 290, 291, 292, 293, 95, 90, 294, 295, 296, 297, 298, 299, 300, 301, 88, 302, 303, 304, 305, 306, 307, 308, 87, 89, 92, 644, 645, 646, 647, 648, 649, 650, 651, 652, 653, 654, 655, 656, 657, 658, 659, 660, 661, 662, 663, 664, 665] (by decide +kernel) (by decide +kernel)
set_option maxRecDepth 20000 in
theorem gL_law_X5_vain : GoodIn wsL_law (wsV RL 48 RX5 yX5_vain wsX5_vain) := goodIn_app (goodIn_of _ (by decide +kernel)) ggL_law_X5_vain
set_option maxRecDepth 20000 in
theorem ggL_law_X4_done : GoodIn wsL_law wsX4_done := goodIn_r _ [312, 15, 142, 20, 230, 231, 232, 233, 2, 234, 235, 188, 189, 190, 19, 191, 192, 193, 166, 70, 64, 65, 194, 195, 196, 197, 198, 199, 200, 201, 71, 55, 56, 202, 203, 204, 205, 72, 114, 115, 107, 108, 109, 206, 207, 208, 209, 73, 210, 211, 212, 213, 214, 215, 216, 217, 74, 105, 106, 313, 314, 315, 316, 242, 243, 244, 245, 246, 247, 30, 248, 249, 63, 250, 251, 252, 27, 253, 50, 254, 255, 256, 14, 257, 40, 38, 41, 46, 258, 259, 260, 261, 262, 263, 264, 265, 266, 267, 57, 58, 59, 60, 268, 269, 270, 271, 176, 177, 178, 179, 637, 638, 639, 640, 641, 642, 643, 666, 667, 668, 669, 670, 671, 672, 673, 674, 675, 676, 677, 678, 679, 680, 681, 682, 683, 684, 692] (by decide +kernel) (by decide +kernel)
set_option maxRecDepth 20000 in
theorem gL_law_X4_done : GoodIn wsL_law (wsV RL 49 RX4 yX4_done wsX4_done) := goodIn_app (goodIn_of _ (by decide +kernel)) ggL_law_X4_done
set_option maxRecDepth 20000 in
theorem ggL_law_X5_done : GoodIn wsL_law wsX5_done := goodIn_r _ [320, 90, 95, 171, 289, 277, 278, 279, 5, 280, 222, 223, 224, 225, 94, 124, 125, 126, 281, 282, 283, 284, 285, 286, 287, 288, 276, 290, 291, 292, 293, 294, 295, 296, 297, 298, 299, 300, 301, 88, 302, 303, 304, 305, 306, 307, 308, 87, 89, 92, 644, 645, 646, 647, 648, 649, 650, 651, 652, 653, 654, 655, 656, 657, 658, 659, 660, 661, 662, 663, 664, 665] (by decide +kernel) (by decide +kernel)
set_option maxRecDepth 20000 in
theorem gL_law_X5_done : GoodIn wsL_law (wsV RL 52 RX5 yX5_done wsX5_done) := goodIn_app (goodIn_of _ (by decide +kernel)) ggL_law_X5_done
set_option maxRecDepth 20000 in
theorem ggL_law_X4_bears : GoodIn wsL_law wsX4_bears := goodIn_r _ [324, 15, 142, 104, 105, 2, 106, 107, 108, 109, 325, 326, 327, 113, 114, 115, 328, 329, 330, 331, 332, 333, 27, 334, 335, 263, 264, 265, 50, 336, 637, 638, 639, 640, 641, 642, 643, 666, 667, 668, 669, 670, 671, 672, 673, 674, 675, 676, 692] (by decide +kernel) (by decide +kernel)
set_option maxRecDepth 20000 in
theorem gL_law_X4_bears : GoodIn wsL_law (wsV RL 53 RX4 yX4_bears wsX4_bears) := goodIn_app (goodIn_of _ (by decide +kernel)) ggL_law_X4_bears
set_option maxRecDepth 20000 in
theorem ggL_law_X5_bears : GoodIn wsL_law wsX5_bears := goodIn_r _ [340, 121, 122, 5, 123, 124, 125, 126, 290, 291, 292, 293, 95, 90, 341, 342, 343, 344, 345, 346, 347, 348, 644, 645, 646, 647, 648, 649, 650, 651, 652, 653, 654, 655, 656, 657, 658, 659, 660, 661, 662, 663, 664, 665] (by decide +kernel) (by decide +kernel)
set_option maxRecDepth 20000 in
theorem gL_law_X5_bears : GoodIn wsL_law (wsV RL 57 RX5 yX5_bears wsX5_bears) := goodIn_app (goodIn_of _ (by decide +kernel)) ggL_law_X5_bears
set_option maxRecDepth 20000 in
theorem ggL_law_X4_behind : GoodIn wsL_law wsX4_behind := goodIn_r _ [352, 28, 15, 142, 104, 105, 2, 106, 107, 108, 109, 325, 326, 327, 113, 114, 115, 231, 232, 233, 234, 20, 235, 188, 189, 190, 19, 191, 192, 193, 166, 70, 64, 65, 194, 195, 196, 197, 198, 199, 200, 201, 71, 55, 56, 202, 203, 204, 205, 72, 206, 207, 208, 209, 73, 210, 211, 212, 213, 214, 215, 216, 217, 74, 236, 237, 238, 27, 239, 50, 240, 241, 63, 313, 314, 315, 316, 230, 242, 243, 244, 245, 246, 247, 30, 248, 249, 250, 251, 252, 253, 254, 255, 256, 14, 257, 40, 38, 41, 46, 258, 259, 260, 261, 262, 263, 264, 265, 266, 267, 57, 58, 59, 60, 268, 269, 270, 271, 328, 329, 330, 331, 332, 333, 334, 335, 336, 637, 638, 639, 640, 641, 642, 643, 666, 667, 668, 669, 670, 671, 672, 673, 674, 675, 676, 677, 678, 679, 680, 681, 682, 683, 684, 692] (by decide +kernel) (by decide +kernel)
set_option maxRecDepth 20000 in
theorem gL_law_X4_behind : GoodIn wsL_law (wsV RL 58 RX4 yX4_behind wsX4_behind) := goodIn_app (goodIn_of _ (by decide +kernel)) ggL_law_X4_behind
set_option maxRecDepth 20000 in
theorem ggL_law_X5_behind : GoodIn wsL_law wsX5_behind := goodIn_r _ [356, 121, 122, 5, 123, 124, 125, 126, 277, 278, 279, 280, 222, 223, 224, 225, 171, 94, 281, 282, 283, 284, 285, 286, 287, 288, 289, 276, 290, 291, 292, 293, 95, 90, 294, 295, 296, 297, 298, 299, 300, 301, 88, 302, 303, 304, 305, 306, 307, 308, 87, 89, 92, 341, 342, 343, 344, 345, 346, 347, 348, 644, 645, 646, 647, 648, 649, 650, 651, 652, 653, 654, 655, 656, 657, 658, 659, 660, 661, 662, 663, 664, 665] (by decide +kernel) (by decide +kernel)
set_option maxRecDepth 20000 in
theorem gL_law_X5_behind : GoodIn wsL_law (wsV RL 61 RX5 yX5_behind wsX5_behind) := goodIn_app (goodIn_of _ (by decide +kernel)) ggL_law_X5_behind
set_option maxRecDepth 20000 in
theorem ggL_law_X4_falls : GoodIn wsL_law wsX4_falls := goodIn_r _ [360, 31, 15, 142, 110, 111, 2, 112, 107, 108, 109, 361, 362, 363, 364, 365, 366, 367, 368, 369, 370, 66, 55, 56, 63, 64, 65, 371, 372, 373, 14, 374, 36, 37, 105, 106, 331, 332, 333, 27, 334, 335, 263, 264, 265, 50, 637, 638, 639, 640, 641, 642, 643, 666, 667, 668, 669, 670, 671, 672, 673, 674, 675, 676, 692] (by decide +kernel) (by decide +kernel)
set_option maxRecDepth 20000 in
theorem gL_law_X4_falls : GoodIn wsL_law (wsV RL 62 RX4 yX4_falls wsX4_falls) := goodIn_app (goodIn_of _ (by decide +kernel)) ggL_law_X4_falls
set_option maxRecDepth 20000 in
theorem ggL_law_X5_falls : GoodIn wsL_law wsX5_falls := goodIn_r _ [378, 121, 122, 5, 123, 124, 125, 126, 379, 380, 381, 290, 291, 292, 293, 95, 90, 382, 383, 384, 385, 85, 86, 345, 346, 347, 348, 644, 645, 646, 647, 648, 649, 650, 651, 652, 653, 654, 655, 656, 657, 658, 659, 660, 661, 662, 663, 664, 665] (by decide +kernel) (by decide +kernel)
set_option maxRecDepth 20000 in
theorem gL_law_X5_falls : GoodIn wsL_law (wsV RL 66 RX5 yX5_falls wsX5_falls) := goodIn_app (goodIn_of _ (by decide +kernel)) ggL_law_X5_falls
set_option maxRecDepth 20000 in
theorem ggL_law_X4_tellings : GoodIn wsL_law wsX4_tellings := goodIn_r _ [389, 24, 15, 390, 110, 111, 2, 112, 107, 108, 109, 361, 362, 363, 391, 392, 393, 394, 28, 142, 236, 237, 238, 27, 239, 50, 240, 241, 63, 64, 65, 331, 332, 333, 334, 335, 263, 264, 265, 395, 396, 397, 398, 399, 259, 260, 14, 261, 38, 262, 400, 401, 402, 403, 254, 255, 256, 257, 40, 41, 46, 258, 266, 267, 57, 58, 59, 60, 55, 56, 404, 405, 406, 23, 407, 78, 408, 409, 410, 411, 412, 413, 414, 415, 416, 417, 418, 419, 420, 421, 422, 423, 424, 425, 426, 427, 79, 80, 428, 429, 430, 431, 432, 433, 434, 435, 436, 437, 372, 373, 374, 36, 37, 105, 106, 438, 439, 440, 441, 442, 637, 638, 639, 640, 641, 642, 643, 685, 686, 687, 688, 689, 690, 691, 666, 667, 668, 669, 670, 671, 672, 673, 674, 675, 676, 692] (by decide +kernel) (by decide +kernel)
set_option maxRecDepth 20000 in
theorem gL_law_X4_tellings : GoodIn wsL_law (wsV RL 67 RX4 yX4_tellings wsX4_tellings) := goodIn_app (goodIn_of _ (by decide +kernel)) ggL_law_X4_tellings
set_option maxRecDepth 20000 in
theorem ggL_law_X5_tellings : GoodIn wsL_law wsX5_tellings := goodIn_r _ [446, 447, 448, 449, 121, 122, 5, 123, 124, 125, 126, 290, 291, 292, 293, 95, 90, 450, 451, 452, 453, 96, 454, 345, 346, 347, 348, 455, 456, 457, 458, 87, 89, 88, 302, 303, 304, 459, 460, 461, 462, 379, 380, 381, 463, 464, 465, 466, 382, 383, 384, 385, 85, 86, 644, 645, 646, 647, 648, 649, 650, 651, 652, 653, 654, 655, 656, 657, 658, 659, 660, 661, 662, 663, 664, 665] (by decide +kernel) (by decide +kernel)
set_option maxRecDepth 20000 in
theorem gL_law_X5_tellings : GoodIn wsL_law (wsV RL 70 RX5 yX5_tellings wsX5_tellings) := goodIn_app (goodIn_of _ (by decide +kernel)) ggL_law_X5_tellings
set_option maxRecDepth 20000 in
theorem ggL_law_X4_stands : GoodIn wsL_law wsX4_stands := goodIn_r _ [470, 110, 111, 2, 112, 107, 108, 109, 361, 362, 363, 471, 472, 473, 474, 24, 15, 142, 331, 332, 333, 27, 334, 335, 263, 264, 265, 50, 404, 405, 406, 23, 407, 78, 55, 56, 408, 409, 410, 411, 412, 413, 414, 415, 416, 417, 418, 419, 420, 421, 422, 423, 424, 425, 426, 427, 79, 80, 428, 429, 430, 431, 240, 241, 63, 64, 65, 432, 433, 434, 435, 436, 437, 372, 373, 14, 374, 36, 37, 105, 106, 438, 637, 638, 639, 640, 641, 642, 643, 666, 667, 668, 669, 670, 671, 672, 673, 674, 675, 676, 692, 685, 686, 687, 688, 689, 690, 691] (by decide +kernel) (by decide +kernel)
set_option maxRecDepth 20000 in
theorem gL_law_X4_stands : GoodIn wsL_law (wsV RL 71 RX4 yX4_stands wsX4_stands) := goodIn_app (goodIn_of _ (by decide +kernel)) ggL_law_X4_stands
set_option maxRecDepth 20000 in
theorem ggL_law_X5_stands : GoodIn wsL_law wsX5_stands := goodIn_r _ [478, 96, 454, 121, 122, 5, 123, 124, 125, 126, 290, 291, 292, 293, 95, 90, 345, 346, 347, 348, 459, 460, 461, 462, 447, 448, 449, 379, 380, 381, 463, 464, 465, 466, 382, 383, 384, 385, 85, 86, 294, 295, 296, 297, 644, 645, 646, 647, 648, 649, 650, 651, 652, 653, 654, 655, 656, 657, 658, 659, 660, 661, 662, 663, 664, 665] (by decide +kernel) (by decide +kernel)
set_option maxRecDepth 20000 in
theorem gL_law_X5_stands : GoodIn wsL_law (wsV RL 75 RX5 yX5_stands wsX5_stands) := goodIn_app (goodIn_of _ (by decide +kernel)) ggL_law_X5_stands
set_option maxRecDepth 20000 in
theorem ggL_law_X4_word : GoodIn wsL_law wsX4_word := goodIn_r _ [482, 28, 15, 142, 364, 365, 2, 366, 236, 237, 238, 27, 239, 50, 240, 241, 63, 64, 65, 483, 484, 485, 486, 268, 269, 270, 14, 271, 40, 266, 267, 262, 263, 264, 265, 57, 58, 59, 60, 55, 56, 637, 638, 639, 640, 641, 642, 643, 666, 667, 668, 669, 670, 671, 672, 673, 674, 675, 676, 692] (by decide +kernel) (by decide +kernel)
set_option maxRecDepth 20000 in
theorem gL_law_X4_word : GoodIn wsL_law (wsV RL 76 RX4 yX4_word wsX4_word) := goodIn_app (goodIn_of _ (by decide +kernel)) ggL_law_X4_word
set_option maxRecDepth 20000 in
theorem ggL_law_X5_word : GoodIn wsL_law wsX5_word := goodIn_r _ [490, 124, 125, 5, 126, 290, 291, 292, 293, 95, 90, 298, 299, 300, 301, 88, 302, 303, 304, 644, 645, 646, 647, 648, 649, 650, 651, 652, 653, 654, 655, 656, 657, 658, 659, 660, 661, 662, 663, 664, 665] (by decide +kernel) (by decide +kernel)
set_option maxRecDepth 20000 in
theorem gL_law_X5_word : GoodIn wsL_law (wsV RL 79 RX5 yX5_word wsX5_word) := goodIn_app (goodIn_of _ (by decide +kernel)) ggL_law_X5_word
set_option maxRecDepth 20000 in
theorem ggL_law_X4_rumour : GoodIn wsL_law wsX4_rumour := goodIn_r _ [494, 28, 15, 142, 104, 105, 2, 106, 107, 108, 109, 361, 362, 363, 236, 237, 238, 27, 239, 50, 240, 241, 63, 64, 65, 331, 332, 333, 334, 335, 263, 264, 265, 395, 396, 397, 398, 399, 259, 260, 14, 261, 38, 262, 400, 401, 402, 403, 254, 255, 256, 257, 40, 41, 46, 258, 266, 267, 57, 58, 59, 60, 55, 56, 250, 251, 252, 253, 637, 638, 639, 640, 641, 642, 643, 666, 667, 668, 669, 670, 671, 672, 673, 674, 675, 676, 692] (by decide +kernel) (by decide +kernel)
set_option maxRecDepth 20000 in
theorem gL_law_X4_rumour : GoodIn wsL_law (wsV RL 80 RX4 yX4_rumour wsX4_rumour) := goodIn_app (goodIn_of _ (by decide +kernel)) ggL_law_X4_rumour
set_option maxRecDepth 20000 in
theorem ggL_law_X5_rumour : GoodIn wsL_law wsX5_rumour := goodIn_r _ [498, 87, 95, 289, 121, 122, 5, 123, 124, 125, 126, 290, 291, 292, 293, 90, 345, 346, 347, 348, 302, 303, 304, 305, 306, 307, 308, 88, 89, 92, 294, 295, 296, 297, 644, 645, 646, 647, 648, 649, 650, 651, 652, 653, 654, 655, 656, 657, 658, 659, 660, 661, 662, 663, 664, 665] (by decide +kernel) (by decide +kernel)
set_option maxRecDepth 20000 in
theorem gL_law_X5_rumour : GoodIn wsL_law (wsV RL 83 RX5 yX5_rumour wsX5_rumour) := goodIn_app (goodIn_of _ (by decide +kernel)) ggL_law_X5_rumour
set_option maxRecDepth 20000 in
theorem ggL_law_X4_odds : GoodIn wsL_law wsX4_odds := goodIn_r _ [502, 28, 15, 142, 104, 105, 2, 106, 107, 108, 109, 113, 114, 115, 364, 365, 366, 236, 237, 238, 27, 239, 50, 240, 241, 63, 64, 65, 400, 401, 402, 403, 254, 255, 256, 14, 257, 40, 38, 41, 46, 258, 259, 260, 261, 262, 263, 264, 265, 266, 267, 57, 58, 59, 60, 55, 56, 483, 484, 485, 486, 268, 269, 270, 271, 331, 332, 333, 334, 335, 637, 638, 639, 640, 641, 642, 643, 666, 667, 668, 669, 670, 671, 672, 673, 674, 675, 676, 692] (by decide +kernel) (by decide +kernel)
set_option maxRecDepth 20000 in
theorem gL_law_X4_odds : GoodIn wsL_law (wsV RL 84 RX4 yX4_odds wsX4_odds) := goodIn_app (goodIn_of _ (by decide +kernel)) ggL_law_X4_odds
set_option maxRecDepth 20000 in
theorem ggL_law_X5_odds : GoodIn wsL_law wsX5_odds := goodIn_r _ [506, 121, 122, 5, 123, 124, 125, 126, 290, 291, 292, 293, 95, 90, 507, 508, 509, 510, 289, 298, 299, 300, 301, 88, 302, 303, 304, 305, 306, 307, 308, 87, 89, 92, 345, 346, 347, 348, 644, 645, 646, 647, 648, 649, 650, 651, 652, 653, 654, 655, 656, 657, 658, 659, 660, 661, 662, 663, 664, 665] (by decide +kernel) (by decide +kernel)
set_option maxRecDepth 20000 in
theorem gL_law_X5_odds : GoodIn wsL_law (wsV RL 87 RX5 yX5_odds wsX5_odds) := goodIn_app (goodIn_of _ (by decide +kernel)) ggL_law_X5_odds
set_option maxRecDepth 20000 in
theorem ggL_law_X4_tenths : GoodIn wsL_law wsX4_tenths := goodIn_r _ [514, 15, 515, 104, 105, 2, 106, 107, 108, 109, 63, 64, 65, 66, 55, 56, 637, 638, 639, 640, 641, 642, 643, 666, 667, 668, 669, 670, 671, 672, 673, 674, 675, 676] (by decide +kernel) (by decide +kernel)
set_option maxRecDepth 20000 in
theorem gL_law_X4_tenths : GoodIn wsL_law (wsV RL 88 RX4 yX4_tenths wsX4_tenths) := goodIn_app (goodIn_of _ (by decide +kernel)) ggL_law_X4_tenths
set_option maxRecDepth 20000 in
theorem ggL_law_X5_tenths : GoodIn wsL_law wsX5_tenths := goodIn_r _ [519, 91, 121, 122, 5, 123, 124, 125, 126, 644, 645, 646, 647, 648, 649, 650, 651, 652, 653, 654, 655, 656, 657, 658, 659, 660, 661, 662, 663, 664, 665] (by decide +kernel) (by decide +kernel)
set_option maxRecDepth 20000 in
theorem gL_law_X5_tenths : GoodIn wsL_law (wsV RL 91 RX5 yX5_tenths wsX5_tenths) := goodIn_app (goodIn_of _ (by decide +kernel)) ggL_law_X5_tenths
set_option maxRecDepth 20000 in
theorem ggL_law_X4_safe : GoodIn wsL_law wsX4_safe := goodIn_r _ [523, 24, 110, 111, 2, 112, 107, 108, 109, 524, 525, 526, 527, 15, 515, 63, 64, 65, 404, 405, 406, 23, 407, 78, 55, 56, 528, 529, 530, 531, 412, 532, 413, 414, 415, 416, 417, 418, 419, 420, 421, 422, 423, 424, 425, 426, 427, 79, 80, 428, 429, 430, 431, 240, 241, 432, 433, 434, 435, 436, 437, 372, 373, 14, 374, 36, 37, 105, 106, 439, 440, 441, 442, 637, 638, 639, 640, 641, 642, 643, 666, 667, 668, 669, 670, 671, 672, 673, 674, 675, 676, 685, 686, 687, 688, 689, 690, 691] (by decide +kernel) (by decide +kernel)
set_option maxRecDepth 20000 in
theorem gL_law_X4_safe : GoodIn wsL_law (wsV RL 92 RX4 yX4_safe wsX4_safe) := goodIn_app (goodIn_of _ (by decide +kernel)) ggL_law_X4_safe
set_option maxRecDepth 20000 in
theorem ggL_law_X5_safe : GoodIn wsL_law wsX5_safe := goodIn_r _ [536, 448, 449, 121, 122, 5, 123, 124, 125, 126, 537, 538, 539, 540, 91, 541, 379, 380, 381, 463, 464, 465, 466, 382, 383, 384, 385, 85, 86, 644, 645, 646, 647, 648, 649, 650, 651, 652, 653, 654, 655, 656, 657, 658, 659, 660, 661, 662, 663, 664, 665] (by decide +kernel) (by decide +kernel)
set_option maxRecDepth 20000 in
theorem gL_law_X5_safe : GoodIn wsL_law (wsV RL 95 RX5 yX5_safe wsX5_safe) := goodIn_app (goodIn_of _ (by decide +kernel)) ggL_law_X5_safe
set_option maxRecDepth 20000 in
theorem ggL_law_X4_chance : GoodIn wsL_law wsX4_chance := goodIn_r _ [545, 546, 547, 24, 390, 548, 110, 111, 2, 112, 107, 108, 109, 364, 365, 366, 524, 525, 526, 527, 15, 515, 63, 64, 65, 404, 405, 406, 23, 407, 78, 55, 56, 528, 529, 530, 531, 412, 532, 413, 414, 415, 416, 417, 418, 419, 420, 421, 422, 423, 424, 425, 426, 427, 79, 80, 428, 429, 430, 431, 240, 241, 432, 433, 434, 435, 436, 437, 372, 373, 14, 374, 36, 37, 105, 106, 438, 549, 550, 551, 637, 638, 639, 640, 641, 642, 643, 685, 686, 687, 688, 689, 690, 691, 666, 667, 668, 669, 670, 671, 672, 673, 674, 675, 676] (by decide +kernel) (by decide +kernel)
set_option maxRecDepth 20000 in
theorem gL_law_X4_chance : GoodIn wsL_law (wsV RL 96 RX4 yX4_chance wsX4_chance) := goodIn_app (goodIn_of _ (by decide +kernel)) ggL_law_X4_chance
set_option maxRecDepth 20000 in
theorem ggL_law_X5_chance : GoodIn wsL_law wsX5_chance := goodIn_r _ [555, 556, 557, 541, 448, 121, 122, 5, 123, 124, 125, 126, 537, 538, 539, 540, 91, 449, 379, 380, 381, 463, 464, 465, 466, 382, 383, 384, 385, 85, 86, 644, 645, 646, 647, 648, 649, 650, 651, 652, 653, 654, 655, 656, 657, 658, 659, 660, 661, 662, 663, 664, 665] (by decide +kernel) (by decide +kernel)
set_option maxRecDepth 20000 in
theorem gL_law_X5_chance : GoodIn wsL_law (wsV RL 100 RX5 yX5_chance wsX5_chance) := goodIn_app (goodIn_of _ (by decide +kernel)) ggL_law_X5_chance
set_option maxRecDepth 20000 in
theorem ggL_law_X4_seen : GoodIn wsL_law wsX4_seen := goodIn_r _ [561, 15, 562, 563, 564, 104, 105, 2, 106, 107, 108, 109, 66, 55, 56, 637, 638, 639, 640, 641, 642, 643, 666, 667, 668, 669, 670, 671, 672, 673, 674, 675, 676] (by decide +kernel) (by decide +kernel)
set_option maxRecDepth 20000 in
theorem gL_law_X4_seen : GoodIn wsL_law (wsV RL 101 RX4 yX4_seen wsX4_seen) := goodIn_app (goodIn_of _ (by decide +kernel)) ggL_law_X4_seen
set_option maxRecDepth 20000 in
theorem ggL_law_X5_seen : GoodIn wsL_law wsX5_seen := goodIn_r _ [568, 569, 93, 121, 122, 5, 123, 124, 125, 126, 644, 645, 646, 647, 648, 649, 650, 651, 652, 653, 654, 655, 656, 657, 658, 659, 660, 661, 662, 663, 664, 665] (by decide +kernel) (by decide +kernel)
set_option maxRecDepth 20000 in
theorem gL_law_X5_seen : GoodIn wsL_law (wsV RL 104 RX5 yX5_seen wsX5_seen) := goodIn_app (goodIn_of _ (by decide +kernel)) ggL_law_X5_seen
set_option maxRecDepth 20000 in
theorem ggL_law_X4_forget : GoodIn wsL_law wsX4_forget := goodIn_r _ [573, 15, 562, 637, 638, 639, 640, 641, 642, 643, 666, 667, 668, 669, 670, 671, 672, 673, 674, 675, 676] (by decide +kernel) (by decide +kernel)
set_option maxRecDepth 20000 in
theorem gL_law_X4_forget : GoodIn wsL_law (wsV RL 105 RX4 yX4_forget wsX4_forget) := goodIn_app (goodIn_of _ (by decide +kernel)) ggL_law_X4_forget
set_option maxRecDepth 20000 in
theorem ggL_law_X5_forget : GoodIn wsL_law wsX5_forget := goodIn_r _ [577, 569, 644, 645, 646, 647, 648, 649, 650, 651, 652, 653, 654, 655, 656, 657, 658, 659, 660, 661, 662, 663, 664, 665] (by decide +kernel) (by decide +kernel)
set_option maxRecDepth 20000 in
theorem gL_law_X5_forget : GoodIn wsL_law (wsV RL 108 RX5 yX5_forget wsX5_forget) := goodIn_app (goodIn_of _ (by decide +kernel)) ggL_law_X5_forget
set_option maxRecDepth 20000 in
theorem ggL_law_X4_filled : GoodIn wsL_law wsX4_filled := goodIn_r _ [581, 20, 235, 30, 188, 189, 190, 19, 191, 192, 193, 166, 70, 64, 2, 65, 194, 195, 196, 197, 198, 199, 200, 201, 71, 55, 56, 202, 203, 204, 205, 72, 114, 115, 107, 108, 109, 206, 207, 208, 209, 73, 210, 211, 212, 213, 214, 215, 216, 217, 74, 105, 106, 582, 583, 584, 585, 66, 586, 587, 588, 589, 28, 15, 142, 230, 562, 563, 564, 236, 237, 238, 27, 239, 50, 240, 241, 63, 242, 243, 244, 245, 246, 247, 248, 249, 250, 251, 252, 253, 254, 255, 256, 14, 257, 40, 38, 41, 46, 258, 259, 260, 261, 262, 263, 264, 265, 266, 267, 57, 58, 59, 60, 268, 269, 270, 271, 331, 332, 333, 334, 335, 637, 638, 639, 640, 641, 642, 643, 677, 678, 679, 680, 681, 682, 683, 684, 666, 667, 668, 669, 670, 671, 672, 673, 674, 675, 676, 692] (by decide +kernel) (by decide +kernel)
set_option maxRecDepth 20000 in
theorem gL_law_X4_filled : GoodIn wsL_law (wsV RL 109 RX4 yX4_filled wsX4_filled) := goodIn_app (goodIn_of _ (by decide +kernel)) ggL_law_X4_filled
set_option maxRecDepth 20000 in
theorem ggL_law_X5_filled : GoodIn wsL_law wsX5_filled := goodIn_r _ [593, 569, 93, 222, 223, 224, 5, 225, 171, 94, 124, 125, 126, 281, 282, 283, 284, 379, 380, 381, 285, 286, 287, 288, 289, 276, 290, 291, 292, 293, 95, 90, 294, 295, 296, 297, 298, 299, 300, 301, 88, 302, 303, 304, 305, 306, 307, 308, 87, 89, 92, 345, 346, 347, 348, 644, 645, 646, 647, 648, 649, 650, 651, 652, 653, 654, 655, 656, 657, 658, 659, 660, 661, 662, 663, 664, 665] (by decide +kernel) (by decide +kernel)
set_option maxRecDepth 20000 in
theorem gL_law_X5_filled : GoodIn wsL_law (wsV RL 112 RX5 yX5_filled wsX5_filled) := goodIn_app (goodIn_of _ (by decide +kernel)) ggL_law_X5_filled
set_option maxRecDepth 20000 in
theorem ggL_law_X4_year : GoodIn wsL_law wsX4_year := goodIn_r _ [597, 28, 15, 142, 598, 104, 105, 2, 106, 107, 108, 109, 236, 237, 238, 27, 239, 50, 240, 241, 63, 64, 65, 254, 255, 256, 14, 257, 40, 38, 41, 46, 258, 259, 260, 261, 262, 263, 264, 265, 266, 267, 57, 58, 59, 60, 55, 56, 250, 251, 252, 253, 331, 332, 333, 334, 335, 637, 638, 639, 640, 641, 642, 643, 666, 667, 668, 669, 670, 671, 672, 673, 674, 675, 676, 692] (by decide +kernel) (by decide +kernel)
set_option maxRecDepth 20000 in
theorem gL_law_X4_year : GoodIn wsL_law (wsV RL 113 RX4 yX4_year wsX4_year) := goodIn_app (goodIn_of _ (by decide +kernel)) ggL_law_X4_year
set_option maxRecDepth 20000 in
theorem ggL_law_X5_year : GoodIn wsL_law wsX5_year := goodIn_r _ [602, 603, 124, 125, 5, 126, 290, 291, 292, 293, 95, 90, 305, 306, 307, 308, 87, 88, 89, 92, 302, 303, 304, 294, 295, 296, 297, 345, 346, 347, 348, 644, 645, 646, 647, 648, 649, 650, 651, 652, 653, 654, 655, 656, 657, 658, 659, 660, 661, 662, 663, 664, 665] (by decide +kernel) (by decide +kernel)
set_option maxRecDepth 20000 in
theorem gL_law_X5_year : GoodIn wsL_law (wsV RL 116 RX5 yX5_year wsX5_year) := goodIn_app (goodIn_of _ (by decide +kernel)) ggL_law_X5_year
set_option maxRecDepth 20000 in
theorem ggL_law_X4_image : GoodIn wsL_law wsX4_image := goodIn_r _ [607, 16, 12, 13, 14, 15, 32, 33, 34, 35, 10, 11, 29, 36, 37, 38, 39, 40, 41, 42, 43, 44, 26, 27, 45, 46, 47, 48, 49, 50, 51, 52, 53, 54, 55, 2, 56, 57, 58, 59, 60, 61, 62, 63, 64, 65, 66, 608, 609, 610, 611, 612, 240, 241, 613, 237, 238, 239, 637, 638, 639, 640, 641, 642, 643, 666, 667, 668, 669, 670, 671, 672, 673, 674, 675, 676, 692] (by decide +kernel) (by decide +kernel)
set_option maxRecDepth 20000 in
theorem gL_law_X4_image : GoodIn wsL_law (wsV RL 117 RX4 yX4_image wsX4_image) := goodIn_app (goodIn_of _ (by decide +kernel)) ggL_law_X4_image
set_option maxRecDepth 20000 in
theorem ggL_law_X5_image : GoodIn wsL_law wsX5_image := goodIn_r _ [617, 97, 90, 85, 86, 87, 88, 89, 91, 93, 92, 569, 99, 124, 125, 5, 126, 644, 645, 646, 647, 648, 649, 650, 651, 652, 653, 654, 655, 656, 657, 658, 659, 660, 661, 662, 663, 664, 665] (by decide +kernel) (by decide +kernel)
set_option maxRecDepth 20000 in
theorem gL_law_X5_image : GoodIn wsL_law (wsV RL 120 RX5 yX5_image wsX5_image) := goodIn_app (goodIn_of _ (by decide +kernel)) ggL_law_X5_image
set_option maxRecDepth 20000 in
theorem ggL_law_X4_restore : GoodIn wsL_law wsX4_restore := goodIn_r _ [621, 16, 15, 608, 609, 610, 14, 611, 36, 37, 38, 39, 40, 41, 42, 43, 45, 46, 612, 240, 2, 241, 63, 64, 65, 613, 237, 238, 27, 239, 50, 637, 638, 639, 640, 641, 642, 643, 666, 667, 668, 669, 670, 671, 672, 673, 674, 675, 676, 692] (by decide +kernel) (by decide +kernel)
set_option maxRecDepth 20000 in
theorem gL_law_X4_restore : GoodIn wsL_law (wsV RL 121 RX4 yX4_restore wsX4_restore) := goodIn_app (goodIn_of _ (by decide +kernel)) ggL_law_X4_restore
set_option maxRecDepth 20000 in
theorem ggL_law_X5_restore : GoodIn wsL_law wsX5_restore := goodIn_r _ [625, 99, 90, 97, 85, 86, 87, 88, 89, 91, 93, 92, 569, 124, 125, 5, 126, 644, 645, 646, 647, 648, 649, 650, 651, 652, 653, 654, 655, 656, 657, 658, 659, 660, 661, 662, 663, 664, 665] (by decide +kernel) (by decide +kernel)
set_option maxRecDepth 20000 in
theorem gL_law_X5_restore : GoodIn wsL_law (wsV RL 124 RX5 yX5_restore wsX5_restore) := goodIn_app (goodIn_of _ (by decide +kernel)) ggL_law_X5_restore
set_option maxRecDepth 20000 in
theorem ggL_law_X4_told : GoodIn wsL_law wsX4_told := goodIn_r _ [629, 20, 161, 15, 152, 562, 131, 141, 630, 631, 632, 515, 63, 64, 2, 65, 637, 638, 639, 640, 641, 642, 643, 677, 678, 679, 680, 681, 682, 683, 684, 666, 667, 668, 669, 670, 671, 672, 673, 674, 675, 676] (by decide +kernel) (by decide +kernel)
set_option maxRecDepth 20000 in
theorem gL_law_X4_told : GoodIn wsL_law (wsV RL 125 RX4 yX4_told wsX4_told) := goodIn_app (goodIn_of _ (by decide +kernel)) ggL_law_X4_told
set_option maxRecDepth 20000 in
theorem ggL_law_X5_told : GoodIn wsL_law wsX5_told := goodIn_r _ [636, 88, 89, 87, 85, 86, 91, 171, 92, 569, 121, 122, 5, 123, 124, 125, 126, 644, 645, 646, 647, 648, 649, 650, 651, 652, 653, 654, 655, 656, 657, 658, 659, 660, 661, 662, 663, 664, 665] (by decide +kernel) (by decide +kernel)
set_option maxRecDepth 20000 in
theorem gL_law_X5_told : GoodIn wsL_law (wsV RL 128 RX5 yX5_told wsX5_told) := goodIn_app (goodIn_of _ (by decide +kernel)) ggL_law_X5_told
end
section
/-! V: the kit's W with heap, locals and frame facts inside: a world ws (a list of cells), locals lv, a stack st. -/
abbrev Gx : Type := va_G × ClassId × ClassId × ClassId
abbrev tyL (G : Gx) : List (ClassId × FieldType) := [(G.2.1, .int), (G.2.2.1, .boolean), (G.2.2.2, .object "LieBridges$Delta")]
def nestL : List (String × Nat × MethodName) := [("LieBridges", 22, yX2_init), ("LieBridges", 29, yX3_init), ("LieBridges", 36, yX0_init), ("LieBridges$Beliefs", 15, yX4_put), ("LieBridges$Beliefs", 23, yX4_copy), ("LieBridges$Delta", 38, yX0_init), ("LieBridges$Delta", 51, yX4_put), ("LieBridges$Delta", 59, yX4_putBit), ("LieBridges$Delta", 63, yX4_at), ("LieBridges$Delta", 75, yX4_hasBit), ("LieBridges$Delta", 79, yX4_isPlank), ("LieBridges$Delta", 83, yX4_copy), ("LieBridges$Pad", 31, yX4_put), ("LieBridges$Pad", 41, yX4_at), ("LieBridges$Pad", 66, yX4_isPerson), ("LieBridges$Pad", 70, yX4_isPlank), ("LieBridges$Ways", 21, yX4_put), ("LieBridges$Ways", 39, yX4_at), ("LieBridges$Ways", 74, yX4_copy)]
def KS (G : Gx) (U : State) : Prop := va_K G.1 vwCl (tyL G) U ∧ (∀ q ∈ nestL, va_Nw (.methodLinkNest q.1 q.2.1 q.2.2 "LieBridges") U) ∧ va_AO "LieBridges$Delta" U
theorem KS.warm {G : Gx} {s U : State} (hW : s.WarmedH U.vm) (h : KS G s) : KS G U :=
  ⟨va_K.moved hW.alike h.1, fun q hq => va_Nw.warmM hW (h.2.1 q hq), va_AO.moved hW.alike h.2.2⟩
theorem KS.calling {G : Gx} {U : State} {g : JFrame} {mk : MethodId} {a : Array Value} (h : KS G U) : KS G (U.calling g mk a) :=
  ⟨va_K.moved (u := U) (U := U.calling g mk a) (Vm.Alike.refl U.vm) h.1, fun q hq => va_Nw.same rfl rfl (h.2.1 q hq), va_AO.moved (u := U) (U := U.calling g mk a) (Vm.Alike.refl U.vm) h.2.2⟩
abbrev cI (G : Gx) (n : Nat) (f : Nat → Int32) : va_E := .inl (G.2.1, n, .inl f)
abbrev cZ (G : Gx) (n : Nat) (f : Nat → Int32) : va_E := .inl (G.2.2.1, n, .inl f)
abbrev cQ (G : Gx) (n : Nat) (f : Nat → Option Nat) : va_E := .inl (G.2.2.2, n, .inr (.inr (.inr (.inr f))))
abbrev cO (k : Nat) (fs : List Value) : va_E := .inr (k, fs)
abbrev Cx : Type := Program × Launch × Env × Room × State × MethodId × Array Value × List Frame × Method × Code × (State → Prop) × (Nat → Prop)
def V : Cx → Gx → Nat → Nat → Nat → Nat → List (Nat × Value) → List Value → va_W → Prop
  | (p, l, e, R, s, m, args, below, meth, c, Q, A), G, nL, n1, n2, pc, lv, st, ws =>
    ∀ (H : Heap) (locs : List Loc) (ls : Array Slot), va_P G.1 vwCl ws H → va_D A ws → va_S A s.heap H locs → lv_has ls nL lv → W p l e R s m args below meth c H locs n1 n2 Q (F0 m pc ls st)
def Okx : Cx → Gx → Nat → ByteArray → List Cond → MethodName → Room → Prop
  | (p, l, e, R, s, m, args, below, meth, c, Q, A), G, nL, cc, Ts, y, rm =>
    p.tables.exec = Jvm.exec ∧ c.code = cc ∧ c.maxLocals = nL ∧ (∀ w ∈ Ts, w.before args s = true) ∧ s.vm.findClass y.cls = some m.cls ∧ KS G s ∧ (∀ q : Nat, s.heap.size ≤ q → A q) ∧ R = rm ∧ meth.name = y.name
def QxN (G : Gx) (wc : va_W) (post : Option Value → va_W → va_W → Prop) (A : Nat → Prop) : Array Value → State → Outcome → State → Prop := fun _ st oc t =>
  (∃ (r : Option Value) (wa wb : va_W), oc = .returned r ∧ post r wa wb ∧ wa.map (fun q => q.1) = wc.map (fun q => q.1) ∧ va_P G.1 vwCl (wa ++ wb) t.heap ∧ va_D A (wa ++ wb)) ∧ va_F A st t
def Rtx : Cx → Gx → va_W → (Option Value → va_W → va_W → Prop) → Nat → Nat → Option FieldType → Prop
  | (p, l, e, R, s, m, args, below, meth, c, Q, A), G, wc, post, mc, ms, ret =>
    Q = MQ below (QxN G wc post A) args s mc ms A ∧ meth.sig.returnType = ret ∧ meth.locks = false
def CtN (G : Gx) (y : MethodName) (ws : List Cond) (rm : Room) (args : List Value) (wc : va_W) (post : Option Value → va_W → va_W → Prop) (mc ms : Nat) : Prop :=
  ∀ (l : Launch) (sz : Nat), Met l y ws rm (va_Pc args (fun U => U.heap.size = sz ∧ va_P G.1 vwCl wc U.heap ∧ KS G U ∧ va_D (fun _ => True) wc)) (QxN G wc post (va_A wc sz)) mc ms (va_A wc sz)
abbrev Ct (G : Gx) (y : MethodName) (ws : List Cond) (rm : Room) (args : List Value) (wc : va_W) (post : Option Value → va_W → Prop) : Prop :=
  CtN G y ws rm args wc (fun r wa wb => post r wa ∧ wb = []) 0 0
theorem CtN.of {G : Gx} {y : MethodName} {ws ws' : List Cond} {rm : Room} {cc : ByteArray} {nL : Nat} {ret : Option FieldType} {args : List Value} {wc : va_W} {post : Option Value → va_W → va_W → Prop} {mc ms : Nat} (lv : List (Nat × Value))
    (hy : plainName y.cls = true) (hw : ws = Cond.code y cc nL ret :: ws') (hn : Nat.ble (lg_sl args).length nL = true) (hlv : lv_args 0 args = lv) (hrm : (headSpec ws rm).room = rm := by rfl)
    (body : ∀ x : Cx, Okx x G nL cc ws y rm → Rtx x G wc post mc ms ret → V x G nL 0 0 0 lv [] wc) : CtN G y ws rm args wc post mc ms := by
  intro l sz
  refine Met.ofW (cc := cc) (maxL := nL) (ret := ret) hy hw ?_
  intro p e s m args2 below meth c s₁ B hml hv
  obtain ⟨rfl, hsz, hP, hK, hD0⟩ := hv
  have hts := atoms_spec (ws := ws) B.pre
  have hD := hD0.self (sz := sz)
  subst hsz
  have hl := lv_entry args (n := nL) (Nat.le_of_ble_eq_true hn)
  rw [lg_entry_eq]
  rw [hlv] at hl
  exact body (p, l, e, (headSpec ws rm).room, s, m, args.toArray, below, meth, c, MQ below (QxN G wc post (va_A wc s.heap.size)) args.toArray s mc ms (va_A wc s.heap.size), va_A wc s.heap.size)
    ⟨B.exec, B.bytes, hml, hts, findClass_of_methodNamed B.named, hK, fun q h => Or.inr h, hrm, (name_of_methodNamed B.named B.method).1⟩ ⟨rfl, B.returns, B.notSynchronized⟩ s.heap [] _ hP hD va_S.rf hl
/-- a run of cells set at places -/
def repl : va_W → List Nat → va_W → va_W
  | ws, i :: is, q :: qs => repl (ws.set i q) is qs
  | ws, _, _ => ws
theorem repl_get : ∀ (is : List Nat) (qs ws : va_W) (k : Nat) (q : Nat × va_E), (repl ws is qs)[k]? = some q → (∃ j : Nat, is[j]? = some k ∧ qs[j]? = some q) ∨ (ws[k]? = some q ∧ ∀ j : Nat, is[j]? = some k → qs.length ≤ j) := by
  intro is
  induction is with
  | nil =>
    intro qs ws k q h
    exact Or.inr ⟨by simpa [repl] using h, fun j hj => by simp at hj⟩
  | cons i is ih =>
    intro qs ws k q h
    cases qs with
    | nil => exact Or.inr ⟨by simpa [repl] using h, fun j _ => Nat.zero_le _⟩
    | cons q0 qs =>
      rcases ih qs (ws.set i q0) k q h with ⟨j, h1, h2⟩ | ⟨h1, h2⟩
      · exact Or.inl ⟨j + 1, by simpa using h1, by simpa using h2⟩
      · by_cases hk : i = k
        · subst hk
          have hl : i < ws.length := by
            have := (List.getElem?_eq_some_iff.mp h1).1
            simpa using this
          rw [List.getElem?_set_self hl] at h1
          exact Or.inl ⟨0, by simp, by simpa using h1⟩
        · rw [List.getElem?_set_ne hk] at h1
          refine Or.inr ⟨h1, fun j hj => ?_⟩
          cases j with
          | zero => simp at hj; exact absurd hj hk
          | succ j => have := h2 j (by simpa using hj); simp only [List.length_cons]; omega
theorem repl_fst : ∀ (is : List Nat) (qs ws : va_W), (∀ (j i : Nat) (q : Nat × va_E), is[j]? = some i → qs[j]? = some q → (ws.map (fun q => q.1))[i]? = some q.1) → (repl ws is qs).map (fun q => q.1) = ws.map (fun q => q.1) := by
  intro is
  induction is with
  | nil => intro qs ws h; simp [repl]
  | cons i is ih =>
    intro qs ws h
    cases qs with
    | nil => simp [repl]
    | cons q0 qs =>
      have h0 := h 0 i q0 (by simp) (by simp)
      have e : (ws.set i q0).map (fun q => q.1) = ws.map (fun q => q.1) := by
        rw [List.map_set]
        apply List.ext_getElem?
        intro k
        by_cases hk : i = k
        · subst hk
          have hl := (List.getElem?_eq_some_iff.mp h0).1
          rw [List.getElem?_set_self hl, h0]
        · rw [List.getElem?_set_ne hk]
      show (repl (ws.set i q0) is qs).map _ = _
      rw [ih qs (ws.set i q0) (fun j i' q h1 h2 => by rw [e]; exact h (j + 1) i' q (by simpa using h1) (by simpa using h2)), e]
theorem va_D.fst {A : Nat → Prop} {w1 w2 : va_W} (h : va_D A w1) (e : w2.map (fun q => q.1) = w1.map (fun q => q.1)) : va_D A w2 := by
  have key : ∀ (k : Nat) (q : Nat × va_E), w2[k]? = some q → ∃ q0 : Nat × va_E, w1[k]? = some q0 ∧ q0.1 = q.1 := by
    intro k q hk
    have h1 : (w2.map (fun q => q.1))[k]? = some q.1 := by rw [List.getElem?_map, hk]; rfl
    rw [e, List.getElem?_map] at h1
    cases h2 : w1[k]? with
    | none => rw [h2] at h1; cases h1
    | some q0 => rw [h2] at h1; exact ⟨q0, rfl, Option.some.inj h1⟩
  refine ⟨fun i j a b hi hj hab => ?_, fun k q hk => ?_⟩
  · obtain ⟨a0, e1, e2⟩ := key i a hi
    obtain ⟨b0, e3, e4⟩ := key j b hj
    exact h.1 i j a0 b0 e1 e3 (by rw [e2, e4, hab])
  · obtain ⟨q0, e1, e2⟩ := key k q hk
    rw [← e2]
    exact h.2 k q0 e1
section RUN
variable {p : Program} {l : Launch} {e : Env} {R : Room} {s : State} {m : MethodId} {args : Array Value} {below : List Frame} {meth : Method} {c : Code} {H : Heap} {locs : List Loc} {cells slots : Nat} {Q : State → Prop}
variable {pc : Nat} {ls : Array Slot} {rest st0 : List Value} {a : Array Value} {A0 A1 : Nat → Prop} {H0 : Heap} {mc ms : Nat} {free : Addr → Prop}
theorem va_useN {G : Gx} {wc : va_W} {post : Option Value → va_W → va_W → Prop} (hr : va_Run p l e R s m args below meth c H locs cells slots mc ms (F0 m pc ls st0) rest (QxN G wc post A1 a) free) (hS : va_S A0 H0 H locs) (hA : ∀ q, q < H.size → A1 q → A0 q) (hf : ∀ q, free q → A0 q)
    (kk : ∀ (r : Option Value) (wa wb : va_W) (H1 : Heap) (locs1 : List Loc), post r wa wb → wa.map (fun q => q.1) = wc.map (fun q => q.1) → va_P G.1 vwCl (wa ++ wb) H1 → va_D A1 (wa ++ wb) → H.size ≤ H1.size → (∀ q : Nat, q < H.size → ¬ A1 q → H1[q]? = H[q]?) → va_S A0 H0 H1 locs1 → W p l e R s m args below meth c H1 locs1 (cells + mc) (slots + ms) Q (F0 m (pc + 3) ls (r.toList ++ rest))) : W p l e R s m args below meth c H locs cells slots Q (F0 m pc ls st0) := by
  intro T hT X
  obtain ⟨v, st₀, t, T', L, h0, X', hL, e1, e2, ⟨⟨r, wa, wb, hv, hp, hm, hPP, hDD⟩, hz, hk⟩, st⟩ := hr T hT X
  cases hv
  rw [h0] at hz hk
  obtain ⟨t2, a1, b1⟩ := kk v wa wb T'.heap (locs ++ L) hp hm (by rw [e1]; exact hPP) hDD (by rw [e1]; exact hz) (fun q h1 h2 => by rw [e1]; exact hk q h1 h2)
    ⟨Nat.le_trans hS.1 (by rw [e1]; exact hz), fun q h1 h2 => by rw [e1, hk q (Nat.lt_of_lt_of_le h1 hS.1) (fun z => h2 (hA q (Nat.lt_of_lt_of_le h1 hS.1) z))]; exact hS.2.1 q h1 h2, fun q hq => by
      rcases List.mem_append.mp hq with h | h
      · exact hS.2.2 q h
      · exact hf _ (hL q h)⟩ T' rfl X'
  exact ⟨t2, st t2 a1, b1⟩
end RUN
/-- the worlds behind a call, in the caller's order -/
theorem va_back {A0 : Nat → Prop} {D : va_G} {cl : List vw_C} {ws wc wa wb : va_W} {H H1 : Heap} (hP : va_P D cl ws H) (hD : va_D A0 ws) (isC : List Nat) (hC : isC.map (fun i => ws[i]?) = wc.map some)
    (hm : wa.map (fun q => q.1) = wc.map (fun q => q.1)) (hk : ∀ q : Nat, q < H.size → ¬ va_A wc H.size q → H1[q]? = H[q]?) (hF : ∀ q, va_A wc H.size q → A0 q) (hP1 : va_P D cl (wa ++ wb) H1) (hD1 : va_D (va_A wc H.size) (wa ++ wb)) : va_P D cl (repl ws isC wa ++ wb) H1 ∧ va_D A0 (repl ws isC wa ++ wb) := by
  have hlen : isC.length = wa.length := by
    have h1 := congrArg List.length hC
    have h2 := congrArg List.length hm
    simp only [List.length_map] at h1 h2
    omega
  have hat : ∀ (j i : Nat), isC[j]? = some i → ∃ q : Nat × va_E, ws[i]? = some q ∧ wc[j]? = some q := by
    intro j i hj
    have h1 : (isC.map (fun i => ws[i]?))[j]? = some (ws[i]?) := by rw [List.getElem?_map, hj]; rfl
    rw [hC, List.getElem?_map] at h1
    cases h2 : wc[j]? with
    | none => rw [h2] at h1; cases h1
    | some q => rw [h2] at h1; exact ⟨q, (Option.some.inj h1).symm, rfl⟩
  have hfst : (repl ws isC wa).map (fun q => q.1) = ws.map (fun q => q.1) := by
    refine repl_fst isC wa ws (fun j i q h1 h2 => ?_)
    obtain ⟨q0, h3, h4⟩ := hat j i h1
    have h5 : (wa.map (fun q => q.1))[j]? = some q.1 := by rw [List.getElem?_map, h2]; rfl
    rw [hm, List.getElem?_map, h4] at h5
    rw [List.getElem?_map, h3]
    exact h5
  have hwaP : va_P D cl wa H1 := fun k q hq => hP1 k q (by rw [List.getElem?_append_left (List.getElem?_eq_some_iff.mp hq).1]; exact hq)
  have hwbP : va_P D cl wb H1 := fun k q hq => hP1 (wa.length + k) q (by rw [List.getElem?_append_right (by omega), Nat.add_sub_cancel_left]; exact hq)
  have hrP : va_P D cl (repl ws isC wa) H1 := by
    intro k q hq
    rcases repl_get isC wa ws k q hq with ⟨j, h1, h2⟩ | ⟨h1, h2⟩
    · exact hwaP j q h2
    · have hni : ∀ j : Nat, isC[j]? = some k → False := by
        intro j hj
        have h3 := h2 j hj
        have h4 := (List.getElem?_eq_some_iff.mp hj).1
        omega
      have hl := (hP k q h1).lt
      refine (hP k q h1).kept (hk q.1 hl (fun h => ?_))
      rcases h with ⟨k2, e, h⟩ | h
      · have hk2 : k2 < isC.length := by
          have h5 := (List.getElem?_eq_some_iff.mp h).1
          have h6 := congrArg List.length hC
          simp only [List.length_map] at h6
          omega
        have h7 : isC[k2]? = some (isC[k2]'hk2) := List.getElem?_eq_getElem hk2
        obtain ⟨q2, h8, h9⟩ := hat k2 _ h7
        have h10 : q2 = (q.1, e) := Option.some.inj (h9.symm.trans h)
        have h11 := hD.1 k _ q q2 h1 h8 (by rw [h10])
        rw [← h11] at h7
        exact hni k2 h7
      · omega
  refine ⟨hrP.app hwbP, (hD.fst hfst).app ?_ ?_⟩
  · refine ⟨fun i j a b hi hj hab => ?_, fun k q hq => ?_⟩
    · have := hD1.1 (wa.length + i) (wa.length + j) a b (by rw [List.getElem?_append_right (by omega), Nat.add_sub_cancel_left]; exact hi) (by rw [List.getElem?_append_right (by omega), Nat.add_sub_cancel_left]; exact hj) hab
      omega
    · exact hF q.1 (hD1.2 (wa.length + k) q (by rw [List.getElem?_append_right (by omega), Nat.add_sub_cancel_left]; exact hq))
  · intro i j a b hi hj hab
    have hb := hD1.2 (wa.length + j) b (by rw [List.getElem?_append_right (by omega), Nat.add_sub_cancel_left]; exact hj)
    have ha : a.1 < H.size := by
      have h1 : ((repl ws isC wa).map (fun q => q.1))[i]? = some a.1 := by rw [List.getElem?_map, hi]; rfl
      rw [hfst, List.getElem?_map] at h1
      cases h2 : ws[i]? with
      | none => rw [h2] at h1; cases h1
      | some q0 => rw [h2] at h1; have := (hP i q0 h2).lt; have h3 : q0.1 = a.1 := Option.some.inj h1; omega
    rcases hb with ⟨k, e, h⟩ | h
    · have h1 : (wc.map (fun q => q.1))[k]? = some b.1 := by rw [List.getElem?_map, h]; rfl
      rw [← hm, List.getElem?_map] at h1
      cases h2 : wa[k]? with
      | none => rw [h2] at h1; cases h1
      | some q0 =>
        rw [h2] at h1
        have hkl := (List.getElem?_eq_some_iff.mp h2).1
        have := hD1.1 k (wa.length + j) q0 b (by rw [List.getElem?_append_left hkl]; exact h2) (by rw [List.getElem?_append_right (by omega), Nat.add_sub_cancel_left]; exact hj) (Option.some.inj h1)
        omega
    · omega
theorem va_freeC {A0 : Nat → Prop} {ws wc : va_W} {H0 H : Heap} {locs : List Loc} (hD : va_D A0 ws) (hS : va_S A0 H0 H locs) (hA : ∀ q, H0.size ≤ q → A0 q) (isC : List Nat) (hC : isC.map (fun i => ws[i]?) = wc.map some) : ∀ q, va_A wc H.size q → A0 q := va_free hD hS hA isC hC
theorem va_PC {D : va_G} {cl : List vw_C} {ws wc : va_W} {H : Heap} (hP : va_P D cl ws H) (isC : List Nat) (hC : isC.map (fun i => ws[i]?) = wc.map some) : va_P D cl wc H := by
  intro k q hk
  have h1 : (isC.map (fun i => ws[i]?))[k]? = some (some q) := by rw [hC, List.getElem?_map, hk]; rfl
  rw [List.getElem?_map] at h1
  cases hi : isC[k]? with
  | none => rw [hi] at h1; cases h1
  | some i => rw [hi] at h1; exact hP i q (Option.some.inj h1)

theorem k_iconst {x : Cx} {G : Gx} {nL : Nat} {cc : ByteArray} {Ts : List Cond} {y0 : MethodName} {rm : Room} (O : Okx x G nL cc Ts y0 rm) {n1 n2 pc : Nat} {lv : List (Nat × Value)} {st : List Value} {ws : va_W} {n : Int} {v : Int32} (hd : decode cc pc = .ok (.iconst n, 1)) (hv : Int32.ofInt n = v) (g : V x G nL n1 n2 (pc + 1) lv (.int v :: st) ws) : V x G nL n1 n2 pc lv st ws := by
  obtain ⟨p, l, e, R, s, m, args, below, meth, c, Q, A⟩ := x
  obtain ⟨hx, hb, hml, hts, hown, hKS, hA, hR, hnm⟩ := O
  intro H locs ls hP hD hS hl
  exact lv_iconst hx hb hd hv (g H locs ls hP hD hS hl)
theorem k_bipush {x : Cx} {G : Gx} {nL : Nat} {cc : ByteArray} {Ts : List Cond} {y0 : MethodName} {rm : Room} (O : Okx x G nL cc Ts y0 rm) {n1 n2 pc : Nat} {lv : List (Nat × Value)} {st : List Value} {ws : va_W} {n : Int} {v : Int32} (hd : decode cc pc = .ok (.bipush n, 2)) (hv : (Int8.ofInt n).toInt32 = v) (g : V x G nL n1 n2 (pc + 2) lv (.int v :: st) ws) : V x G nL n1 n2 pc lv st ws := by
  obtain ⟨p, l, e, R, s, m, args, below, meth, c, Q, A⟩ := x
  obtain ⟨hx, hb, hml, hts, hown, hKS, hA, hR, hnm⟩ := O
  intro H locs ls hP hD hS hl
  exact lv_bipush hx hb hd hv (g H locs ls hP hD hS hl)
theorem k_sipush {x : Cx} {G : Gx} {nL : Nat} {cc : ByteArray} {Ts : List Cond} {y0 : MethodName} {rm : Room} (O : Okx x G nL cc Ts y0 rm) {n1 n2 pc : Nat} {lv : List (Nat × Value)} {st : List Value} {ws : va_W} {n : Int} {v : Int32} (hd : decode cc pc = .ok (.sipush n, 3)) (hv : (Int16.ofInt n).toInt32 = v) (g : V x G nL n1 n2 (pc + 3) lv (.int v :: st) ws) : V x G nL n1 n2 pc lv st ws := by
  obtain ⟨p, l, e, R, s, m, args, below, meth, c, Q, A⟩ := x
  obtain ⟨hx, hb, hml, hts, hown, hKS, hA, hR, hnm⟩ := O
  intro H locs ls hP hD hS hl
  exact lv_sipush hx hb hd hv (g H locs ls hP hD hS hl)
theorem k_ldc {x : Cx} {G : Gx} {nL : Nat} {cc : ByteArray} {Ts : List Cond} {y0 : MethodName} {rm : Room} (O : Okx x G nL cc Ts y0 rm) {n1 n2 pc : Nat} {lv : List (Nat × Value)} {st : List Value} {ws : va_W} {i : Nat} (v : Int32) (hd : decode cc pc = .ok (.ldc i, 2)) (hc : (Jvm.Cond.constant y0.cls i v) ∈ Ts) (g : V x G nL n1 n2 (pc + 2) lv (.int v :: st) ws) : V x G nL n1 n2 pc lv st ws := by
  obtain ⟨p, l, e, R, s, m, args, below, meth, c, Q, A⟩ := x
  obtain ⟨hx, hb, hml, hts, hown, hKS, hA, hR, hnm⟩ := O
  intro H locs ls hP hD hS hl
  exact lv_ldc hx hb hown (hts _ hc) hd (g H locs ls hP hD hS hl)
theorem k_ldc2 {x : Cx} {G : Gx} {nL : Nat} {cc : ByteArray} {Ts : List Cond} {y0 : MethodName} {rm : Room} (O : Okx x G nL cc Ts y0 rm) {n1 n2 pc : Nat} {lv : List (Nat × Value)} {st : List Value} {ws : va_W} {i : Nat} (v : Int64) (hd : decode cc pc = .ok (.ldc2_w i, 3)) (hc : (Jvm.Cond.constantLong y0.cls i v) ∈ Ts) (g : V x G nL n1 n2 (pc + 3) lv (.long v :: st) ws) : V x G nL n1 n2 pc lv st ws := by
  obtain ⟨p, l, e, R, s, m, args, below, meth, c, Q, A⟩ := x
  obtain ⟨hx, hb, hml, hts, hown, hKS, hA, hR, hnm⟩ := O
  intro H locs ls hP hD hS hl
  exact lv_ldc2 hx hb hown (hts _ hc) hd (g H locs ls hP hD hS hl)
theorem k_lconst {x : Cx} {G : Gx} {nL : Nat} {cc : ByteArray} {Ts : List Cond} {y0 : MethodName} {rm : Room} (O : Okx x G nL cc Ts y0 rm) {n1 n2 pc : Nat} {lv : List (Nat × Value)} {st : List Value} {ws : va_W} {n : Fin 2} {v : Int64} (hd : decode cc pc = .ok (.lconst n, 1)) (hv : Int64.ofNat (n : Nat) = v) (g : V x G nL n1 n2 (pc + 1) lv (.long v :: st) ws) : V x G nL n1 n2 pc lv st ws := by
  obtain ⟨p, l, e, R, s, m, args, below, meth, c, Q, A⟩ := x
  obtain ⟨hx, hb, hml, hts, hown, hKS, hA, hR, hnm⟩ := O
  intro H locs ls hP hD hS hl
  exact lv_lconst hx hb hd hv (g H locs ls hP hD hS hl)
theorem k_iload {x : Cx} {G : Gx} {nL : Nat} {cc : ByteArray} {Ts : List Cond} {y0 : MethodName} {rm : Room} (O : Okx x G nL cc Ts y0 rm) {n1 n2 pc : Nat} {lv : List (Nat × Value)} {st : List Value} {ws : va_W} {i : Nat} {v : Int32} (hd : decode cc pc = .ok (.iload i, 2)) (k : Nat) (hk : lv[k]? = some (i, .int v)) (g : V x G nL n1 n2 (pc + 2) lv (.int v :: st) ws) : V x G nL n1 n2 pc lv st ws := by
  obtain ⟨p, l, e, R, s, m, args, below, meth, c, Q, A⟩ := x
  obtain ⟨hx, hb, hml, hts, hown, hKS, hA, hR, hnm⟩ := O
  intro H locs ls hP hD hS hl
  exact lv_iload hx hb hd (lv_at hl k hk) (g H locs ls hP hD hS hl)
theorem k_iload_n {x : Cx} {G : Gx} {nL : Nat} {cc : ByteArray} {Ts : List Cond} {y0 : MethodName} {rm : Room} (O : Okx x G nL cc Ts y0 rm) {n1 n2 pc : Nat} {lv : List (Nat × Value)} {st : List Value} {ws : va_W} {f : Fin 4} {i : Nat} {v : Int32} (hd : decode cc pc = .ok (.iload_n f, 1)) (hi : (f : Nat) = i) (k : Nat) (hk : lv[k]? = some (i, .int v)) (g : V x G nL n1 n2 (pc + 1) lv (.int v :: st) ws) : V x G nL n1 n2 pc lv st ws := by
  obtain ⟨p, l, e, R, s, m, args, below, meth, c, Q, A⟩ := x
  obtain ⟨hx, hb, hml, hts, hown, hKS, hA, hR, hnm⟩ := O
  intro H locs ls hP hD hS hl
  exact lv_iload_n hx hb hd hi (lv_at hl k hk) (g H locs ls hP hD hS hl)
theorem k_aload {x : Cx} {G : Gx} {nL : Nat} {cc : ByteArray} {Ts : List Cond} {y0 : MethodName} {rm : Room} (O : Okx x G nL cc Ts y0 rm) {n1 n2 pc : Nat} {lv : List (Nat × Value)} {st : List Value} {ws : va_W} {i : Nat} {v : Nat} (hd : decode cc pc = .ok (.aload i, 2)) (k : Nat) (hk : lv[k]? = some (i, .ref v)) (g : V x G nL n1 n2 (pc + 2) lv (.ref v :: st) ws) : V x G nL n1 n2 pc lv st ws := by
  obtain ⟨p, l, e, R, s, m, args, below, meth, c, Q, A⟩ := x
  obtain ⟨hx, hb, hml, hts, hown, hKS, hA, hR, hnm⟩ := O
  intro H locs ls hP hD hS hl
  exact lv_aload hx hb hd (lv_at hl k hk) (g H locs ls hP hD hS hl)
theorem k_aload_n {x : Cx} {G : Gx} {nL : Nat} {cc : ByteArray} {Ts : List Cond} {y0 : MethodName} {rm : Room} (O : Okx x G nL cc Ts y0 rm) {n1 n2 pc : Nat} {lv : List (Nat × Value)} {st : List Value} {ws : va_W} {f : Fin 4} {i : Nat} {v : Nat} (hd : decode cc pc = .ok (.aload_n f, 1)) (hi : (f : Nat) = i) (k : Nat) (hk : lv[k]? = some (i, .ref v)) (g : V x G nL n1 n2 (pc + 1) lv (.ref v :: st) ws) : V x G nL n1 n2 pc lv st ws := by
  obtain ⟨p, l, e, R, s, m, args, below, meth, c, Q, A⟩ := x
  obtain ⟨hx, hb, hml, hts, hown, hKS, hA, hR, hnm⟩ := O
  intro H locs ls hP hD hS hl
  exact lv_aload_n hx hb hd hi (lv_at hl k hk) (g H locs ls hP hD hS hl)
theorem k_lload {x : Cx} {G : Gx} {nL : Nat} {cc : ByteArray} {Ts : List Cond} {y0 : MethodName} {rm : Room} (O : Okx x G nL cc Ts y0 rm) {n1 n2 pc : Nat} {lv : List (Nat × Value)} {st : List Value} {ws : va_W} {i : Nat} {v : Int64} (hd : decode cc pc = .ok (.lload i, 2)) (k : Nat) (hk : lv[k]? = some (i, .long v)) (g : V x G nL n1 n2 (pc + 2) lv (.long v :: st) ws) : V x G nL n1 n2 pc lv st ws := by
  obtain ⟨p, l, e, R, s, m, args, below, meth, c, Q, A⟩ := x
  obtain ⟨hx, hb, hml, hts, hown, hKS, hA, hR, hnm⟩ := O
  intro H locs ls hP hD hS hl
  exact lv_lload hx hb hd (lv_at hl k hk) (g H locs ls hP hD hS hl)
theorem k_lload_n {x : Cx} {G : Gx} {nL : Nat} {cc : ByteArray} {Ts : List Cond} {y0 : MethodName} {rm : Room} (O : Okx x G nL cc Ts y0 rm) {n1 n2 pc : Nat} {lv : List (Nat × Value)} {st : List Value} {ws : va_W} {f : Fin 4} {i : Nat} {v : Int64} (hd : decode cc pc = .ok (.lload_n f, 1)) (hi : (f : Nat) = i) (k : Nat) (hk : lv[k]? = some (i, .long v)) (g : V x G nL n1 n2 (pc + 1) lv (.long v :: st) ws) : V x G nL n1 n2 pc lv st ws := by
  obtain ⟨p, l, e, R, s, m, args, below, meth, c, Q, A⟩ := x
  obtain ⟨hx, hb, hml, hts, hown, hKS, hA, hR, hnm⟩ := O
  intro H locs ls hP hD hS hl
  exact lv_lload_n hx hb hd hi (lv_at hl k hk) (g H locs ls hP hD hS hl)
theorem k_istore {x : Cx} {G : Gx} {nL : Nat} {cc : ByteArray} {Ts : List Cond} {y0 : MethodName} {rm : Room} (O : Okx x G nL cc Ts y0 rm) {n1 n2 pc : Nat} {lv : List (Nat × Value)} {st : List Value} {ws : va_W} {i : Nat} {v : Int32} (lv' : List (Nat × Value)) (hd : decode cc pc = .ok (.istore i, 2)) (hn : i < nL) (hl' : (i, Value.int v) :: lv.filter (fun q => !(q.1 == i) && !(q.1 + 1 == i && q.2.category == 2)) = lv') (g : V x G nL n1 n2 (pc + 2) lv' st ws) : V x G nL n1 n2 pc lv (.int v :: st) ws := by
  obtain ⟨p, l, e, R, s, m, args, below, meth, c, Q, A⟩ := x
  obtain ⟨hx, hb, hml, hts, hown, hKS, hA, hR, hnm⟩ := O
  intro H locs ls hP hD hS hl
  exact lv_istore hx hb hd hl hn hl' (fun ls' h' => g H locs ls' hP hD hS h')
theorem k_istore_n {x : Cx} {G : Gx} {nL : Nat} {cc : ByteArray} {Ts : List Cond} {y0 : MethodName} {rm : Room} (O : Okx x G nL cc Ts y0 rm) {n1 n2 pc : Nat} {lv : List (Nat × Value)} {st : List Value} {ws : va_W} {f : Fin 4} {i : Nat} {v : Int32} (lv' : List (Nat × Value)) (hd : decode cc pc = .ok (.istore_n f, 1)) (hi : (f : Nat) = i) (hn : i < nL) (hl' : (i, Value.int v) :: lv.filter (fun q => !(q.1 == i) && !(q.1 + 1 == i && q.2.category == 2)) = lv') (g : V x G nL n1 n2 (pc + 1) lv' st ws) : V x G nL n1 n2 pc lv (.int v :: st) ws := by
  obtain ⟨p, l, e, R, s, m, args, below, meth, c, Q, A⟩ := x
  obtain ⟨hx, hb, hml, hts, hown, hKS, hA, hR, hnm⟩ := O
  intro H locs ls hP hD hS hl
  exact lv_istore_n hx hb hd hi hl hn hl' (fun ls' h' => g H locs ls' hP hD hS h')
theorem k_astore {x : Cx} {G : Gx} {nL : Nat} {cc : ByteArray} {Ts : List Cond} {y0 : MethodName} {rm : Room} (O : Okx x G nL cc Ts y0 rm) {n1 n2 pc : Nat} {lv : List (Nat × Value)} {st : List Value} {ws : va_W} {i : Nat} {v : Nat} (lv' : List (Nat × Value)) (hd : decode cc pc = .ok (.astore i, 2)) (hn : i < nL) (hl' : (i, Value.ref v) :: lv.filter (fun q => !(q.1 == i) && !(q.1 + 1 == i && q.2.category == 2)) = lv') (g : V x G nL n1 n2 (pc + 2) lv' st ws) : V x G nL n1 n2 pc lv (.ref v :: st) ws := by
  obtain ⟨p, l, e, R, s, m, args, below, meth, c, Q, A⟩ := x
  obtain ⟨hx, hb, hml, hts, hown, hKS, hA, hR, hnm⟩ := O
  intro H locs ls hP hD hS hl
  exact lv_astore hx hb hd hl hn hl' (fun ls' h' => g H locs ls' hP hD hS h')
theorem k_astore_n {x : Cx} {G : Gx} {nL : Nat} {cc : ByteArray} {Ts : List Cond} {y0 : MethodName} {rm : Room} (O : Okx x G nL cc Ts y0 rm) {n1 n2 pc : Nat} {lv : List (Nat × Value)} {st : List Value} {ws : va_W} {f : Fin 4} {i : Nat} {v : Nat} (lv' : List (Nat × Value)) (hd : decode cc pc = .ok (.astore_n f, 1)) (hi : (f : Nat) = i) (hn : i < nL) (hl' : (i, Value.ref v) :: lv.filter (fun q => !(q.1 == i) && !(q.1 + 1 == i && q.2.category == 2)) = lv') (g : V x G nL n1 n2 (pc + 1) lv' st ws) : V x G nL n1 n2 pc lv (.ref v :: st) ws := by
  obtain ⟨p, l, e, R, s, m, args, below, meth, c, Q, A⟩ := x
  obtain ⟨hx, hb, hml, hts, hown, hKS, hA, hR, hnm⟩ := O
  intro H locs ls hP hD hS hl
  exact lv_astore_n hx hb hd hi hl hn hl' (fun ls' h' => g H locs ls' hP hD hS h')
theorem k_lstore {x : Cx} {G : Gx} {nL : Nat} {cc : ByteArray} {Ts : List Cond} {y0 : MethodName} {rm : Room} (O : Okx x G nL cc Ts y0 rm) {n1 n2 pc : Nat} {lv : List (Nat × Value)} {st : List Value} {ws : va_W} {i : Nat} {v : Int64} (lv' : List (Nat × Value)) (hd : decode cc pc = .ok (.lstore i, 2)) (hn : i + 1 < nL) (hl' : (i, Value.long v) :: lv.filter (fun q => !(q.1 == i) && (!(q.1 == i + 1) && !(q.1 + 1 == i && q.2.category == 2))) = lv') (g : V x G nL n1 n2 (pc + 2) lv' st ws) : V x G nL n1 n2 pc lv (.long v :: st) ws := by
  obtain ⟨p, l, e, R, s, m, args, below, meth, c, Q, A⟩ := x
  obtain ⟨hx, hb, hml, hts, hown, hKS, hA, hR, hnm⟩ := O
  intro H locs ls hP hD hS hl
  exact lv_lstore hx hb hd hl hn hl' (fun ls' h' => g H locs ls' hP hD hS h')
theorem k_iinc {x : Cx} {G : Gx} {nL : Nat} {cc : ByteArray} {Ts : List Cond} {y0 : MethodName} {rm : Room} (O : Okx x G nL cc Ts y0 rm) {n1 n2 pc : Nat} {lv : List (Nat × Value)} {st : List Value} {ws : va_W} {i k : Nat} {n : Int} {v w : Int32} (lv' : List (Nat × Value)) (hd : decode cc pc = .ok (.iinc i n, 3)) (hk : lv[k]? = some (i, .int v)) (hv : v + Int32.ofInt n = w) (hn : i < nL) (hl' : (i, Value.int w) :: lv.filter (fun q => !(q.1 == i) && !(q.1 + 1 == i && q.2.category == 2)) = lv') (g : V x G nL n1 n2 (pc + 3) lv' st ws) : V x G nL n1 n2 pc lv st ws := by
  obtain ⟨p, l, e, R, s, m, args, below, meth, c, Q, A⟩ := x
  obtain ⟨hx, hb, hml, hts, hown, hKS, hA, hR, hnm⟩ := O
  intro H locs ls hP hD hS hl
  exact lv_iinc hx hb hd hl hk hv hn hl' (fun ls' h' => g H locs ls' hP hD hS h')
theorem k_sub {x : Cx} {G : Gx} {nL n1 n2 pc : Nat} {lv : List (Nat × Value)} {st : List Value} {ws : va_W} (ks : List Nat) (lv' : List (Nat × Value)) (h : lv_pick lv ks = lv') (g : V x G nL n1 n2 pc lv' st ws) : V x G nL n1 n2 pc lv st ws := by
  obtain ⟨p, l, e, R, s, m, args, below, meth, c, Q, A⟩ := x
  intro H locs ls hP hD hS hl
  exact g H locs ls hP hD hS (lv_sub hl ks h)
theorem k_widen {x : Cx} {G : Gx} {nL n1 n2 pc : Nat} {lv : List (Nat × Value)} {st : List Value} {ws : va_W} (k n : Nat) (h1 : n1 ≤ k) (h2 : n2 ≤ n) (g : V x G nL k n pc lv st ws) : V x G nL n1 n2 pc lv st ws := by
  obtain ⟨p, l, e, R, s, m, args, below, meth, c, Q, A⟩ := x
  intro H locs ls hP hD hS hl
  exact W.widen h1 h2 (g H locs ls hP hD hS hl)
theorem k_world {x : Cx} {G : Gx} {nL n1 n2 pc : Nat} {lv : List (Nat × Value)} {st : List Value} {ws : va_W} (ws' : va_W) (h : ∀ H : Heap, va_P G.1 vwCl ws H → va_P G.1 vwCl ws' H) (hf : ws'.map (fun q => q.1) = ws.map (fun q => q.1)) (g : V x G nL n1 n2 pc lv st ws') : V x G nL n1 n2 pc lv st ws := by
  obtain ⟨p, l, e, R, s, m, args, below, meth, c, Q, A⟩ := x
  intro H locs ls hP hD hS hl
  exact g H locs ls (h H hP) (hD.fst hf) hS hl
theorem k_goto {x : Cx} {G : Gx} {nL : Nat} {cc : ByteArray} {Ts : List Cond} {y0 : MethodName} {rm : Room} (O : Okx x G nL cc Ts y0 rm) {n1 n2 pc : Nat} {lv : List (Nat × Value)} {st : List Value} {ws : va_W} {off : Int} (tgt : Nat) (hd : decode cc pc = .ok (.goto off, 3)) (ht : (pc : Int) + off = (tgt : Int)) (g : V x G nL n1 n2 tgt lv st ws) : V x G nL n1 n2 pc lv st ws := by
  obtain ⟨p, l, e, R, s, m, args, below, meth, c, Q, A⟩ := x
  obtain ⟨hx, hb, hml, hts, hown, hKS, hA, hR, hnm⟩ := O
  intro H locs ls hP hD hS hl
  exact lv_goto hx hb hd ht (g H locs ls hP hD hS hl)
theorem k_dup {x : Cx} {G : Gx} {nL : Nat} {cc : ByteArray} {Ts : List Cond} {y0 : MethodName} {rm : Room} (O : Okx x G nL cc Ts y0 rm) {n1 n2 pc : Nat} {lv : List (Nat × Value)} {st : List Value} {ws : va_W} {v : Value} (hd : decode cc pc = .ok (.dup, 1)) (hv : v.category = 1) (g : V x G nL n1 n2 (pc + 1) lv (v :: v :: st) ws) : V x G nL n1 n2 pc lv (v :: st) ws := by
  obtain ⟨p, l, e, R, s, m, args, below, meth, c, Q, A⟩ := x
  obtain ⟨hx, hb, hml, hts, hown, hKS, hA, hR, hnm⟩ := O
  intro H locs ls hP hD hS hl
  exact lv_dup hx hb hd hv (g H locs ls hP hD hS hl)
theorem k_pop {x : Cx} {G : Gx} {nL : Nat} {cc : ByteArray} {Ts : List Cond} {y0 : MethodName} {rm : Room} (O : Okx x G nL cc Ts y0 rm) {n1 n2 pc : Nat} {lv : List (Nat × Value)} {st : List Value} {ws : va_W} {v : Value} (hd : decode cc pc = .ok (.pop, 1)) (hv : v.category = 1) (g : V x G nL n1 n2 (pc + 1) lv st ws) : V x G nL n1 n2 pc lv (v :: st) ws := by
  obtain ⟨p, l, e, R, s, m, args, below, meth, c, Q, A⟩ := x
  obtain ⟨hx, hb, hml, hts, hown, hKS, hA, hR, hnm⟩ := O
  intro H locs ls hP hD hS hl
  exact lv_pop hx hb hd hv (g H locs ls hP hD hS hl)
theorem k_iadd {x : Cx} {G : Gx} {nL : Nat} {cc : ByteArray} {Ts : List Cond} {y0 : MethodName} {rm : Room} (O : Okx x G nL cc Ts y0 rm) {n1 n2 pc : Nat} {lv : List (Nat × Value)} {st : List Value} {ws : va_W} {a b : Int32} (hd : decode cc pc = .ok (.iadd, 1)) (g : V x G nL n1 n2 (pc + 1) lv (.int (a + b) :: st) ws) : V x G nL n1 n2 pc lv (.int b :: .int a :: st) ws := by
  obtain ⟨p, l, e, R, s, m, args, below, meth, c, Q, A⟩ := x
  obtain ⟨hx, hb, hml, hts, hown, hKS, hA, hR, hnm⟩ := O
  intro H locs ls hP hD hS hl
  exact lv_iadd hx hb hd (g H locs ls hP hD hS hl)
theorem k_isub {x : Cx} {G : Gx} {nL : Nat} {cc : ByteArray} {Ts : List Cond} {y0 : MethodName} {rm : Room} (O : Okx x G nL cc Ts y0 rm) {n1 n2 pc : Nat} {lv : List (Nat × Value)} {st : List Value} {ws : va_W} {a b : Int32} (hd : decode cc pc = .ok (.isub, 1)) (g : V x G nL n1 n2 (pc + 1) lv (.int (a - b) :: st) ws) : V x G nL n1 n2 pc lv (.int b :: .int a :: st) ws := by
  obtain ⟨p, l, e, R, s, m, args, below, meth, c, Q, A⟩ := x
  obtain ⟨hx, hb, hml, hts, hown, hKS, hA, hR, hnm⟩ := O
  intro H locs ls hP hD hS hl
  exact lv_isub hx hb hd (g H locs ls hP hD hS hl)
theorem k_imul {x : Cx} {G : Gx} {nL : Nat} {cc : ByteArray} {Ts : List Cond} {y0 : MethodName} {rm : Room} (O : Okx x G nL cc Ts y0 rm) {n1 n2 pc : Nat} {lv : List (Nat × Value)} {st : List Value} {ws : va_W} {a b : Int32} (hd : decode cc pc = .ok (.imul, 1)) (g : V x G nL n1 n2 (pc + 1) lv (.int (a * b) :: st) ws) : V x G nL n1 n2 pc lv (.int b :: .int a :: st) ws := by
  obtain ⟨p, l, e, R, s, m, args, below, meth, c, Q, A⟩ := x
  obtain ⟨hx, hb, hml, hts, hown, hKS, hA, hR, hnm⟩ := O
  intro H locs ls hP hD hS hl
  exact lv_imul hx hb hd (g H locs ls hP hD hS hl)
theorem k_iand {x : Cx} {G : Gx} {nL : Nat} {cc : ByteArray} {Ts : List Cond} {y0 : MethodName} {rm : Room} (O : Okx x G nL cc Ts y0 rm) {n1 n2 pc : Nat} {lv : List (Nat × Value)} {st : List Value} {ws : va_W} {a b : Int32} (hd : decode cc pc = .ok (.iand, 1)) (g : V x G nL n1 n2 (pc + 1) lv (.int (a &&& b) :: st) ws) : V x G nL n1 n2 pc lv (.int b :: .int a :: st) ws := by
  obtain ⟨p, l, e, R, s, m, args, below, meth, c, Q, A⟩ := x
  obtain ⟨hx, hb, hml, hts, hown, hKS, hA, hR, hnm⟩ := O
  intro H locs ls hP hD hS hl
  exact lv_iand hx hb hd (g H locs ls hP hD hS hl)
theorem k_ior {x : Cx} {G : Gx} {nL : Nat} {cc : ByteArray} {Ts : List Cond} {y0 : MethodName} {rm : Room} (O : Okx x G nL cc Ts y0 rm) {n1 n2 pc : Nat} {lv : List (Nat × Value)} {st : List Value} {ws : va_W} {a b : Int32} (hd : decode cc pc = .ok (.ior, 1)) (g : V x G nL n1 n2 (pc + 1) lv (.int (a ||| b) :: st) ws) : V x G nL n1 n2 pc lv (.int b :: .int a :: st) ws := by
  obtain ⟨p, l, e, R, s, m, args, below, meth, c, Q, A⟩ := x
  obtain ⟨hx, hb, hml, hts, hown, hKS, hA, hR, hnm⟩ := O
  intro H locs ls hP hD hS hl
  exact lv_ior hx hb hd (g H locs ls hP hD hS hl)
theorem k_ixor {x : Cx} {G : Gx} {nL : Nat} {cc : ByteArray} {Ts : List Cond} {y0 : MethodName} {rm : Room} (O : Okx x G nL cc Ts y0 rm) {n1 n2 pc : Nat} {lv : List (Nat × Value)} {st : List Value} {ws : va_W} {a b : Int32} (hd : decode cc pc = .ok (.ixor, 1)) (g : V x G nL n1 n2 (pc + 1) lv (.int (a ^^^ b) :: st) ws) : V x G nL n1 n2 pc lv (.int b :: .int a :: st) ws := by
  obtain ⟨p, l, e, R, s, m, args, below, meth, c, Q, A⟩ := x
  obtain ⟨hx, hb, hml, hts, hown, hKS, hA, hR, hnm⟩ := O
  intro H locs ls hP hD hS hl
  exact lv_ixor hx hb hd (g H locs ls hP hD hS hl)
theorem k_ishl {x : Cx} {G : Gx} {nL : Nat} {cc : ByteArray} {Ts : List Cond} {y0 : MethodName} {rm : Room} (O : Okx x G nL cc Ts y0 rm) {n1 n2 pc : Nat} {lv : List (Nat × Value)} {st : List Value} {ws : va_W} {a b : Int32} (hd : decode cc pc = .ok (.ishl, 1)) (g : V x G nL n1 n2 (pc + 1) lv (.int (a <<< (b &&& 31)) :: st) ws) : V x G nL n1 n2 pc lv (.int b :: .int a :: st) ws := by
  obtain ⟨p, l, e, R, s, m, args, below, meth, c, Q, A⟩ := x
  obtain ⟨hx, hb, hml, hts, hown, hKS, hA, hR, hnm⟩ := O
  intro H locs ls hP hD hS hl
  exact lv_ishl hx hb hd (g H locs ls hP hD hS hl)
theorem k_ishr {x : Cx} {G : Gx} {nL : Nat} {cc : ByteArray} {Ts : List Cond} {y0 : MethodName} {rm : Room} (O : Okx x G nL cc Ts y0 rm) {n1 n2 pc : Nat} {lv : List (Nat × Value)} {st : List Value} {ws : va_W} {a b : Int32} (hd : decode cc pc = .ok (.ishr, 1)) (g : V x G nL n1 n2 (pc + 1) lv (.int (a >>> (b &&& 31)) :: st) ws) : V x G nL n1 n2 pc lv (.int b :: .int a :: st) ws := by
  obtain ⟨p, l, e, R, s, m, args, below, meth, c, Q, A⟩ := x
  obtain ⟨hx, hb, hml, hts, hown, hKS, hA, hR, hnm⟩ := O
  intro H locs ls hP hD hS hl
  exact lv_ishr hx hb hd (g H locs ls hP hD hS hl)
theorem k_idiv {x : Cx} {G : Gx} {nL : Nat} {cc : ByteArray} {Ts : List Cond} {y0 : MethodName} {rm : Room} (O : Okx x G nL cc Ts y0 rm) {n1 n2 pc : Nat} {lv : List (Nat × Value)} {st : List Value} {ws : va_W} {a b : Int32} (hd : decode cc pc = .ok (.idiv, 1)) (h0 : ¬ b = 0) (g : V x G nL n1 n2 (pc + 1) lv (.int (a / b) :: st) ws) : V x G nL n1 n2 pc lv (.int b :: .int a :: st) ws := by
  obtain ⟨p, l, e, R, s, m, args, below, meth, c, Q, A⟩ := x
  obtain ⟨hx, hb, hml, hts, hown, hKS, hA, hR, hnm⟩ := O
  intro H locs ls hP hD hS hl
  exact lv_idiv hx hb hd h0 (g H locs ls hP hD hS hl)
theorem k_irem {x : Cx} {G : Gx} {nL : Nat} {cc : ByteArray} {Ts : List Cond} {y0 : MethodName} {rm : Room} (O : Okx x G nL cc Ts y0 rm) {n1 n2 pc : Nat} {lv : List (Nat × Value)} {st : List Value} {ws : va_W} {a b : Int32} (hd : decode cc pc = .ok (.irem, 1)) (h0 : ¬ b = 0) (g : V x G nL n1 n2 (pc + 1) lv (.int (a - a / b * b) :: st) ws) : V x G nL n1 n2 pc lv (.int b :: .int a :: st) ws := by
  obtain ⟨p, l, e, R, s, m, args, below, meth, c, Q, A⟩ := x
  obtain ⟨hx, hb, hml, hts, hown, hKS, hA, hR, hnm⟩ := O
  intro H locs ls hP hD hS hl
  exact lv_irem hx hb hd h0 (g H locs ls hP hD hS hl)
theorem k_lmul {x : Cx} {G : Gx} {nL : Nat} {cc : ByteArray} {Ts : List Cond} {y0 : MethodName} {rm : Room} (O : Okx x G nL cc Ts y0 rm) {n1 n2 pc : Nat} {lv : List (Nat × Value)} {st : List Value} {ws : va_W} {a b : Int64} (hd : decode cc pc = .ok (.lmul, 1)) (g : V x G nL n1 n2 (pc + 1) lv (.long (a * b) :: st) ws) : V x G nL n1 n2 pc lv (.long b :: .long a :: st) ws := by
  obtain ⟨p, l, e, R, s, m, args, below, meth, c, Q, A⟩ := x
  obtain ⟨hx, hb, hml, hts, hown, hKS, hA, hR, hnm⟩ := O
  intro H locs ls hP hD hS hl
  exact lv_lmul hx hb hd (g H locs ls hP hD hS hl)
theorem k_lsub {x : Cx} {G : Gx} {nL : Nat} {cc : ByteArray} {Ts : List Cond} {y0 : MethodName} {rm : Room} (O : Okx x G nL cc Ts y0 rm) {n1 n2 pc : Nat} {lv : List (Nat × Value)} {st : List Value} {ws : va_W} {a b : Int64} (hd : decode cc pc = .ok (.lsub, 1)) (g : V x G nL n1 n2 (pc + 1) lv (.long (a - b) :: st) ws) : V x G nL n1 n2 pc lv (.long b :: .long a :: st) ws := by
  obtain ⟨p, l, e, R, s, m, args, below, meth, c, Q, A⟩ := x
  obtain ⟨hx, hb, hml, hts, hown, hKS, hA, hR, hnm⟩ := O
  intro H locs ls hP hD hS hl
  exact lv_lsub hx hb hd (g H locs ls hP hD hS hl)
theorem k_ldiv {x : Cx} {G : Gx} {nL : Nat} {cc : ByteArray} {Ts : List Cond} {y0 : MethodName} {rm : Room} (O : Okx x G nL cc Ts y0 rm) {n1 n2 pc : Nat} {lv : List (Nat × Value)} {st : List Value} {ws : va_W} {a b : Int64} (hd : decode cc pc = .ok (.ldiv, 1)) (h0 : ¬ b = 0) (g : V x G nL n1 n2 (pc + 1) lv (.long (a / b) :: st) ws) : V x G nL n1 n2 pc lv (.long b :: .long a :: st) ws := by
  obtain ⟨p, l, e, R, s, m, args, below, meth, c, Q, A⟩ := x
  obtain ⟨hx, hb, hml, hts, hown, hKS, hA, hR, hnm⟩ := O
  intro H locs ls hP hD hS hl
  exact lv_ldiv hx hb hd h0 (g H locs ls hP hD hS hl)
theorem k_lrem {x : Cx} {G : Gx} {nL : Nat} {cc : ByteArray} {Ts : List Cond} {y0 : MethodName} {rm : Room} (O : Okx x G nL cc Ts y0 rm) {n1 n2 pc : Nat} {lv : List (Nat × Value)} {st : List Value} {ws : va_W} {a b : Int64} (hd : decode cc pc = .ok (.lrem, 1)) (h0 : ¬ b = 0) (g : V x G nL n1 n2 (pc + 1) lv (.long (a - a / b * b) :: st) ws) : V x G nL n1 n2 pc lv (.long b :: .long a :: st) ws := by
  obtain ⟨p, l, e, R, s, m, args, below, meth, c, Q, A⟩ := x
  obtain ⟨hx, hb, hml, hts, hown, hKS, hA, hR, hnm⟩ := O
  intro H locs ls hP hD hS hl
  exact lv_lrem hx hb hd h0 (g H locs ls hP hD hS hl)
theorem k_lneg {x : Cx} {G : Gx} {nL : Nat} {cc : ByteArray} {Ts : List Cond} {y0 : MethodName} {rm : Room} (O : Okx x G nL cc Ts y0 rm) {n1 n2 pc : Nat} {lv : List (Nat × Value)} {st : List Value} {ws : va_W} {a : Int64} (hd : decode cc pc = .ok (.lneg, 1)) (g : V x G nL n1 n2 (pc + 1) lv (.long (-a) :: st) ws) : V x G nL n1 n2 pc lv (.long a :: st) ws := by
  obtain ⟨p, l, e, R, s, m, args, below, meth, c, Q, A⟩ := x
  obtain ⟨hx, hb, hml, hts, hown, hKS, hA, hR, hnm⟩ := O
  intro H locs ls hP hD hS hl
  exact lv_lneg hx hb hd (g H locs ls hP hD hS hl)
theorem k_lcmp {x : Cx} {G : Gx} {nL : Nat} {cc : ByteArray} {Ts : List Cond} {y0 : MethodName} {rm : Room} (O : Okx x G nL cc Ts y0 rm) {n1 n2 pc : Nat} {lv : List (Nat × Value)} {st : List Value} {ws : va_W} {a b : Int64} (hd : decode cc pc = .ok (.lcmp, 1)) (g : V x G nL n1 n2 (pc + 1) lv (.int (lg_cmp a b) :: st) ws) : V x G nL n1 n2 pc lv (.long b :: .long a :: st) ws := by
  obtain ⟨p, l, e, R, s, m, args, below, meth, c, Q, A⟩ := x
  obtain ⟨hx, hb, hml, hts, hown, hKS, hA, hR, hnm⟩ := O
  intro H locs ls hP hD hS hl
  exact W.lcmp hx hb hd (g H locs ls hP hD hS hl)
theorem k_i2l {x : Cx} {G : Gx} {nL : Nat} {cc : ByteArray} {Ts : List Cond} {y0 : MethodName} {rm : Room} (O : Okx x G nL cc Ts y0 rm) {n1 n2 pc : Nat} {lv : List (Nat × Value)} {st : List Value} {ws : va_W} {a : Int32} {v : Int64} (hd : decode cc pc = .ok (.i2l, 1)) (hv : a.toInt64 = v) (g : V x G nL n1 n2 (pc + 1) lv (.long v :: st) ws) : V x G nL n1 n2 pc lv (.int a :: st) ws := by
  obtain ⟨p, l, e, R, s, m, args, below, meth, c, Q, A⟩ := x
  obtain ⟨hx, hb, hml, hts, hown, hKS, hA, hR, hnm⟩ := O
  intro H locs ls hP hD hS hl
  exact lv_i2l hx hb hd hv (g H locs ls hP hD hS hl)
theorem k_l2i {x : Cx} {G : Gx} {nL : Nat} {cc : ByteArray} {Ts : List Cond} {y0 : MethodName} {rm : Room} (O : Okx x G nL cc Ts y0 rm) {n1 n2 pc : Nat} {lv : List (Nat × Value)} {st : List Value} {ws : va_W} {a : Int64} {v : Int32} (hd : decode cc pc = .ok (.l2i, 1)) (hv : a.toInt32 = v) (g : V x G nL n1 n2 (pc + 1) lv (.int v :: st) ws) : V x G nL n1 n2 pc lv (.long a :: st) ws := by
  obtain ⟨p, l, e, R, s, m, args, below, meth, c, Q, A⟩ := x
  obtain ⟨hx, hb, hml, hts, hown, hKS, hA, hR, hnm⟩ := O
  intro H locs ls hP hD hS hl
  exact lv_l2i hx hb hd hv (g H locs ls hP hD hS hl)
theorem k_iaddN {x : Cx} {G : Gx} {nL : Nat} {cc : ByteArray} {Ts : List Cond} {y0 : MethodName} {rm : Room} (O : Okx x G nL cc Ts y0 rm) {n1 n2 pc : Nat} {lv : List (Nat × Value)} {st : List Value} {ws : va_W} {a b : Nat} (hd : decode cc pc = .ok (.iadd, 1)) (g : V x G nL n1 n2 (pc + 1) lv (.int (nI (a + b)) :: st) ws) : V x G nL n1 n2 pc lv (.int (nI b) :: .int (nI a) :: st) ws := by
  obtain ⟨p, l, e, R, s, m, args, below, meth, c, Q, A⟩ := x
  obtain ⟨hx, hb, hml, hts, hown, hKS, hA, hR, hnm⟩ := O
  intro H locs ls hP hD hS hl
  exact lv_iadd hx hb hd (by rw [nI_add]; exact g H locs ls hP hD hS hl)
theorem k_imulN {x : Cx} {G : Gx} {nL : Nat} {cc : ByteArray} {Ts : List Cond} {y0 : MethodName} {rm : Room} (O : Okx x G nL cc Ts y0 rm) {n1 n2 pc : Nat} {lv : List (Nat × Value)} {st : List Value} {ws : va_W} {a b : Nat} (hd : decode cc pc = .ok (.imul, 1)) (g : V x G nL n1 n2 (pc + 1) lv (.int (nI (a * b)) :: st) ws) : V x G nL n1 n2 pc lv (.int (nI b) :: .int (nI a) :: st) ws := by
  obtain ⟨p, l, e, R, s, m, args, below, meth, c, Q, A⟩ := x
  obtain ⟨hx, hb, hml, hts, hown, hKS, hA, hR, hnm⟩ := O
  intro H locs ls hP hD hS hl
  exact lv_imul hx hb hd (by rw [pk_mul]; exact g H locs ls hP hD hS hl)
theorem k_isubN {x : Cx} {G : Gx} {nL : Nat} {cc : ByteArray} {Ts : List Cond} {y0 : MethodName} {rm : Room} (O : Okx x G nL cc Ts y0 rm) {n1 n2 pc : Nat} {lv : List (Nat × Value)} {st : List Value} {ws : va_W} {a b : Nat} (hd : decode cc pc = .ok (.isub, 1)) (h : b ≤ a) (g : V x G nL n1 n2 (pc + 1) lv (.int (nI (a - b)) :: st) ws) : V x G nL n1 n2 pc lv (.int (nI b) :: .int (nI a) :: st) ws := by
  obtain ⟨p, l, e, R, s, m, args, below, meth, c, Q, A⟩ := x
  obtain ⟨hx, hb, hml, hts, hown, hKS, hA, hR, hnm⟩ := O
  intro H locs ls hP hD hS hl
  exact lv_isub hx hb hd (by rw [pk_sub h]; exact g H locs ls hP hD hS hl)
theorem k_idivN {x : Cx} {G : Gx} {nL : Nat} {cc : ByteArray} {Ts : List Cond} {y0 : MethodName} {rm : Room} (O : Okx x G nL cc Ts y0 rm) {n1 n2 pc : Nat} {lv : List (Nat × Value)} {st : List Value} {ws : va_W} {a b : Nat} (hd : decode cc pc = .ok (.idiv, 1)) (ha : a < 2147483648) (h0 : 0 < b) (hb2 : b < 2147483648) (g : V x G nL n1 n2 (pc + 1) lv (.int (nI (a / b)) :: st) ws) : V x G nL n1 n2 pc lv (.int (nI b) :: .int (nI a) :: st) ws := by
  obtain ⟨p, l, e, R, s, m, args, below, meth, c, Q, A⟩ := x
  obtain ⟨hx, hb, hml, hts, hown, hKS, hA, hR, hnm⟩ := O
  intro H locs ls hP hD hS hl
  exact lv_idiv hx hb hd (nI_ne0 h0 hb2) (by rw [pk_div ha h0 hb2]; exact g H locs ls hP hD hS hl)
theorem k_iremN {x : Cx} {G : Gx} {nL : Nat} {cc : ByteArray} {Ts : List Cond} {y0 : MethodName} {rm : Room} (O : Okx x G nL cc Ts y0 rm) {n1 n2 pc : Nat} {lv : List (Nat × Value)} {st : List Value} {ws : va_W} {a b : Nat} (hd : decode cc pc = .ok (.irem, 1)) (ha : a < 2147483648) (h0 : 0 < b) (hb2 : b < 2147483648) (g : V x G nL n1 n2 (pc + 1) lv (.int (nI (a % b)) :: st) ws) : V x G nL n1 n2 pc lv (.int (nI b) :: .int (nI a) :: st) ws := by
  obtain ⟨p, l, e, R, s, m, args, below, meth, c, Q, A⟩ := x
  obtain ⟨hx, hb, hml, hts, hown, hKS, hA, hR, hnm⟩ := O
  intro H locs ls hP hD hS hl
  exact lv_irem hx hb hd (nI_ne0 h0 hb2) (by rw [pk_rem ha h0 hb2]; exact g H locs ls hP hD hS hl)
theorem k_top {x : Cx} {G : Gx} {nL n1 n2 pc : Nat} {lv : List (Nat × Value)} {st : List Value} {ws : va_W} {v : Int32} (w : Int32) (h : v = w) (g : V x G nL n1 n2 pc lv (.int w :: st) ws) : V x G nL n1 n2 pc lv (.int v :: st) ws := h ▸ g
theorem k_topl {x : Cx} {G : Gx} {nL n1 n2 pc : Nat} {lv : List (Nat × Value)} {st : List Value} {ws : va_W} {v : Int64} (w : Int64) (h : v = w) (g : V x G nL n1 n2 pc lv (.long w :: st) ws) : V x G nL n1 n2 pc lv (.long v :: st) ws := h ▸ g
theorem nI_int {n : Nat} (h : n < 2147483648) : (nI n).toInt = (n : Int) := nI_toInt h
theorem k_icmp_eq {x : Cx} {G : Gx} {nL : Nat} {cc : ByteArray} {Ts : List Cond} {y0 : MethodName} {rm : Room} (O : Okx x G nL cc Ts y0 rm) {n1 n2 pc : Nat} {lv : List (Nat × Value)} {st : List Value} {ws : va_W} {a b : Int32} {off : Int} (tgt : Nat) (hd : decode cc pc = .ok (.if_icmp .eq off, 3)) (ht : (pc : Int) + off = (tgt : Int)) (kt : a = b → V x G nL n1 n2 tgt lv st ws) (kf : ¬ a = b → V x G nL n1 n2 (pc + 3) lv st ws) : V x G nL n1 n2 pc lv (.int b :: .int a :: st) ws := by
  obtain ⟨p, l, e, R, s, m, args, below, meth, c, Q, A⟩ := x
  obtain ⟨hx, hb, hml, hts, hown, hKS, hA, hR, hnm⟩ := O
  intro H locs ls hP hD hS hl
  exact lv_icmp_eq hx hb hd ht (fun h => kt h H locs ls hP hD hS hl) (fun h => kf h H locs ls hP hD hS hl)
theorem k_icmp_eqN {x : Cx} {G : Gx} {nL : Nat} {cc : ByteArray} {Ts : List Cond} {y0 : MethodName} {rm : Room} (O : Okx x G nL cc Ts y0 rm) {n1 n2 pc : Nat} {lv : List (Nat × Value)} {st : List Value} {ws : va_W} {a b : Nat} {off : Int} (tgt : Nat) (hd : decode cc pc = .ok (.if_icmp .eq off, 3)) (ht : (pc : Int) + off = (tgt : Int)) (h1 : a < 2147483648) (h2 : b < 2147483648) (kt : a = b → V x G nL n1 n2 tgt lv st ws) (kf : ¬ a = b → V x G nL n1 n2 (pc + 3) lv st ws) : V x G nL n1 n2 pc lv (.int (nI b) :: .int (nI a) :: st) ws := by
  obtain ⟨p, l, e, R, s, m, args, below, meth, c, Q, A⟩ := x
  obtain ⟨hx, hb, hml, hts, hown, hKS, hA, hR, hnm⟩ := O
  intro H locs ls hP hD hS hl
  exact lv_icmp_eq hx hb hd ht (fun h => kt ((nI_eq h1 h2).mp h) H locs ls hP hD hS hl) (fun h => kf (fun z => h ((nI_eq h1 h2).mpr z)) H locs ls hP hD hS hl)
theorem k_if_eq {x : Cx} {G : Gx} {nL : Nat} {cc : ByteArray} {Ts : List Cond} {y0 : MethodName} {rm : Room} (O : Okx x G nL cc Ts y0 rm) {n1 n2 pc : Nat} {lv : List (Nat × Value)} {st : List Value} {ws : va_W} {a : Int32} {off : Int} (tgt : Nat) (hd : decode cc pc = .ok (.ifCond .eq off, 3)) (ht : (pc : Int) + off = (tgt : Int)) (kt : a = 0 → V x G nL n1 n2 tgt lv st ws) (kf : ¬ a = 0 → V x G nL n1 n2 (pc + 3) lv st ws) : V x G nL n1 n2 pc lv (.int a :: st) ws := by
  obtain ⟨p, l, e, R, s, m, args, below, meth, c, Q, A⟩ := x
  obtain ⟨hx, hb, hml, hts, hown, hKS, hA, hR, hnm⟩ := O
  intro H locs ls hP hD hS hl
  exact lv_if_eq hx hb hd ht (fun h => kt h H locs ls hP hD hS hl) (fun h => kf h H locs ls hP hD hS hl)
theorem nI_z {n : Nat} (h1 : n < 2147483648) : nI n = 0 ↔ n = 0 := nI_eq (b := 0) h1 (by decide)
theorem k_if_eqN {x : Cx} {G : Gx} {nL : Nat} {cc : ByteArray} {Ts : List Cond} {y0 : MethodName} {rm : Room} (O : Okx x G nL cc Ts y0 rm) {n1 n2 pc : Nat} {lv : List (Nat × Value)} {st : List Value} {ws : va_W} {a : Nat} {off : Int} (tgt : Nat) (hd : decode cc pc = .ok (.ifCond .eq off, 3)) (ht : (pc : Int) + off = (tgt : Int)) (h1 : a < 2147483648) (kt : a = 0 → V x G nL n1 n2 tgt lv st ws) (kf : 0 < a → V x G nL n1 n2 (pc + 3) lv st ws) : V x G nL n1 n2 pc lv (.int (nI a) :: st) ws := by
  obtain ⟨p, l, e, R, s, m, args, below, meth, c, Q, A⟩ := x
  obtain ⟨hx, hb, hml, hts, hown, hKS, hA, hR, hnm⟩ := O
  intro H locs ls hP hD hS hl
  exact lv_if_eq hx hb hd ht (fun h => kt ((nI_z h1).mp h) H locs ls hP hD hS hl) (fun h => kf (Nat.pos_of_ne_zero (fun z => h ((nI_z h1).mpr z))) H locs ls hP hD hS hl)
theorem k_icmp_ne {x : Cx} {G : Gx} {nL : Nat} {cc : ByteArray} {Ts : List Cond} {y0 : MethodName} {rm : Room} (O : Okx x G nL cc Ts y0 rm) {n1 n2 pc : Nat} {lv : List (Nat × Value)} {st : List Value} {ws : va_W} {a b : Int32} {off : Int} (tgt : Nat) (hd : decode cc pc = .ok (.if_icmp .ne off, 3)) (ht : (pc : Int) + off = (tgt : Int)) (kt : ¬ a = b → V x G nL n1 n2 tgt lv st ws) (kf : a = b → V x G nL n1 n2 (pc + 3) lv st ws) : V x G nL n1 n2 pc lv (.int b :: .int a :: st) ws := by
  obtain ⟨p, l, e, R, s, m, args, below, meth, c, Q, A⟩ := x
  obtain ⟨hx, hb, hml, hts, hown, hKS, hA, hR, hnm⟩ := O
  intro H locs ls hP hD hS hl
  exact lv_icmp_ne hx hb hd ht (fun h => kt h H locs ls hP hD hS hl) (fun h => kf h H locs ls hP hD hS hl)
theorem k_icmp_neN {x : Cx} {G : Gx} {nL : Nat} {cc : ByteArray} {Ts : List Cond} {y0 : MethodName} {rm : Room} (O : Okx x G nL cc Ts y0 rm) {n1 n2 pc : Nat} {lv : List (Nat × Value)} {st : List Value} {ws : va_W} {a b : Nat} {off : Int} (tgt : Nat) (hd : decode cc pc = .ok (.if_icmp .ne off, 3)) (ht : (pc : Int) + off = (tgt : Int)) (h1 : a < 2147483648) (h2 : b < 2147483648) (kt : ¬ a = b → V x G nL n1 n2 tgt lv st ws) (kf : a = b → V x G nL n1 n2 (pc + 3) lv st ws) : V x G nL n1 n2 pc lv (.int (nI b) :: .int (nI a) :: st) ws := by
  obtain ⟨p, l, e, R, s, m, args, below, meth, c, Q, A⟩ := x
  obtain ⟨hx, hb, hml, hts, hown, hKS, hA, hR, hnm⟩ := O
  intro H locs ls hP hD hS hl
  exact lv_icmp_ne hx hb hd ht (fun h => kt (fun z => h ((nI_eq h1 h2).mpr z)) H locs ls hP hD hS hl) (fun h => kf ((nI_eq h1 h2).mp h) H locs ls hP hD hS hl)
theorem k_if_ne {x : Cx} {G : Gx} {nL : Nat} {cc : ByteArray} {Ts : List Cond} {y0 : MethodName} {rm : Room} (O : Okx x G nL cc Ts y0 rm) {n1 n2 pc : Nat} {lv : List (Nat × Value)} {st : List Value} {ws : va_W} {a : Int32} {off : Int} (tgt : Nat) (hd : decode cc pc = .ok (.ifCond .ne off, 3)) (ht : (pc : Int) + off = (tgt : Int)) (kt : ¬ a = 0 → V x G nL n1 n2 tgt lv st ws) (kf : a = 0 → V x G nL n1 n2 (pc + 3) lv st ws) : V x G nL n1 n2 pc lv (.int a :: st) ws := by
  obtain ⟨p, l, e, R, s, m, args, below, meth, c, Q, A⟩ := x
  obtain ⟨hx, hb, hml, hts, hown, hKS, hA, hR, hnm⟩ := O
  intro H locs ls hP hD hS hl
  exact lv_if_ne hx hb hd ht (fun h => kt h H locs ls hP hD hS hl) (fun h => kf h H locs ls hP hD hS hl)
theorem k_if_neN {x : Cx} {G : Gx} {nL : Nat} {cc : ByteArray} {Ts : List Cond} {y0 : MethodName} {rm : Room} (O : Okx x G nL cc Ts y0 rm) {n1 n2 pc : Nat} {lv : List (Nat × Value)} {st : List Value} {ws : va_W} {a : Nat} {off : Int} (tgt : Nat) (hd : decode cc pc = .ok (.ifCond .ne off, 3)) (ht : (pc : Int) + off = (tgt : Int)) (h1 : a < 2147483648) (kt : 0 < a → V x G nL n1 n2 tgt lv st ws) (kf : a = 0 → V x G nL n1 n2 (pc + 3) lv st ws) : V x G nL n1 n2 pc lv (.int (nI a) :: st) ws := by
  obtain ⟨p, l, e, R, s, m, args, below, meth, c, Q, A⟩ := x
  obtain ⟨hx, hb, hml, hts, hown, hKS, hA, hR, hnm⟩ := O
  intro H locs ls hP hD hS hl
  exact lv_if_ne hx hb hd ht (fun h => kt (Nat.pos_of_ne_zero (fun z => h ((nI_z h1).mpr z))) H locs ls hP hD hS hl) (fun h => kf ((nI_z h1).mp h) H locs ls hP hD hS hl)
theorem k_icmp_lt {x : Cx} {G : Gx} {nL : Nat} {cc : ByteArray} {Ts : List Cond} {y0 : MethodName} {rm : Room} (O : Okx x G nL cc Ts y0 rm) {n1 n2 pc : Nat} {lv : List (Nat × Value)} {st : List Value} {ws : va_W} {a b : Int32} {off : Int} (tgt : Nat) (hd : decode cc pc = .ok (.if_icmp .lt off, 3)) (ht : (pc : Int) + off = (tgt : Int)) (kt : a.toInt < b.toInt → V x G nL n1 n2 tgt lv st ws) (kf : b.toInt ≤ a.toInt → V x G nL n1 n2 (pc + 3) lv st ws) : V x G nL n1 n2 pc lv (.int b :: .int a :: st) ws := by
  obtain ⟨p, l, e, R, s, m, args, below, meth, c, Q, A⟩ := x
  obtain ⟨hx, hb, hml, hts, hown, hKS, hA, hR, hnm⟩ := O
  intro H locs ls hP hD hS hl
  exact lv_icmp_lt hx hb hd ht (fun h => kt (by first | exact Int32.lt_iff_toInt_lt.mp h | exact Int32.le_iff_toInt_le.mp h) H locs ls hP hD hS hl) (fun h => kf (by first | (rw [Int32.lt_iff_toInt_lt] at h; omega) | (rw [Int32.le_iff_toInt_le] at h; omega)) H locs ls hP hD hS hl)
theorem k_icmp_ltN {x : Cx} {G : Gx} {nL : Nat} {cc : ByteArray} {Ts : List Cond} {y0 : MethodName} {rm : Room} (O : Okx x G nL cc Ts y0 rm) {n1 n2 pc : Nat} {lv : List (Nat × Value)} {st : List Value} {ws : va_W} {a b : Nat} {off : Int} (tgt : Nat) (hd : decode cc pc = .ok (.if_icmp .lt off, 3)) (ht : (pc : Int) + off = (tgt : Int)) (h1 : a < 2147483648) (h2 : b < 2147483648) (kt : a < b → V x G nL n1 n2 tgt lv st ws) (kf : b ≤ a → V x G nL n1 n2 (pc + 3) lv st ws) : V x G nL n1 n2 pc lv (.int (nI b) :: .int (nI a) :: st) ws := by
  obtain ⟨p, l, e, R, s, m, args, below, meth, c, Q, A⟩ := x
  obtain ⟨hx, hb, hml, hts, hown, hKS, hA, hR, hnm⟩ := O
  intro H locs ls hP hD hS hl
  exact lv_icmp_lt hx hb hd ht (fun h => kt (by rw [Int32.lt_iff_toInt_lt, nI_toInt h1, nI_toInt h2] at h; omega) H locs ls hP hD hS hl) (fun h => kf (by rw [Int32.lt_iff_toInt_lt, nI_toInt h1, nI_toInt h2] at h; omega) H locs ls hP hD hS hl)
theorem k_if_lt {x : Cx} {G : Gx} {nL : Nat} {cc : ByteArray} {Ts : List Cond} {y0 : MethodName} {rm : Room} (O : Okx x G nL cc Ts y0 rm) {n1 n2 pc : Nat} {lv : List (Nat × Value)} {st : List Value} {ws : va_W} {a : Int32} {off : Int} (tgt : Nat) (hd : decode cc pc = .ok (.ifCond .lt off, 3)) (ht : (pc : Int) + off = (tgt : Int)) (kt : a.toInt < 0 → V x G nL n1 n2 tgt lv st ws) (kf : 0 ≤ a.toInt → V x G nL n1 n2 (pc + 3) lv st ws) : V x G nL n1 n2 pc lv (.int a :: st) ws := by
  obtain ⟨p, l, e, R, s, m, args, below, meth, c, Q, A⟩ := x
  obtain ⟨hx, hb, hml, hts, hown, hKS, hA, hR, hnm⟩ := O
  intro H locs ls hP hD hS hl
  have z0 : (0 : Int32).toInt = 0 := rfl
  exact lv_if_lt hx hb hd ht (fun h => kt (by first | (rw [Int32.lt_iff_toInt_lt] at h; omega) | (rw [Int32.le_iff_toInt_le] at h; omega)) H locs ls hP hD hS hl) (fun h => kf (by first | (rw [Int32.lt_iff_toInt_lt] at h; omega) | (rw [Int32.le_iff_toInt_le] at h; omega)) H locs ls hP hD hS hl)
theorem k_icmp_ge {x : Cx} {G : Gx} {nL : Nat} {cc : ByteArray} {Ts : List Cond} {y0 : MethodName} {rm : Room} (O : Okx x G nL cc Ts y0 rm) {n1 n2 pc : Nat} {lv : List (Nat × Value)} {st : List Value} {ws : va_W} {a b : Int32} {off : Int} (tgt : Nat) (hd : decode cc pc = .ok (.if_icmp .ge off, 3)) (ht : (pc : Int) + off = (tgt : Int)) (kt : b.toInt ≤ a.toInt → V x G nL n1 n2 tgt lv st ws) (kf : a.toInt < b.toInt → V x G nL n1 n2 (pc + 3) lv st ws) : V x G nL n1 n2 pc lv (.int b :: .int a :: st) ws := by
  obtain ⟨p, l, e, R, s, m, args, below, meth, c, Q, A⟩ := x
  obtain ⟨hx, hb, hml, hts, hown, hKS, hA, hR, hnm⟩ := O
  intro H locs ls hP hD hS hl
  exact lv_icmp_ge hx hb hd ht (fun h => kt (by first | exact Int32.lt_iff_toInt_lt.mp h | exact Int32.le_iff_toInt_le.mp h) H locs ls hP hD hS hl) (fun h => kf (by first | (rw [Int32.lt_iff_toInt_lt] at h; omega) | (rw [Int32.le_iff_toInt_le] at h; omega)) H locs ls hP hD hS hl)
theorem k_icmp_geN {x : Cx} {G : Gx} {nL : Nat} {cc : ByteArray} {Ts : List Cond} {y0 : MethodName} {rm : Room} (O : Okx x G nL cc Ts y0 rm) {n1 n2 pc : Nat} {lv : List (Nat × Value)} {st : List Value} {ws : va_W} {a b : Nat} {off : Int} (tgt : Nat) (hd : decode cc pc = .ok (.if_icmp .ge off, 3)) (ht : (pc : Int) + off = (tgt : Int)) (h1 : a < 2147483648) (h2 : b < 2147483648) (kt : b ≤ a → V x G nL n1 n2 tgt lv st ws) (kf : a < b → V x G nL n1 n2 (pc + 3) lv st ws) : V x G nL n1 n2 pc lv (.int (nI b) :: .int (nI a) :: st) ws := by
  obtain ⟨p, l, e, R, s, m, args, below, meth, c, Q, A⟩ := x
  obtain ⟨hx, hb, hml, hts, hown, hKS, hA, hR, hnm⟩ := O
  intro H locs ls hP hD hS hl
  exact lv_icmp_ge hx hb hd ht (fun h => kt (by rw [Int32.le_iff_toInt_le, nI_toInt h1, nI_toInt h2] at h; omega) H locs ls hP hD hS hl) (fun h => kf (by rw [Int32.le_iff_toInt_le, nI_toInt h1, nI_toInt h2] at h; omega) H locs ls hP hD hS hl)
theorem k_if_ge {x : Cx} {G : Gx} {nL : Nat} {cc : ByteArray} {Ts : List Cond} {y0 : MethodName} {rm : Room} (O : Okx x G nL cc Ts y0 rm) {n1 n2 pc : Nat} {lv : List (Nat × Value)} {st : List Value} {ws : va_W} {a : Int32} {off : Int} (tgt : Nat) (hd : decode cc pc = .ok (.ifCond .ge off, 3)) (ht : (pc : Int) + off = (tgt : Int)) (kt : 0 ≤ a.toInt → V x G nL n1 n2 tgt lv st ws) (kf : a.toInt < 0 → V x G nL n1 n2 (pc + 3) lv st ws) : V x G nL n1 n2 pc lv (.int a :: st) ws := by
  obtain ⟨p, l, e, R, s, m, args, below, meth, c, Q, A⟩ := x
  obtain ⟨hx, hb, hml, hts, hown, hKS, hA, hR, hnm⟩ := O
  intro H locs ls hP hD hS hl
  have z0 : (0 : Int32).toInt = 0 := rfl
  exact lv_if_ge hx hb hd ht (fun h => kt (by first | (rw [Int32.lt_iff_toInt_lt] at h; omega) | (rw [Int32.le_iff_toInt_le] at h; omega)) H locs ls hP hD hS hl) (fun h => kf (by first | (rw [Int32.lt_iff_toInt_lt] at h; omega) | (rw [Int32.le_iff_toInt_le] at h; omega)) H locs ls hP hD hS hl)
theorem k_icmp_gt {x : Cx} {G : Gx} {nL : Nat} {cc : ByteArray} {Ts : List Cond} {y0 : MethodName} {rm : Room} (O : Okx x G nL cc Ts y0 rm) {n1 n2 pc : Nat} {lv : List (Nat × Value)} {st : List Value} {ws : va_W} {a b : Int32} {off : Int} (tgt : Nat) (hd : decode cc pc = .ok (.if_icmp .gt off, 3)) (ht : (pc : Int) + off = (tgt : Int)) (kt : b.toInt < a.toInt → V x G nL n1 n2 tgt lv st ws) (kf : a.toInt ≤ b.toInt → V x G nL n1 n2 (pc + 3) lv st ws) : V x G nL n1 n2 pc lv (.int b :: .int a :: st) ws := by
  obtain ⟨p, l, e, R, s, m, args, below, meth, c, Q, A⟩ := x
  obtain ⟨hx, hb, hml, hts, hown, hKS, hA, hR, hnm⟩ := O
  intro H locs ls hP hD hS hl
  exact lv_icmp_gt hx hb hd ht (fun h => kt (by first | exact Int32.lt_iff_toInt_lt.mp h | exact Int32.le_iff_toInt_le.mp h) H locs ls hP hD hS hl) (fun h => kf (by first | (rw [Int32.lt_iff_toInt_lt] at h; omega) | (rw [Int32.le_iff_toInt_le] at h; omega)) H locs ls hP hD hS hl)
theorem k_icmp_gtN {x : Cx} {G : Gx} {nL : Nat} {cc : ByteArray} {Ts : List Cond} {y0 : MethodName} {rm : Room} (O : Okx x G nL cc Ts y0 rm) {n1 n2 pc : Nat} {lv : List (Nat × Value)} {st : List Value} {ws : va_W} {a b : Nat} {off : Int} (tgt : Nat) (hd : decode cc pc = .ok (.if_icmp .gt off, 3)) (ht : (pc : Int) + off = (tgt : Int)) (h1 : a < 2147483648) (h2 : b < 2147483648) (kt : b < a → V x G nL n1 n2 tgt lv st ws) (kf : a ≤ b → V x G nL n1 n2 (pc + 3) lv st ws) : V x G nL n1 n2 pc lv (.int (nI b) :: .int (nI a) :: st) ws := by
  obtain ⟨p, l, e, R, s, m, args, below, meth, c, Q, A⟩ := x
  obtain ⟨hx, hb, hml, hts, hown, hKS, hA, hR, hnm⟩ := O
  intro H locs ls hP hD hS hl
  exact lv_icmp_gt hx hb hd ht (fun h => kt (by rw [Int32.lt_iff_toInt_lt, nI_toInt h1, nI_toInt h2] at h; omega) H locs ls hP hD hS hl) (fun h => kf (by rw [Int32.lt_iff_toInt_lt, nI_toInt h1, nI_toInt h2] at h; omega) H locs ls hP hD hS hl)
theorem k_if_gt {x : Cx} {G : Gx} {nL : Nat} {cc : ByteArray} {Ts : List Cond} {y0 : MethodName} {rm : Room} (O : Okx x G nL cc Ts y0 rm) {n1 n2 pc : Nat} {lv : List (Nat × Value)} {st : List Value} {ws : va_W} {a : Int32} {off : Int} (tgt : Nat) (hd : decode cc pc = .ok (.ifCond .gt off, 3)) (ht : (pc : Int) + off = (tgt : Int)) (kt : 0 < a.toInt → V x G nL n1 n2 tgt lv st ws) (kf : a.toInt ≤ 0 → V x G nL n1 n2 (pc + 3) lv st ws) : V x G nL n1 n2 pc lv (.int a :: st) ws := by
  obtain ⟨p, l, e, R, s, m, args, below, meth, c, Q, A⟩ := x
  obtain ⟨hx, hb, hml, hts, hown, hKS, hA, hR, hnm⟩ := O
  intro H locs ls hP hD hS hl
  have z0 : (0 : Int32).toInt = 0 := rfl
  exact lv_if_gt hx hb hd ht (fun h => kt (by first | (rw [Int32.lt_iff_toInt_lt] at h; omega) | (rw [Int32.le_iff_toInt_le] at h; omega)) H locs ls hP hD hS hl) (fun h => kf (by first | (rw [Int32.lt_iff_toInt_lt] at h; omega) | (rw [Int32.le_iff_toInt_le] at h; omega)) H locs ls hP hD hS hl)
theorem k_if_gtN {x : Cx} {G : Gx} {nL : Nat} {cc : ByteArray} {Ts : List Cond} {y0 : MethodName} {rm : Room} (O : Okx x G nL cc Ts y0 rm) {n1 n2 pc : Nat} {lv : List (Nat × Value)} {st : List Value} {ws : va_W} {a : Nat} {off : Int} (tgt : Nat) (hd : decode cc pc = .ok (.ifCond .gt off, 3)) (ht : (pc : Int) + off = (tgt : Int)) (h1 : a < 2147483648) (kt : 0 < a → V x G nL n1 n2 tgt lv st ws) (kf : a = 0 → V x G nL n1 n2 (pc + 3) lv st ws) : V x G nL n1 n2 pc lv (.int (nI a) :: st) ws := by
  obtain ⟨p, l, e, R, s, m, args, below, meth, c, Q, A⟩ := x
  obtain ⟨hx, hb, hml, hts, hown, hKS, hA, hR, hnm⟩ := O
  intro H locs ls hP hD hS hl
  exact lv_if_gt hx hb hd ht (fun h => kt (by rw [Int32.lt_iff_toInt_lt, nI_toInt h1] at h; have z0 : (0 : Int32).toInt = 0 := rfl; omega) H locs ls hP hD hS hl) (fun h => kf (by rw [Int32.lt_iff_toInt_lt, nI_toInt h1] at h; have z0 : (0 : Int32).toInt = 0 := rfl; omega) H locs ls hP hD hS hl)
theorem k_icmp_le {x : Cx} {G : Gx} {nL : Nat} {cc : ByteArray} {Ts : List Cond} {y0 : MethodName} {rm : Room} (O : Okx x G nL cc Ts y0 rm) {n1 n2 pc : Nat} {lv : List (Nat × Value)} {st : List Value} {ws : va_W} {a b : Int32} {off : Int} (tgt : Nat) (hd : decode cc pc = .ok (.if_icmp .le off, 3)) (ht : (pc : Int) + off = (tgt : Int)) (kt : a.toInt ≤ b.toInt → V x G nL n1 n2 tgt lv st ws) (kf : b.toInt < a.toInt → V x G nL n1 n2 (pc + 3) lv st ws) : V x G nL n1 n2 pc lv (.int b :: .int a :: st) ws := by
  obtain ⟨p, l, e, R, s, m, args, below, meth, c, Q, A⟩ := x
  obtain ⟨hx, hb, hml, hts, hown, hKS, hA, hR, hnm⟩ := O
  intro H locs ls hP hD hS hl
  exact lv_icmp_le hx hb hd ht (fun h => kt (by first | exact Int32.lt_iff_toInt_lt.mp h | exact Int32.le_iff_toInt_le.mp h) H locs ls hP hD hS hl) (fun h => kf (by first | (rw [Int32.lt_iff_toInt_lt] at h; omega) | (rw [Int32.le_iff_toInt_le] at h; omega)) H locs ls hP hD hS hl)
theorem k_icmp_leN {x : Cx} {G : Gx} {nL : Nat} {cc : ByteArray} {Ts : List Cond} {y0 : MethodName} {rm : Room} (O : Okx x G nL cc Ts y0 rm) {n1 n2 pc : Nat} {lv : List (Nat × Value)} {st : List Value} {ws : va_W} {a b : Nat} {off : Int} (tgt : Nat) (hd : decode cc pc = .ok (.if_icmp .le off, 3)) (ht : (pc : Int) + off = (tgt : Int)) (h1 : a < 2147483648) (h2 : b < 2147483648) (kt : a ≤ b → V x G nL n1 n2 tgt lv st ws) (kf : b < a → V x G nL n1 n2 (pc + 3) lv st ws) : V x G nL n1 n2 pc lv (.int (nI b) :: .int (nI a) :: st) ws := by
  obtain ⟨p, l, e, R, s, m, args, below, meth, c, Q, A⟩ := x
  obtain ⟨hx, hb, hml, hts, hown, hKS, hA, hR, hnm⟩ := O
  intro H locs ls hP hD hS hl
  exact lv_icmp_le hx hb hd ht (fun h => kt (by rw [Int32.le_iff_toInt_le, nI_toInt h1, nI_toInt h2] at h; omega) H locs ls hP hD hS hl) (fun h => kf (by rw [Int32.le_iff_toInt_le, nI_toInt h1, nI_toInt h2] at h; omega) H locs ls hP hD hS hl)
theorem k_if_le {x : Cx} {G : Gx} {nL : Nat} {cc : ByteArray} {Ts : List Cond} {y0 : MethodName} {rm : Room} (O : Okx x G nL cc Ts y0 rm) {n1 n2 pc : Nat} {lv : List (Nat × Value)} {st : List Value} {ws : va_W} {a : Int32} {off : Int} (tgt : Nat) (hd : decode cc pc = .ok (.ifCond .le off, 3)) (ht : (pc : Int) + off = (tgt : Int)) (kt : a.toInt ≤ 0 → V x G nL n1 n2 tgt lv st ws) (kf : 0 < a.toInt → V x G nL n1 n2 (pc + 3) lv st ws) : V x G nL n1 n2 pc lv (.int a :: st) ws := by
  obtain ⟨p, l, e, R, s, m, args, below, meth, c, Q, A⟩ := x
  obtain ⟨hx, hb, hml, hts, hown, hKS, hA, hR, hnm⟩ := O
  intro H locs ls hP hD hS hl
  have z0 : (0 : Int32).toInt = 0 := rfl
  exact lv_if_le hx hb hd ht (fun h => kt (by first | (rw [Int32.lt_iff_toInt_lt] at h; omega) | (rw [Int32.le_iff_toInt_le] at h; omega)) H locs ls hP hD hS hl) (fun h => kf (by first | (rw [Int32.lt_iff_toInt_lt] at h; omega) | (rw [Int32.le_iff_toInt_le] at h; omega)) H locs ls hP hD hS hl)
theorem k_if_leN {x : Cx} {G : Gx} {nL : Nat} {cc : ByteArray} {Ts : List Cond} {y0 : MethodName} {rm : Room} (O : Okx x G nL cc Ts y0 rm) {n1 n2 pc : Nat} {lv : List (Nat × Value)} {st : List Value} {ws : va_W} {a : Nat} {off : Int} (tgt : Nat) (hd : decode cc pc = .ok (.ifCond .le off, 3)) (ht : (pc : Int) + off = (tgt : Int)) (h1 : a < 2147483648) (kt : a = 0 → V x G nL n1 n2 tgt lv st ws) (kf : 0 < a → V x G nL n1 n2 (pc + 3) lv st ws) : V x G nL n1 n2 pc lv (.int (nI a) :: st) ws := by
  obtain ⟨p, l, e, R, s, m, args, below, meth, c, Q, A⟩ := x
  obtain ⟨hx, hb, hml, hts, hown, hKS, hA, hR, hnm⟩ := O
  intro H locs ls hP hD hS hl
  exact lv_if_le hx hb hd ht (fun h => kt (by rw [Int32.le_iff_toInt_le, nI_toInt h1] at h; have z0 : (0 : Int32).toInt = 0 := rfl; omega) H locs ls hP hD hS hl) (fun h => kf (by rw [Int32.le_iff_toInt_le, nI_toInt h1] at h; have z0 : (0 : Int32).toInt = 0 := rfl; omega) H locs ls hP hD hS hl)
theorem k_if_ltN {x : Cx} {G : Gx} {nL : Nat} {cc : ByteArray} {Ts : List Cond} {y0 : MethodName} {rm : Room} (O : Okx x G nL cc Ts y0 rm) {n1 n2 pc : Nat} {lv : List (Nat × Value)} {st : List Value} {ws : va_W} {a : Nat} {off : Int} (tgt : Nat) (hd : decode cc pc = .ok (.ifCond .lt off, 3)) (ht : (pc : Int) + off = (tgt : Int)) (h1 : a < 2147483648) (g : V x G nL n1 n2 (pc + 3) lv st ws) : V x G nL n1 n2 pc lv (.int (nI a) :: st) ws := by
  obtain ⟨p, l, e, R, s, m, args, below, meth, c, Q, A⟩ := x
  obtain ⟨hx, hb, hml, hts, hown, hKS, hA, hR, hnm⟩ := O
  intro H locs ls hP hD hS hl
  exact lv_if_lt hx hb hd ht (fun h => absurd h (nI_pos h1)) (fun _ => g H locs ls hP hD hS hl)
theorem k_if_geN {x : Cx} {G : Gx} {nL : Nat} {cc : ByteArray} {Ts : List Cond} {y0 : MethodName} {rm : Room} (O : Okx x G nL cc Ts y0 rm) {n1 n2 pc : Nat} {lv : List (Nat × Value)} {st : List Value} {ws : va_W} {a : Nat} {off : Int} (tgt : Nat) (hd : decode cc pc = .ok (.ifCond .ge off, 3)) (ht : (pc : Int) + off = (tgt : Int)) (h1 : a < 2147483648) (g : V x G nL n1 n2 tgt lv st ws) : V x G nL n1 n2 pc lv (.int (nI a) :: st) ws := by
  obtain ⟨p, l, e, R, s, m, args, below, meth, c, Q, A⟩ := x
  obtain ⟨hx, hb, hml, hts, hown, hKS, hA, hR, hnm⟩ := O
  intro H locs ls hP hD hS hl
  exact lv_if_ge hx hb hd ht (fun _ => g H locs ls hP hD hS hl) (fun h => absurd (nI_pos' h1) h)
theorem k_dup2 {x : Cx} {G : Gx} {nL : Nat} {cc : ByteArray} {Ts : List Cond} {y0 : MethodName} {rm : Room} (O : Okx x G nL cc Ts y0 rm) {n1 n2 pc : Nat} {lv : List (Nat × Value)} {st : List Value} {ws : va_W} {u v : Value} (hd : decode cc pc = .ok (.dup2, 1)) (hu : u.category = 1) (hv : v.category = 1) (g : V x G nL n1 n2 (pc + 1) lv (u :: v :: u :: v :: st) ws) : V x G nL n1 n2 pc lv (u :: v :: st) ws := by
  obtain ⟨p, l, e, R, s, m, args, below, meth, c, Q, A⟩ := x
  obtain ⟨hx, hb, hml, hts, hown, hKS, hA, hR, hnm⟩ := O
  intro H locs ls hP hD hS hl
  exact lv_dup2_11 hx hb hd hu hv (g H locs ls hP hD hS hl)
theorem va_P_cell {D : va_G} {cl : List vw_C} {ws : va_W} {H : Heap} {k a : Nat} {cA : ClassId} {n : Nat} {g f : Nat → Int32} (hP : va_P D cl ws H) (he : ws[k]? = some (a, .inl (cA, n, .inl g))) (h : ∀ j, j < n → g j = f j) : va_P D cl (ws.set k (a, .inl (cA, n, .inl f))) H := by
  intro i q hq
  by_cases hi : i = k
  · subst hi
    have hl := (List.getElem?_eq_some_iff.mp he).1
    rw [List.getElem?_set_self hl] at hq
    cases hq
    have h1 := hP i _ he
    show H[a]? = some (vp_cell cA (n, .inl f))
    have h2 : vp_cell cA (n, .inl f) = vp_cell cA (n, .inl g) := by
      show arrV cA n (fun j => .int (f j)) = arrV cA n (fun j => .int (g j))
      unfold arrV
      congr 1
      apply Array.ext
      · simp
      · intro j h3 h4
        have h5 : j < n := by simpa using h3
        simp [h j h5]
    rw [h2]
    exact h1
  · rw [List.getElem?_set_ne (Ne.symm hi)] at hq
    exact hP i q hq
theorem k_cell {x : Cx} {G : Gx} {nL n1 n2 pc : Nat} {lv : List (Nat × Value)} {st : List Value} {ws : va_W} (k : Nat) {a n : Nat} {g0 : Nat → Int32} (f : Nat → Int32) (he : ws[k]? = some (a, cI G n g0)) (h : ∀ j, j < n → g0 j = f j) (ws' : va_W) (hws : ws.set k (a, cI G n f) = ws') (g : V x G nL n1 n2 pc lv st ws') : V x G nL n1 n2 pc lv st ws := by
  subst hws
  refine k_world _ (fun H hP => va_P_cell hP he h) ?_ g
  rw [List.map_set]
  apply List.ext_getElem?
  intro i
  by_cases hi : k = i
  · subst hi
    have h0 : (ws.map (fun q => q.1))[k]? = some a := by rw [List.getElem?_map, he]; rfl
    have hl := (List.getElem?_eq_some_iff.mp h0).1
    rw [List.getElem?_set_self hl, h0]
  · rw [List.getElem?_set_ne hi]
def bI (b : Bool) : Int32 := if b then nI 1 else nI 0
theorem k_if_eqB {x : Cx} {G : Gx} {nL : Nat} {cc : ByteArray} {Ts : List Cond} {y0 : MethodName} {rm : Room} (O : Okx x G nL cc Ts y0 rm) {n1 n2 pc : Nat} {lv : List (Nat × Value)} {st : List Value} {ws : va_W} {b : Bool} {off : Int} (tgt : Nat) (hd : decode cc pc = .ok (.ifCond .eq off, 3)) (ht : (pc : Int) + off = (tgt : Int)) (kt : b = false → V x G nL n1 n2 tgt lv st ws) (kf : b = true → V x G nL n1 n2 (pc + 3) lv st ws) : V x G nL n1 n2 pc lv (.int (bI b) :: st) ws := by
  obtain ⟨p, l, e, R, s, m, args, below, meth, c, Q, A⟩ := x
  obtain ⟨hx, hb, hml, hts, hown, hKS, hA, hR, hnm⟩ := O
  intro H locs ls hP hD hS hl
  exact lv_if_eq hx hb hd ht (fun h => kt (by cases b; rfl; exact absurd h (by decide)) H locs ls hP hD hS hl) (fun h => kf (by cases b; exact absurd rfl h; rfl) H locs ls hP hD hS hl)
theorem k_if_neB {x : Cx} {G : Gx} {nL : Nat} {cc : ByteArray} {Ts : List Cond} {y0 : MethodName} {rm : Room} (O : Okx x G nL cc Ts y0 rm) {n1 n2 pc : Nat} {lv : List (Nat × Value)} {st : List Value} {ws : va_W} {b : Bool} {off : Int} (tgt : Nat) (hd : decode cc pc = .ok (.ifCond .ne off, 3)) (ht : (pc : Int) + off = (tgt : Int)) (kt : b = true → V x G nL n1 n2 tgt lv st ws) (kf : b = false → V x G nL n1 n2 (pc + 3) lv st ws) : V x G nL n1 n2 pc lv (.int (bI b) :: st) ws := by
  obtain ⟨p, l, e, R, s, m, args, below, meth, c, Q, A⟩ := x
  obtain ⟨hx, hb, hml, hts, hown, hKS, hA, hR, hnm⟩ := O
  intro H locs ls hP hD hS hl
  exact lv_if_ne hx hb hd ht (fun h => kt (by cases b; exact absurd rfl h; rfl) H locs ls hP hD hS hl) (fun h => kf (by cases b; rfl; exact absurd h (by decide)) H locs ls hP hD hS hl)
theorem k_ifnonnull {x : Cx} {G : Gx} {nL : Nat} {cc : ByteArray} {Ts : List Cond} {y0 : MethodName} {rm : Room} (O : Okx x G nL cc Ts y0 rm) {n1 n2 pc : Nat} {lv : List (Nat × Value)} {st : List Value} {ws : va_W} {a : Nat} {off : Int} (tgt : Nat) (hd : decode cc pc = .ok (.ifnonnull off, 3)) (ht : (pc : Int) + off = (tgt : Int)) (g : V x G nL n1 n2 tgt lv st ws) : V x G nL n1 n2 pc lv (.ref a :: st) ws := by
  obtain ⟨p, l, e, R, s, m, args, below, meth, c, Q, A⟩ := x
  obtain ⟨hx, hb, hml, hts, hown, hKS, hA, hR, hnm⟩ := O
  intro H locs ls hP hD hS hl
  exact lv_ifnonnull hx hb hd ht (g H locs ls hP hD hS hl)
theorem k_ifnonnullN {x : Cx} {G : Gx} {nL : Nat} {cc : ByteArray} {Ts : List Cond} {y0 : MethodName} {rm : Room} (O : Okx x G nL cc Ts y0 rm) {n1 n2 pc : Nat} {lv : List (Nat × Value)} {st : List Value} {ws : va_W} {off : Int} (hd : decode cc pc = .ok (.ifnonnull off, 3)) (g : V x G nL n1 n2 (pc + 3) lv st ws) : V x G nL n1 n2 pc lv (.null :: st) ws := by
  obtain ⟨p, l, e, R, s, m, args, below, meth, c, Q, A⟩ := x
  obtain ⟨hx, hb, hml, hts, hown, hKS, hA, hR, hnm⟩ := O
  intro H locs ls hP hD hS hl
  exact lv_ifnonnullN hx hb hd (g H locs ls hP hD hS hl)
theorem k_tableIn {x : Cx} {G : Gx} {nL : Nat} {cc : ByteArray} {Ts : List Cond} {y0 : MethodName} {rm : Room} (O : Okx x G nL cc Ts y0 rm) {n1 n2 pc : Nat} {lv : List (Nat × Value)} {st : List Value} {ws : va_W} {dflt lo hi : Int} {offs : Array Int} {len : Nat} {v : Int32} {off : Int} (tgt : Nat) (hd : decode cc pc = .ok (.tableswitch dflt lo hi offs, len)) (h1 : ¬ v.toInt < lo) (h2 : ¬ hi < v.toInt) (ho : offs[(v.toInt - lo).toNat]? = some off) (ht : (pc : Int) + off = (tgt : Int)) (g : V x G nL n1 n2 tgt lv st ws) : V x G nL n1 n2 pc lv (.int v :: st) ws := by
  obtain ⟨p, l, e, R, s, m, args, below, meth, c, Q, A⟩ := x
  obtain ⟨hx, hb, hml, hts, hown, hKS, hA, hR, hnm⟩ := O
  intro H locs ls hP hD hS hl
  exact lv_tableIn hx hb hd h1 h2 ho ht (g H locs ls hP hD hS hl)
theorem k_tableOut {x : Cx} {G : Gx} {nL : Nat} {cc : ByteArray} {Ts : List Cond} {y0 : MethodName} {rm : Room} (O : Okx x G nL cc Ts y0 rm) {n1 n2 pc : Nat} {lv : List (Nat × Value)} {st : List Value} {ws : va_W} {dflt lo hi : Int} {offs : Array Int} {len : Nat} {v : Int32} (tgt : Nat) (hd : decode cc pc = .ok (.tableswitch dflt lo hi offs, len)) (h : v.toInt < lo ∨ hi < v.toInt) (ht : (pc : Int) + dflt = (tgt : Int)) (g : V x G nL n1 n2 tgt lv st ws) : V x G nL n1 n2 pc lv (.int v :: st) ws := by
  obtain ⟨p, l, e, R, s, m, args, below, meth, c, Q, A⟩ := x
  obtain ⟨hx, hb, hml, hts, hown, hKS, hA, hR, hnm⟩ := O
  intro H locs ls hP hD hS hl
  exact lv_tableOut hx hb hd h ht (g H locs ls hP hD hS hl)
theorem k_get {x : Cx} {G : Gx} {nL : Nat} {cc : ByteArray} {Ts : List Cond} {y0 : MethodName} {rm : Room} (O : Okx x G nL cc Ts y0 rm) {n1 n2 pc : Nat} {lv : List (Nat × Value)} {st : List Value} {ws : va_W} {C : String} {T : u_T} {N ci ix : Nat} {a : Nat} (q0 : Nat) {fs : List Value} (he : ws[q0]? = some (a, cO ci fs)) (hc : vwCl[ci]? = some (C, T, N)) (hin : ∀ w ∈ u_ws C T N, w ∈ Ts) (k : Nat) (hk : Nat.blt k N = true) (hlink : Cond.fieldLink y0.cls ix C (T k).2.1 (T k).2.2.1 ∈ Ts) (hsame : (T k).1 = C) {v : Value} (hv : fs[k]? = some v) (hd : decode cc pc = .ok (.getfield ix, 3)) (g : V x G nL n1 n2 (pc + 3) lv (v :: st) ws) : V x G nL n1 n2 pc lv (.ref a :: st) ws := by
  obtain ⟨p, l, e, R, s, m, args, below, meth, c, Q, A⟩ := x
  obtain ⟨hx, hb, hml, hts, hown, hKS, hA, hR, hnm⟩ := O
  intro H locs ls hP hD hS hl
  exact va_get hx hb hts hin hown hKS.1 hP q0 he hc k (Nat.le_of_ble_eq_true hk) (hts _ hlink) (fun _ h9 => by rw [hsame] at h9; exact h9) hv hd (g H locs ls hP hD hS hl)
theorem k_put {x : Cx} {G : Gx} {nL : Nat} {cc : ByteArray} {Ts : List Cond} {y0 : MethodName} {rm : Room} (O : Okx x G nL cc Ts y0 rm) {n1 n2 pc : Nat} {lv : List (Nat × Value)} {st : List Value} {ws : va_W} {C : String} {T : u_T} {N ci ix : Nat} {a : Nat} (q0 : Nat) {fs : List Value} (he : ws[q0]? = some (a, cO ci fs)) (hc : vwCl[ci]? = some (C, T, N)) (hin : ∀ w ∈ u_ws C T N, w ∈ Ts) (k : Nat) (hk : Nat.blt k N = true) (hlink : Cond.fieldLink y0.cls ix C (T k).2.1 (T k).2.2.1 ∈ Ts) (hsame : (T k).1 = C) (ty0 : Nat → FieldType) (hty : ∀ k, k < N → parseFieldDescriptor (T k).2.2.1 = some (ty0 k)) (hnames : ∀ a, a < N → ∀ b, b < N → a ≠ b → (T a).2.1 ≠ (T b).2.1) (hfin : (T k).2.2.2 = false)  {v : Value} (hn : narrow (ty0 k) v = v) (hfit : fits (ty0 k) v = true) (hlen : Nat.blt k fs.length = true) (ws' : va_W) (hws : ws.set q0 (a, cO ci (fs.set k v)) = ws') (hd : decode cc pc = .ok (.putfield ix, 3)) (g : V x G nL n1 n2 (pc + 3) lv st ws') : V x G nL n1 n2 pc lv (v :: .ref a :: st) ws := by
  obtain ⟨p, l, e, R, s, m, args, below, meth, c, Q, A⟩ := x
  obtain ⟨hx, hb, hml, hts, hown, hKS, hA, hR, hnm⟩ := O
  intro H locs ls hP hD hS hl
  subst hws
  exact va_put hx hb hts hin ty0 hty hnames hown hKS.1 hP hD hS q0 he hc k (Nat.le_of_ble_eq_true hk) (hts _ hlink) (fun _ h9 => by rw [hsame] at h9; exact h9) hfin (hty k (Nat.le_of_ble_eq_true hk)) hn hfit (Nat.le_of_ble_eq_true hlen) hd (fun H locs hP hD hS => g H locs ls hP hD hS hl)
theorem k_putF {x : Cx} {G : Gx} {nL : Nat} {cc : ByteArray} {Ts : List Cond} {y0 : MethodName} {rm : Room} (O : Okx x G nL cc Ts y0 rm) {n1 n2 pc : Nat} {lv : List (Nat × Value)} {st : List Value} {ws : va_W} {C : String} {T : u_T} {N ci ix : Nat} {a : Nat} (q0 : Nat) {fs : List Value} (he : ws[q0]? = some (a, cO ci fs)) (hc : vwCl[ci]? = some (C, T, N)) (hin : ∀ w ∈ u_ws C T N, w ∈ Ts) (k : Nat) (hk : Nat.blt k N = true) (hlink : Cond.fieldLink y0.cls ix C (T k).2.1 (T k).2.2.1 ∈ Ts) (hsame : (T k).1 = C) (ty0 : Nat → FieldType) (hty : ∀ k, k < N → parseFieldDescriptor (T k).2.2.1 = some (ty0 k)) (hnames : ∀ a, a < N → ∀ b, b < N → a ≠ b → (T a).2.1 ≠ (T b).2.1) (hfin : (T k).2.2.2 = true) (hini : y0.name = "<init>") (hdecl : (T k).1 = y0.cls) {v : Value} (hn : narrow (ty0 k) v = v) (hfit : fits (ty0 k) v = true) (hlen : Nat.blt k fs.length = true) (ws' : va_W) (hws : ws.set q0 (a, cO ci (fs.set k v)) = ws') (hd : decode cc pc = .ok (.putfield ix, 3)) (g : V x G nL n1 n2 (pc + 3) lv st ws') : V x G nL n1 n2 pc lv (v :: .ref a :: st) ws := by
  obtain ⟨p, l, e, R, s, m, args, below, meth, c, Q, A⟩ := x
  obtain ⟨hx, hb, hml, hts, hown, hKS, hA, hR, hnm⟩ := O
  intro H locs ls hP hD hS hl
  subst hws
  exact va_putF hx hb hts hin ty0 hty hnames hown hKS.1 hP hD hS q0 he hc k (Nat.le_of_ble_eq_true hk) (hts _ hlink) (fun _ h9 => by rw [hsame] at h9; exact h9) hfin (hnm.trans hini) hdecl (hty k (Nat.le_of_ble_eq_true hk)) hn hfit (Nat.le_of_ble_eq_true hlen) hd (fun H locs hP hD hS => g H locs ls hP hD hS hl)
theorem k_iald {x : Cx} {G : Gx} {nL : Nat} {cc : ByteArray} {Ts : List Cond} {y0 : MethodName} {rm : Room} (O : Okx x G nL cc Ts y0 rm) {n1 n2 pc : Nat} {lv : List (Nat × Value)} {st : List Value} {ws : va_W} {a n : Nat} {f : Nat → Int32} (q0 : Nat) (he : ws[q0]? = some (a, cI G n f)) {i : Nat} (hi : i < n) (hn : n < 2147483648) (hd : decode cc pc = .ok (.iaload, 1)) (g : V x G nL n1 n2 (pc + 1) lv (.int (f i) :: st) ws) : V x G nL n1 n2 pc lv (.int (nI i) :: .ref a :: st) ws := by
  obtain ⟨p, l, e, R, s, m, args, below, meth, c, Q, A⟩ := x
  obtain ⟨hx, hb, hml, hts, hown, hKS, hA, hR, hnm⟩ := O
  intro H locs ls hP hD hS hl
  exact va_iald hx hb hKS.1 hP q0 0 he rfl (vp_in_nI hi hn) hd (by rw [nI_clamp (Nat.lt_trans hi hn)]; exact g H locs ls hP hD hS hl)
theorem k_iast {x : Cx} {G : Gx} {nL : Nat} {cc : ByteArray} {Ts : List Cond} {y0 : MethodName} {rm : Room} (O : Okx x G nL cc Ts y0 rm) {n1 n2 pc : Nat} {lv : List (Nat × Value)} {st : List Value} {ws : va_W} {a n : Nat} {f : Nat → Int32} (q0 : Nat) (he : ws[q0]? = some (a, cI G n f)) {i : Nat} {v : Int32} (hi : i < n) (hn : n < 2147483648) (ws' : va_W) (hws : ws.set q0 (a, cI G n (upd f i v)) = ws') (hd : decode cc pc = .ok (.iastore, 1)) (g : V x G nL n1 n2 (pc + 1) lv st ws') : V x G nL n1 n2 pc lv (.int v :: .int (nI i) :: .ref a :: st) ws := by
  obtain ⟨p, l, e, R, s, m, args, below, meth, c, Q, A⟩ := x
  obtain ⟨hx, hb, hml, hts, hown, hKS, hA, hR, hnm⟩ := O
  intro H locs ls hP hD hS hl
  subst hws
  refine va_iast hx hb hKS.1 hP hD hS q0 0 he rfl (vp_in_nI hi hn) hd (fun H locs hP hD hS => ?_)
  rw [nI_clamp (Nat.lt_trans hi hn)] at hP hD
  exact g H locs ls hP hD hS hl
theorem k_zald {x : Cx} {G : Gx} {nL : Nat} {cc : ByteArray} {Ts : List Cond} {y0 : MethodName} {rm : Room} (O : Okx x G nL cc Ts y0 rm) {n1 n2 pc : Nat} {lv : List (Nat × Value)} {st : List Value} {ws : va_W} {a n : Nat} {f : Nat → Int32} (q0 : Nat) (he : ws[q0]? = some (a, cZ G n f)) {i : Nat} (hi : i < n) (hn : n < 2147483648) (hd : decode cc pc = .ok (.baload, 1)) (g : V x G nL n1 n2 (pc + 1) lv (.int (f i) :: st) ws) : V x G nL n1 n2 pc lv (.int (nI i) :: .ref a :: st) ws := by
  obtain ⟨p, l, e, R, s, m, args, below, meth, c, Q, A⟩ := x
  obtain ⟨hx, hb, hml, hts, hown, hKS, hA, hR, hnm⟩ := O
  intro H locs ls hP hD hS hl
  exact va_zald hx hb hKS.1 hP q0 1 he rfl (vp_in_nI hi hn) hd (by rw [nI_clamp (Nat.lt_trans hi hn)]; exact g H locs ls hP hD hS hl)
theorem k_alen {x : Cx} {G : Gx} {nL : Nat} {cc : ByteArray} {Ts : List Cond} {y0 : MethodName} {rm : Room} (O : Okx x G nL cc Ts y0 rm) {n1 n2 pc : Nat} {lv : List (Nat × Value)} {st : List Value} {ws : va_W} {a n : Nat} {ci : ClassId} {q : (Nat → Int32) ⊕ (Nat → Int64) ⊕ (Nat → UInt32) ⊕ (Nat → UInt64) ⊕ (Nat → Option Nat)} (q0 t0 : Nat) (he : ws[q0]? = some (a, .inl (ci, (n, q)))) {ty : FieldType} (ht : (tyL G)[t0]? = some (ci, ty)) (hd : decode cc pc = .ok (.arraylength, 1)) (g : V x G nL n1 n2 (pc + 1) lv (.int (nI n) :: st) ws) : V x G nL n1 n2 pc lv (.ref a :: st) ws := by
  obtain ⟨p, l, e, R, s, m, args, below, meth, c, Q, A⟩ := x
  obtain ⟨hx, hb, hml, hts, hown, hKS, hA, hR, hnm⟩ := O
  intro H locs ls hP hD hS hl
  exact va_alen hx hb hKS.1 hP q0 t0 he ht rfl hd (g H locs ls hP hD hS hl)
theorem k_aald {x : Cx} {G : Gx} {nL : Nat} {cc : ByteArray} {Ts : List Cond} {y0 : MethodName} {rm : Room} (O : Okx x G nL cc Ts y0 rm) {n1 n2 pc : Nat} {lv : List (Nat × Value)} {st : List Value} {ws : va_W} {a n : Nat} {f : Nat → Option Nat} (q0 : Nat) (he : ws[q0]? = some (a, cQ G n f)) {i : Nat} (hi : i < n) (hn : n < 2147483648) (hd : decode cc pc = .ok (.aaload, 1)) (g : V x G nL n1 n2 (pc + 1) lv (va_rf (f i) :: st) ws) : V x G nL n1 n2 pc lv (.int (nI i) :: .ref a :: st) ws := by
  obtain ⟨p, l, e, R, s, m, args, below, meth, c, Q, A⟩ := x
  obtain ⟨hx, hb, hml, hts, hown, hKS, hA, hR, hnm⟩ := O
  intro H locs ls hP hD hS hl
  exact va_aldq hx hb hKS.1 hP q0 2 he rfl (vp_in_nI hi hn) hd (by rw [nI_clamp (Nat.lt_trans hi hn)]; exact g H locs ls hP hD hS hl)
theorem k_aast {x : Cx} {G : Gx} {nL : Nat} {cc : ByteArray} {Ts : List Cond} {y0 : MethodName} {rm : Room} (O : Okx x G nL cc Ts y0 rm) {n1 n2 pc : Nat} {lv : List (Nat × Value)} {st : List Value} {ws : va_W} {a n v : Nat} {f : Nat → Option Nat} (q0 qk : Nat) (he : ws[q0]? = some (a, cQ G n f)) {vs : List Value} (hv : ws[qk]? = some (v, cO 1 vs)) {i : Nat} (hi : i < n) (hn : n < 2147483648) (ws' : va_W) (hws : ws.set q0 (a, cQ G n (va_up f i (some v))) = ws') (hd : decode cc pc = .ok (.aastore, 1)) (g : V x G nL n1 n2 (pc + 1) lv st ws') : V x G nL n1 n2 pc lv (.ref v :: .int (nI i) :: .ref a :: st) ws := by
  obtain ⟨p, l, e, R, s, m, args, below, meth, c, Q, A⟩ := x
  obtain ⟨hx, hb, hml, hts, hown, hKS, hA, hR, hnm⟩ := O
  intro H locs ls hP hD hS hl
  subst hws
  refine va_astq hx hb hKS.1 hP hD hS q0 2 qk 1 (r := (RX1, TX1, 11)) he rfl hv rfl (vp_in_nI hi hn) hd (fun H locs hP hD hS => ?_)
  rw [nI_clamp (Nat.lt_trans hi hn)] at hP hD
  exact g H locs ls hP hD hS hl
theorem k_newa {x : Cx} {G : Gx} {nL : Nat} {cc : ByteArray} {Ts : List Cond} {y0 : MethodName} {rm : Room} (O : Okx x G nL cc Ts y0 rm) {n1 n2 pc : Nat} {lv : List (Nat × Value)} {st : List Value} {ws : va_W} {n : Nat} (hd : decode cc pc = .ok (.newarray .int, 2)) (harr : Cond.arrayClass .int ∈ Ts) (hn : Nat.ble n 1000 = true) (hf : n1 + 1 ≤ rm.cells ∧ n2 + n ≤ rm.slots) (g : ∀ q : Nat, V x G nL (n1 + 1) (n2 + n) (pc + 2) lv (.ref q :: st) (ws ++ [(q, cI G n (fun _ => nI 0))])) : V x G nL n1 n2 pc lv (.int (nI n) :: st) ws := by
  obtain ⟨p, l, e, R, s, m, args, below, meth, c, Q, A⟩ := x
  obtain ⟨hx, hb, hml, hts, hown, hKS, hA, hR, hnm⟩ := O
  intro H locs ls hP hD hS hl
  subst hR
  have hn2 := Nat.le_of_ble_eq_true hn
  refine va_newa (atype := .int) (ty := .int) (N' := n) (a0 := (n, .inl (fun _ => nI 0))) hx hb (hts _ harr) rfl hKS.1 hP hD hS hA (fun cA => rfl) (nI_pos (by omega)) (nI_clamp (by omega)) (by show n * 4 ≤ _; omega) hf.1 hf.2 hd (fun q cA H1 hK1 hP1 hD1 hS1 => ?_)
  have e1 : s.vm.findClass _ = some cA := (hK1.2 3 (cA, .int) rfl).2
  have e2 : s.vm.findClass _ = some G.2.1 := (hKS.1.2 0 (G.2.1, .int) rfl).2
  have e3 : cA = G.2.1 := Option.some.inj (e1.symm.trans e2)
  subst e3
  exact g q H1 locs ls hP1 hD1 hS1 hl
theorem k_newz {x : Cx} {G : Gx} {nL : Nat} {cc : ByteArray} {Ts : List Cond} {y0 : MethodName} {rm : Room} (O : Okx x G nL cc Ts y0 rm) {n1 n2 pc : Nat} {lv : List (Nat × Value)} {st : List Value} {ws : va_W} {n : Nat} (hd : decode cc pc = .ok (.newarray .boolean, 2)) (harr : Cond.arrayClass .boolean ∈ Ts) (hn : Nat.ble n 1000 = true) (hf : n1 + 1 ≤ rm.cells ∧ n2 + n ≤ rm.slots) (g : ∀ q : Nat, V x G nL (n1 + 1) (n2 + n) (pc + 2) lv (.ref q :: st) (ws ++ [(q, cZ G n (fun _ => nI 0))])) : V x G nL n1 n2 pc lv (.int (nI n) :: st) ws := by
  obtain ⟨p, l, e, R, s, m, args, below, meth, c, Q, A⟩ := x
  obtain ⟨hx, hb, hml, hts, hown, hKS, hA, hR, hnm⟩ := O
  intro H locs ls hP hD hS hl
  subst hR
  have hn2 := Nat.le_of_ble_eq_true hn
  refine va_newa (atype := .boolean) (ty := .boolean) (N' := n) (a0 := (n, .inl (fun _ => nI 0))) hx hb (hts _ harr) rfl hKS.1 hP hD hS hA (fun cA => rfl) (nI_pos (by omega)) (nI_clamp (by omega)) (by show n * 1 ≤ _; omega) hf.1 hf.2 hd (fun q cA H1 hK1 hP1 hD1 hS1 => ?_)
  have e1 : s.vm.findClass _ = some cA := (hK1.2 3 (cA, .boolean) rfl).2
  have e2 : s.vm.findClass _ = some G.2.2.1 := (hKS.1.2 1 (G.2.2.1, .boolean) rfl).2
  have e3 : cA = G.2.2.1 := Option.some.inj (e1.symm.trans e2)
  subst e3
  exact g q H1 locs ls hP1 hD1 hS1 hl
theorem k_newq {x : Cx} {G : Gx} {nL : Nat} {cc : ByteArray} {Ts : List Cond} {y0 : MethodName} {rm : Room} (O : Okx x G nL cc Ts y0 rm) {n1 n2 pc : Nat} {lv : List (Nat × Value)} {st : List Value} {ws : va_W} {n ix : Nat} (hd : decode cc pc = .ok (.anewarray ix, 3)) (hlink : Cond.classLink y0.cls ix "LieBridges$Delta" ∈ Ts) (hn : Nat.ble n 1000 = true) (hf : n1 + 1 ≤ rm.cells ∧ n2 + n ≤ rm.slots) (g : ∀ q : Nat, V x G nL (n1 + 1) (n2 + n) (pc + 3) lv (.ref q :: st) (ws ++ [(q, cQ G n (fun _ => none))])) : V x G nL n1 n2 pc lv (.int (nI n) :: st) ws := by
  obtain ⟨p, l, e, R, s, m, args, below, meth, c, Q, A⟩ := x
  obtain ⟨hx, hb, hml, hts, hown, hKS, hA, hR, hnm⟩ := O
  intro H locs ls hP hD hS hl
  subst hR
  have hn2 := Nat.le_of_ble_eq_true hn
  refine va_newq (C := "LieBridges$Delta") (N' := n) hx hb hown (hts _ hlink) hKS.2.2 hKS.1 hP hD hS hA (nI_pos (by omega)) (nI_clamp (by omega)) (by omega) hf.1 hf.2 hd (fun q cA H1 hK1 hP1 hD1 hS1 => ?_)
  obtain ⟨_, _, _, _, _, e1⟩ := (hK1.2 3 (cA, .object "LieBridges$Delta") rfl).2
  obtain ⟨_, _, _, _, _, e2⟩ := (hKS.1.2 2 (G.2.2.2, .object "LieBridges$Delta") rfl).2
  have e3 : cA = G.2.2.2 := Option.some.inj (e1.symm.trans e2)
  subst e3
  exact g q H1 locs ls hP1 hD1 hS1 hl
theorem k_new {x : Cx} {G : Gx} {nL : Nat} {cc : ByteArray} {Ts : List Cond} {y0 : MethodName} {rm : Room} (O : Okx x G nL cc Ts y0 rm) {n1 n2 pc : Nat} {lv : List (Nat × Value)} {st : List Value} {ws : va_W} {C : String} {T : u_T} {N ci ix : Nat} (hc : vwCl[ci]? = some (C, T, N)) (hin : ∀ w ∈ u_ws C T N, w ∈ Ts) (ty0 : Nat → FieldType) (hty : ∀ k, k < N → parseFieldDescriptor (T k).2.2.1 = some (ty0 k)) (hcl : Cond.classLink y0.cls ix C ∈ Ts) (hinst : Cond.instantiable C N ∈ Ts) (hini : Cond.initialized C ∈ Ts) (fs : List Value) (hfs : ∀ j, j < N → defaultValue (ty0 j) = vp_V fs j) (hf : n1 + 1 ≤ rm.cells ∧ n2 + N ≤ rm.slots) (hd : decode cc pc = .ok (.new ix, 3)) (g : ∀ q : Nat, V x G nL (n1 + 1) (n2 + N) (pc + 3) lv (.ref q :: st) (ws ++ [(q, cO ci fs)])) : V x G nL n1 n2 pc lv st ws := by
  obtain ⟨p, l, e, R, s, m, args, below, meth, c, Q, A⟩ := x
  obtain ⟨hx, hb, hml, hts, hown, hKS, hA, hR, hnm⟩ := O
  intro H locs ls hP hD hS hl
  subst hR
  exact va_new hx hb hts hin ty0 hty hown (hts _ hcl) (hts _ hinst) (hts _ hini) hKS.1 hP hD hS hA hc hfs hf.1 hf.2 hd (fun q H1 hP1 hD1 hS1 => g q H1 locs ls hP1 hD1 hS1 hl)
theorem k_objInit {x : Cx} {G : Gx} {nL : Nat} {cc : ByteArray} {Ts : List Cond} {y0 : MethodName} {rm : Room} (O : Okx x G nL cc Ts y0 rm) {n1 n2 pc : Nat} {lv : List (Nat × Value)} {st : List Value} {ws : va_W} {a ix : Nat} (hlink : Cond.methodLink y0.cls ix objectInit ∈ Ts) (hinst : Cond.instanceMethod objectInit ∈ Ts) (hcode : Cond.code objectInit ⟨#[0xb1]⟩ 1 none ∈ Ts) (hd : decode cc pc = .ok (.invokespecial ix, 3)) (hf : 1 ≤ rm.frames) (hlo : (st.map fun v => v.category).sum + 12 ≤ rm.locals) (g : V x G nL n1 n2 (pc + 3) lv st ws) : V x G nL n1 n2 pc lv (.ref a :: st) ws := by
  obtain ⟨p, l, e, R, s, m, args, below, meth, c, Q, A⟩ := x
  obtain ⟨hx, hb, hml, hts, hown, hKS, hA, hR, hnm⟩ := O
  intro H locs ls hP hD hS hl
  subst hR
  refine W.objInit hx hb hown (hts _ hlink) (hts _ hinst) (hts _ hcode) rfl (hl.1.trans hml.symm) rfl hd hf (by show 2 * 0 + _ + 12 ≤ _; omega) ?_
  exact g H locs ls hP hD hS hl
theorem k_iret {x : Cx} {G : Gx} {nL : Nat} {cc : ByteArray} {Ts : List Cond} {y0 : MethodName} {rm : Room} (O : Okx x G nL cc Ts y0 rm) {wc : va_W} {post : Option Value → va_W → va_W → Prop} {mc ms : Nat} (Rt : Rtx x G wc post mc ms (some .int)) {n1 n2 pc : Nat} {lv : List (Nat × Value)} {ws wb : va_W} {v : Int32} (hd : decode cc pc = .ok (.ireturn, 1)) (h1 : n1 ≤ mc) (h2 : n2 ≤ ms) (hm : ws.map (fun q => q.1) = wc.map (fun q => q.1)) (hp : post (some (.int v)) ws wb) : V x G nL n1 n2 pc lv [.int v] (ws ++ wb) := by
  obtain ⟨p, l, e, R, s, m, args, below, meth, c, Q, A⟩ := x
  obtain ⟨hx, hb, -⟩ := O
  obtain ⟨rfl, hr, hlk⟩ := Rt
  intro H locs ls hP hD hS hl
  refine W.widen h1 h2 ?_
  exact W.iret (v := v) hx hb hr (fun t ht hW => ⟨⟨_, ws, wb, rfl, hp, hm, by rw [ht]; exact hP, hD⟩, hS.F ht⟩) hS.2.2 hd hlk
theorem k_lret {x : Cx} {G : Gx} {nL : Nat} {cc : ByteArray} {Ts : List Cond} {y0 : MethodName} {rm : Room} (O : Okx x G nL cc Ts y0 rm) {wc : va_W} {post : Option Value → va_W → va_W → Prop} {mc ms : Nat} (Rt : Rtx x G wc post mc ms (some .long)) {n1 n2 pc : Nat} {lv : List (Nat × Value)} {ws wb : va_W} {v : Int64} (hd : decode cc pc = .ok (.lreturn, 1)) (h1 : n1 ≤ mc) (h2 : n2 ≤ ms) (hm : ws.map (fun q => q.1) = wc.map (fun q => q.1)) (hp : post (some (.long v)) ws wb) : V x G nL n1 n2 pc lv [.long v] (ws ++ wb) := by
  obtain ⟨p, l, e, R, s, m, args, below, meth, c, Q, A⟩ := x
  obtain ⟨hx, hb, -⟩ := O
  obtain ⟨rfl, hr, hlk⟩ := Rt
  intro H locs ls hP hD hS hl
  refine W.widen h1 h2 ?_
  exact W.lret (v := v) hx hb hr (fun t ht hW => ⟨⟨_, ws, wb, rfl, hp, hm, by rw [ht]; exact hP, hD⟩, hS.F ht⟩) hS.2.2 hd hlk
theorem k_zret {x : Cx} {G : Gx} {nL : Nat} {cc : ByteArray} {Ts : List Cond} {y0 : MethodName} {rm : Room} (O : Okx x G nL cc Ts y0 rm) {wc : va_W} {post : Option Value → va_W → va_W → Prop} {mc ms : Nat} (Rt : Rtx x G wc post mc ms (some .boolean)) {n1 n2 pc : Nat} {lv : List (Nat × Value)} {ws wb : va_W} {v : Int32} (hd : decode cc pc = .ok (.ireturn, 1)) (hn : narrow .boolean (.int v) = .int v) (h1 : n1 ≤ mc) (h2 : n2 ≤ ms) (hm : ws.map (fun q => q.1) = wc.map (fun q => q.1)) (hp : post (some (.int v)) ws wb) : V x G nL n1 n2 pc lv [.int v] (ws ++ wb) := by
  obtain ⟨p, l, e, R, s, m, args, below, meth, c, Q, A⟩ := x
  obtain ⟨hx, hb, -⟩ := O
  obtain ⟨rfl, hr, hlk⟩ := Rt
  intro H locs ls hP hD hS hl
  refine W.widen h1 h2 ?_
  exact W.zret (v := v) hx hb hr hn (fun t ht hW => ⟨⟨_, ws, wb, rfl, hp, hm, by rw [ht]; exact hP, hD⟩, hS.F ht⟩) hS.2.2 hd hlk
theorem k_vret {x : Cx} {G : Gx} {nL : Nat} {cc : ByteArray} {Ts : List Cond} {y0 : MethodName} {rm : Room} (O : Okx x G nL cc Ts y0 rm) {wc : va_W} {post : Option Value → va_W → va_W → Prop} {mc ms : Nat} (Rt : Rtx x G wc post mc ms none) {n1 n2 pc : Nat} {lv : List (Nat × Value)} {ws wb : va_W} (hd : decode cc pc = .ok (.return_, 1)) (h1 : n1 ≤ mc) (h2 : n2 ≤ ms) (hm : ws.map (fun q => q.1) = wc.map (fun q => q.1)) (hp : post none ws wb) : V x G nL n1 n2 pc lv [] (ws ++ wb) := by
  obtain ⟨p, l, e, R, s, m, args, below, meth, c, Q, A⟩ := x
  obtain ⟨hx, hb, -⟩ := O
  obtain ⟨rfl, hr, hlk⟩ := Rt
  intro H locs ls hP hD hS hl
  refine W.widen h1 h2 ?_
  exact W.vret hx hb hr (fun t ht hW => ⟨⟨_, ws, wb, rfl, hp, hm, by rw [ht]; exact hP, hD⟩, hS.F ht⟩) hS.2.2 hd hlk
theorem k_iret0 {x : Cx} {G : Gx} {nL : Nat} {cc : ByteArray} {Ts : List Cond} {y0 : MethodName} {rm : Room} (O : Okx x G nL cc Ts y0 rm) {wc : va_W} {post : Option Value → va_W → va_W → Prop} {mc ms : Nat} (Rt : Rtx x G wc post mc ms (some .int)) {n1 n2 pc : Nat} {lv : List (Nat × Value)} {ws : va_W} {v : Int32} (hd : decode cc pc = .ok (.ireturn, 1)) (h1 : n1 ≤ mc) (h2 : n2 ≤ ms) (hm : ws.map (fun q => q.1) = wc.map (fun q => q.1)) (hp : post (some (.int v)) ws []) : V x G nL n1 n2 pc lv [.int v] ws := by
  have h := k_iret (wb := []) O Rt (lv := lv) hd h1 h2 hm hp
  rwa [List.append_nil] at h
theorem k_lret0 {x : Cx} {G : Gx} {nL : Nat} {cc : ByteArray} {Ts : List Cond} {y0 : MethodName} {rm : Room} (O : Okx x G nL cc Ts y0 rm) {wc : va_W} {post : Option Value → va_W → va_W → Prop} {mc ms : Nat} (Rt : Rtx x G wc post mc ms (some .long)) {n1 n2 pc : Nat} {lv : List (Nat × Value)} {ws : va_W} {v : Int64} (hd : decode cc pc = .ok (.lreturn, 1)) (h1 : n1 ≤ mc) (h2 : n2 ≤ ms) (hm : ws.map (fun q => q.1) = wc.map (fun q => q.1)) (hp : post (some (.long v)) ws []) : V x G nL n1 n2 pc lv [.long v] ws := by
  have h := k_lret (wb := []) O Rt (lv := lv) hd h1 h2 hm hp
  rwa [List.append_nil] at h
theorem k_zret0 {x : Cx} {G : Gx} {nL : Nat} {cc : ByteArray} {Ts : List Cond} {y0 : MethodName} {rm : Room} (O : Okx x G nL cc Ts y0 rm) {wc : va_W} {post : Option Value → va_W → va_W → Prop} {mc ms : Nat} (Rt : Rtx x G wc post mc ms (some .boolean)) {n1 n2 pc : Nat} {lv : List (Nat × Value)} {ws : va_W} {v : Int32} (hd : decode cc pc = .ok (.ireturn, 1)) (hn : narrow .boolean (.int v) = .int v) (h1 : n1 ≤ mc) (h2 : n2 ≤ ms) (hm : ws.map (fun q => q.1) = wc.map (fun q => q.1)) (hp : post (some (.int v)) ws []) : V x G nL n1 n2 pc lv [.int v] ws := by
  have h := k_zret (wb := []) O Rt (lv := lv) hd hn h1 h2 hm hp
  rwa [List.append_nil] at h
theorem k_vret0 {x : Cx} {G : Gx} {nL : Nat} {cc : ByteArray} {Ts : List Cond} {y0 : MethodName} {rm : Room} (O : Okx x G nL cc Ts y0 rm) {wc : va_W} {post : Option Value → va_W → va_W → Prop} {mc ms : Nat} (Rt : Rtx x G wc post mc ms none) {n1 n2 pc : Nat} {lv : List (Nat × Value)} {ws : va_W} (hd : decode cc pc = .ok (.return_, 1)) (h1 : n1 ≤ mc) (h2 : n2 ≤ ms) (hm : ws.map (fun q => q.1) = wc.map (fun q => q.1)) (hp : post none ws []) : V x G nL n1 n2 pc lv [] ws := by
  have h := k_vret (wb := []) O Rt (lv := lv) hd h1 h2 hm hp
  rwa [List.append_nil] at h
theorem k_iincN {x : Cx} {G : Gx} {nL : Nat} {cc : ByteArray} {Ts : List Cond} {y0 : MethodName} {rm : Room} (O : Okx x G nL cc Ts y0 rm) {n1 n2 pc : Nat} {lv : List (Nat × Value)} {st : List Value} {ws : va_W} {i k m a : Nat} {n : Int} (lv' : List (Nat × Value)) (hd : decode cc pc = .ok (.iinc i n, 3)) (hk : lv[k]? = some (i, .int (nI a))) (hv : Int32.ofInt n = nI m) (hn : i < nL) (hl' : (i, Value.int (nI (a + m))) :: lv.filter (fun q => !(q.1 == i) && !(q.1 + 1 == i && q.2.category == 2)) = lv') (g : V x G nL n1 n2 (pc + 3) lv' st ws) : V x G nL n1 n2 pc lv st ws := by
  obtain ⟨p, l, e, R, s, m, args, below, meth, c, Q, A⟩ := x
  obtain ⟨hx, hb, hml, hts, hown, hKS, hA, hR, hnm⟩ := O
  intro H locs ls hP hD hS hl
  exact lv_iinc hx hb hd hl hk (by rw [hv, nI_add]) hn hl' (fun ls' h' => g H locs ls' hP hD hS h')
/-- rows of numbers -/
abbrev rN (f : Nat → Nat) : Nat → Int32 := fun i => nI (f i)
theorem rN_upd (f : Nat → Nat) (i v : Nat) : upd (rN f) i (nI v) = rN (va_up f i v) := by
  funext j
  by_cases h : j = i
  · subst h; simp [rN, upd, va_up]
  · simp [rN, upd, va_up, h]
theorem k_iastN {x : Cx} {G : Gx} {nL : Nat} {cc : ByteArray} {Ts : List Cond} {y0 : MethodName} {rm : Room} (O : Okx x G nL cc Ts y0 rm) {n1 n2 pc : Nat} {lv : List (Nat × Value)} {st : List Value} {ws : va_W} {a n : Nat} {f : Nat → Nat} (q0 : Nat) (he : ws[q0]? = some (a, cI G n (rN f))) {i v : Nat} (hi : i < n) (hn : n < 2147483648) (ws' : va_W) (hws : ws.set q0 (a, cI G n (rN (va_up f i v))) = ws') (hd : decode cc pc = .ok (.iastore, 1)) (g : V x G nL n1 n2 (pc + 1) lv st ws') : V x G nL n1 n2 pc lv (.int (nI v) :: .int (nI i) :: .ref a :: st) ws := by
  obtain ⟨p, l, e, R, s, m, args, below, meth, c, Q, A⟩ := x
  obtain ⟨hx, hb, hml, hts, hown, hKS, hA, hR, hnm⟩ := O
  intro H locs ls hP hD hS hl
  subst hws
  refine va_iast hx hb hKS.1 hP hD hS q0 0 he rfl (vp_in_nI hi hn) hd (fun H locs hP hD hS => ?_)
  rw [nI_clamp (Nat.lt_trans hi hn), rN_upd] at hP hD
  exact g H locs ls hP hD hS hl
theorem bI_nar (b : Bool) : narrow .boolean (.int (bI b)) = .int (bI b) := by cases b <;> decide
theorem k_callS {x : Cx} {G : Gx} {nL : Nat} {cc : ByteArray} {Ts : List Cond} {y0 : MethodName} {rm : Room} (O : Okx x G nL cc Ts y0 rm) {n1 n2 pc : Nat} {lv : List (Nat × Value)} {ws : va_W} {y : MethodName} {wsy ws' : List Cond} {rmy : Room} {cy : ByteArray} {nLy : Nat} {ret : Option FieldType} {As rest st0 : List Value} {wc : va_W} {post : Option Value → va_W → va_W → Prop} {mc ms ix : Nat}  (isC : List Nat) (hM : CtN G y wsy rmy As wc post mc ms) (n : Nat) (hw : wsy = Cond.code y cy nLy ret :: ws') (hrc : rmy.cells = mc) (hrs : rmy.slots = ms) (hR : Nat.ble (rmy.frames + 1) rm.frames = true ∧ Nat.ble (8 + (nLy + 11) + rmy.locals) rm.locals = true) (hn : As.length = n) (hnd : va_nd isC = true) (hT : GoodIn Ts (va_wsS y0.cls ix y wsy)) (hyc : y.cls ≠ "java/lang/invoke/MethodHandle" ∧ y.cls ≠ "java/lang/invoke/VarHandle" ∧ (parseMethodDescriptor y.desc).map (fun d => d.parameters.length) = some n) (hst : st0 = As.reverse ++ rest) (hd : decode cc pc = .ok (.invokestatic ix, 3)) (hroom : (rest.map fun v => v.category).sum ≤ 8) (hC : isC.map (fun i => ws[i]?) = wc.map some) (hf : n1 + mc ≤ rm.cells ∧ n2 + ms ≤ rm.slots) (g : ∀ (r : Option Value) (wa wb : va_W), post r wa wb → V x G nL (n1 + mc) (n2 + ms) (pc + 3) lv (r.toList ++ rest) (repl ws isC wa ++ wb)) : V x G nL n1 n2 pc lv st0 ws := by
  obtain ⟨p, l, e, R, s, m, args, below, meth, c, Q, A⟩ := x
  obtain ⟨hx, hb, hml, hts, hown, hKS, hA, hR2, hnm⟩ := O
  subst hR2
  intro H locs ls hP hD hS hl
  have hPc := va_PC hP isC hC
  have hFc := va_freeC hD hS hA isC hC
  have hDc : va_D (fun _ => True) wc := by
    have e : ∀ (k : Nat) (q : Nat × va_E), wc[k]? = some q → ∃ i, isC[k]? = some i ∧ ws[i]? = some q := by
      intro k q hk
      have h1 : (isC.map (fun i => ws[i]?))[k]? = some (some q) := by rw [hC, List.getElem?_map, hk]; rfl
      rw [List.getElem?_map] at h1
      cases hi : isC[k]? with
      | none => rw [hi] at h1; cases h1
      | some i => rw [hi] at h1; exact ⟨i, rfl, Option.some.inj h1⟩
    refine ⟨fun i j a b hi hj hab => ?_, fun _ _ _ => trivial⟩
    obtain ⟨i1, h1, h2⟩ := e i a hi
    obtain ⟨j1, h3, h4⟩ := e j b hj
    have h5 := hD.1 i1 j1 a b h2 h4 hab
    subst h5
    exact va_nd_inj isC hnd i j i1 h1 h3
  have hfr : rmy.frames + 1 ≤ R.frames ∧ 8 + (nLy + 11) + rmy.locals ≤ R.locals := ⟨Nat.le_of_ble_eq_true hR.1, Nat.le_of_ble_eq_true hR.2⟩
  refine va_useN (va_runS (As := As) (rest := rest) ⟨hx, hb, hml, hown, hts⟩ (hM l H.size) (va_cwS n hts hT hw hrc hrs hyc hfr) ⟨fun a U gg mk q => by obtain ⟨q0, q1, qP, qK, qD⟩ := q; exact ⟨q0, q1, qP, qK.calling, qD⟩, fun U hU hW => ⟨rfl, by rw [hU], by rw [hU]; exact hPc, hKS.warm hW, hDc⟩⟩ rfl hn hl.1 hst (lv_room hroom) hd hf) hS (fun q _ h => hFc q h) hFc (fun r wa wb H1 locs1 hp hm hP1 hD1 hz hk hS1 => ?_)
  obtain ⟨h1, h2⟩ := va_back hP hD isC hC hm hk hFc hP1 hD1
  exact g r wa wb hp H1 locs1 ls h1 h2 hS1 hl
theorem k_callSN {x : Cx} {G : Gx} {nL : Nat} {cc : ByteArray} {Ts : List Cond} {y0 : MethodName} {rm : Room} (O : Okx x G nL cc Ts y0 rm) {n1 n2 pc : Nat} {lv : List (Nat × Value)} {ws : va_W} {y : MethodName} {wsy ws' : List Cond} {rmy : Room} {cy : ByteArray} {nLy : Nat} {ret : Option FieldType} {As rest st0 : List Value} {wc : va_W} {post : Option Value → va_W → va_W → Prop} {mc ms ix : Nat}  (isC : List Nat) (hM : CtN G y wsy rmy As wc post mc ms) (n : Nat) (hw : wsy = Cond.code y cy nLy ret :: ws') (hrc : rmy.cells = mc) (hrs : rmy.slots = ms) (hR : Nat.ble (rmy.frames + 1) rm.frames = true ∧ Nat.ble (8 + (nLy + 11) + rmy.locals) rm.locals = true) (hn : As.length = n) (hnd : va_nd isC = true) (hT : GoodIn Ts wsy) (hnest : (y0.cls, ix, y) ∈ nestL) (hstat : Cond.static y ∈ Ts) (hinit : Cond.initialized y.cls ∈ Ts) (hyc : y.cls ≠ "java/lang/invoke/MethodHandle" ∧ y.cls ≠ "java/lang/invoke/VarHandle" ∧ (parseMethodDescriptor y.desc).map (fun d => d.parameters.length) = some n) (hst : st0 = As.reverse ++ rest) (hd : decode cc pc = .ok (.invokestatic ix, 3)) (hroom : (rest.map fun v => v.category).sum ≤ 8) (hC : isC.map (fun i => ws[i]?) = wc.map some) (hf : n1 + mc ≤ rm.cells ∧ n2 + ms ≤ rm.slots) (g : ∀ (r : Option Value) (wa wb : va_W), post r wa wb → V x G nL (n1 + mc) (n2 + ms) (pc + 3) lv (r.toList ++ rest) (repl ws isC wa ++ wb)) : V x G nL n1 n2 pc lv st0 ws := by
  obtain ⟨p, l, e, R, s, m, args, below, meth, c, Q, A⟩ := x
  obtain ⟨hx, hb, hml, hts, hown, hKS, hA, hR2, hnm⟩ := O
  subst hR2
  intro H locs ls hP hD hS hl
  have hPc := va_PC hP isC hC
  have hFc := va_freeC hD hS hA isC hC
  have hDc : va_D (fun _ => True) wc := by
    have e : ∀ (k : Nat) (q : Nat × va_E), wc[k]? = some q → ∃ i, isC[k]? = some i ∧ ws[i]? = some q := by
      intro k q hk
      have h1 : (isC.map (fun i => ws[i]?))[k]? = some (some q) := by rw [hC, List.getElem?_map, hk]; rfl
      rw [List.getElem?_map] at h1
      cases hi : isC[k]? with
      | none => rw [hi] at h1; cases h1
      | some i => rw [hi] at h1; exact ⟨i, rfl, Option.some.inj h1⟩
    refine ⟨fun i j a b hi hj hab => ?_, fun _ _ _ => trivial⟩
    obtain ⟨i1, h1, h2⟩ := e i a hi
    obtain ⟨j1, h3, h4⟩ := e j b hj
    have h5 := hD.1 i1 j1 a b h2 h4 hab
    subst h5
    exact va_nd_inj isC hnd i j i1 h1 h3
  have hfr : rmy.frames + 1 ≤ R.frames ∧ 8 + (nLy + 11) + rmy.locals ≤ R.locals := ⟨Nat.le_of_ble_eq_true hR.1, Nat.le_of_ble_eq_true hR.2⟩
  refine va_useN (va_runSN (As := As) (rest := rest) ⟨hx, hb, hml, hown, hts⟩ (hM l H.size) ⟨va_cnB (host := "LieBridges") n hts hT hw hrc hrs (hKS.2.1 _ hnest) (hts _ hinit) hyc hfr, hts _ hstat, trivial⟩ ⟨fun a U gg mk q => by obtain ⟨q0, q1, qP, qK, qD⟩ := q; exact ⟨q0, q1, qP, qK.calling, qD⟩, fun U hU hW => ⟨rfl, by rw [hU], by rw [hU]; exact hPc, hKS.warm hW, hDc⟩⟩ rfl hn hl.1 hst (lv_room hroom) hd hf) hS (fun q _ h => hFc q h) hFc (fun r wa wb H1 locs1 hp hm hP1 hD1 hz hk hS1 => ?_)
  obtain ⟨h1, h2⟩ := va_back hP hD isC hC hm hk hFc hP1 hD1
  exact g r wa wb hp H1 locs1 ls h1 h2 hS1 hl
theorem k_callV {x : Cx} {G : Gx} {nL : Nat} {cc : ByteArray} {Ts : List Cond} {y0 : MethodName} {rm : Room} (O : Okx x G nL cc Ts y0 rm) {n1 n2 pc : Nat} {lv : List (Nat × Value)} {ws : va_W} {y : MethodName} {wsy ws' : List Cond} {rmy : Room} {cy : ByteArray} {nLy : Nat} {ret : Option FieldType} {As rest st0 : List Value} {wc : va_W} {post : Option Value → va_W → va_W → Prop} {mc ms ix : Nat} {b ci : Nat} {C : String} {T : u_T} {N : Nat} {fs : List Value} (isC : List Nat) (hM : CtN G y wsy rmy (.ref b :: As) wc post mc ms) (n : Nat) (hw : wsy = Cond.code y cy nLy ret :: ws') (hrc : rmy.cells = mc) (hrs : rmy.slots = ms) (hR : Nat.ble (rmy.frames + 1) rm.frames = true ∧ Nat.ble (8 + (nLy + 11) + rmy.locals) rm.locals = true) (hn : As.length = n) (hnd : va_nd isC = true) (hT : GoodIn Ts (wsV y0.cls ix C y wsy)) (hc : vwCl[ci]? = some (C, T, N)) (q0 : Nat) (he : ws[q0]? = some (b, cO ci fs)) (hyc : y.cls = C ∧ y.cls ≠ "java/lang/invoke/MethodHandle" ∧ y.cls ≠ "java/lang/invoke/VarHandle" ∧ (parseMethodDescriptor y.desc).map (fun d => d.parameters.length) = some n) (hst : st0 = As.reverse ++ .ref b :: rest) (hd : decode cc pc = .ok (.invokevirtual ix, 3)) (hroom : (rest.map fun v => v.category).sum ≤ 8) (hC : isC.map (fun i => ws[i]?) = wc.map some) (hf : n1 + mc ≤ rm.cells ∧ n2 + ms ≤ rm.slots) (g : ∀ (r : Option Value) (wa wb : va_W), post r wa wb → V x G nL (n1 + mc) (n2 + ms) (pc + 3) lv (r.toList ++ rest) (repl ws isC wa ++ wb)) : V x G nL n1 n2 pc lv st0 ws := by
  obtain ⟨p, l, e, R, s, m, args, below, meth, c, Q, A⟩ := x
  obtain ⟨hx, hb, hml, hts, hown, hKS, hA, hR2, hnm⟩ := O
  subst hR2
  intro H locs ls hP hD hS hl
  have hPc := va_PC hP isC hC
  have hFc := va_freeC hD hS hA isC hC
  have hDc : va_D (fun _ => True) wc := by
    have e : ∀ (k : Nat) (q : Nat × va_E), wc[k]? = some q → ∃ i, isC[k]? = some i ∧ ws[i]? = some q := by
      intro k q hk
      have h1 : (isC.map (fun i => ws[i]?))[k]? = some (some q) := by rw [hC, List.getElem?_map, hk]; rfl
      rw [List.getElem?_map] at h1
      cases hi : isC[k]? with
      | none => rw [hi] at h1; cases h1
      | some i => rw [hi] at h1; exact ⟨i, rfl, Option.some.inj h1⟩
    refine ⟨fun i j a b hi hj hab => ?_, fun _ _ _ => trivial⟩
    obtain ⟨i1, h1, h2⟩ := e i a hi
    obtain ⟨j1, h3, h4⟩ := e j b hj
    have h5 := hD.1 i1 j1 a b h2 h4 hab
    subst h5
    exact va_nd_inj isC hnd i j i1 h1 h3
  have hfr : rmy.frames + 1 ≤ R.frames ∧ 8 + (nLy + 11) + rmy.locals ≤ R.locals := ⟨Nat.le_of_ble_eq_true hR.1, Nat.le_of_ble_eq_true hR.2⟩
  refine va_useN (va_runV (As := As) (rest := rest) (b := b) (C := C) ⟨hx, hb, hml, hown, hts⟩ (hM l H.size) (cwV n hts hT hw hrc hrs hyc hfr) ⟨fun a U gg mk q => by obtain ⟨q0, q1, qP, qK, qD⟩ := q; exact ⟨q0, q1, qP, qK.calling, qD⟩, va_recv hKS.1 hP hc he, fun U hU hW => ⟨rfl, by rw [hU], by rw [hU]; exact hPc, hKS.warm hW, hDc⟩⟩ rfl hn hl.1 hst (lv_room hroom) hd hf) hS (fun q _ h => hFc q h) hFc (fun r wa wb H1 locs1 hp hm hP1 hD1 hz hk hS1 => ?_)
  obtain ⟨h1, h2⟩ := va_back hP hD isC hC hm hk hFc hP1 hD1
  exact g r wa wb hp H1 locs1 ls h1 h2 hS1 hl
theorem k_callI {x : Cx} {G : Gx} {nL : Nat} {cc : ByteArray} {Ts : List Cond} {y0 : MethodName} {rm : Room} (O : Okx x G nL cc Ts y0 rm) {n1 n2 pc : Nat} {lv : List (Nat × Value)} {ws : va_W} {y : MethodName} {wsy ws' : List Cond} {rmy : Room} {cy : ByteArray} {nLy : Nat} {ret : Option FieldType} {As rest st0 : List Value} {wc : va_W} {post : Option Value → va_W → va_W → Prop} {mc ms ix : Nat} {b : Nat} (isC : List Nat) (hM : CtN G y wsy rmy (.ref b :: As) wc post mc ms) (n : Nat) (hw : wsy = Cond.code y cy nLy ret :: ws') (hrc : rmy.cells = mc) (hrs : rmy.slots = ms) (hR : Nat.ble (rmy.frames + 1) rm.frames = true ∧ Nat.ble (8 + (nLy + 11) + rmy.locals) rm.locals = true) (hn : As.length = n) (hnd : va_nd isC = true) (hT : GoodIn Ts wsy) (hinit : Cond.initialized y.cls ∈ Ts) (hlink : Cond.methodLink y0.cls ix y ∈ Ts) (hinst : Cond.instanceMethod y ∈ Ts) (hyn : y.name = "<init>") (hret : ret = none) (hyc : y.cls ≠ "java/lang/invoke/MethodHandle" ∧ y.cls ≠ "java/lang/invoke/VarHandle" ∧ (parseMethodDescriptor y.desc).map (fun d => d.parameters.length) = some n) (hst : st0 = As.reverse ++ .ref b :: rest) (hd : decode cc pc = .ok (.invokespecial ix, 3)) (hroom : (rest.map fun v => v.category).sum ≤ 8) (hC : isC.map (fun i => ws[i]?) = wc.map some) (hf : n1 + mc ≤ rm.cells ∧ n2 + ms ≤ rm.slots) (g : ∀ (r : Option Value) (wa wb : va_W), post r wa wb → V x G nL (n1 + mc) (n2 + ms) (pc + 3) lv (r.toList ++ rest) (repl ws isC wa ++ wb)) : V x G nL n1 n2 pc lv st0 ws := by
  obtain ⟨p, l, e, R, s, m, args, below, meth, c, Q, A⟩ := x
  obtain ⟨hx, hb, hml, hts, hown, hKS, hA, hR2, hnm⟩ := O
  subst hR2
  intro H locs ls hP hD hS hl
  have hPc := va_PC hP isC hC
  have hFc := va_freeC hD hS hA isC hC
  have hDc : va_D (fun _ => True) wc := by
    have e : ∀ (k : Nat) (q : Nat × va_E), wc[k]? = some q → ∃ i, isC[k]? = some i ∧ ws[i]? = some q := by
      intro k q hk
      have h1 : (isC.map (fun i => ws[i]?))[k]? = some (some q) := by rw [hC, List.getElem?_map, hk]; rfl
      rw [List.getElem?_map] at h1
      cases hi : isC[k]? with
      | none => rw [hi] at h1; cases h1
      | some i => rw [hi] at h1; exact ⟨i, rfl, Option.some.inj h1⟩
    refine ⟨fun i j a b hi hj hab => ?_, fun _ _ _ => trivial⟩
    obtain ⟨i1, h1, h2⟩ := e i a hi
    obtain ⟨j1, h3, h4⟩ := e j b hj
    have h5 := hD.1 i1 j1 a b h2 h4 hab
    subst h5
    exact va_nd_inj isC hnd i j i1 h1 h3
  have hfr : rmy.frames + 1 ≤ R.frames ∧ 8 + (nLy + 11) + rmy.locals ≤ R.locals := ⟨Nat.le_of_ble_eq_true hR.1, Nat.le_of_ble_eq_true hR.2⟩
  subst hret
  refine va_useN (va_runI (As := As) (rest := rest) (b := b) ⟨hx, hb, hml, hown, hts⟩ (hM l H.size) (cwI n hts hT hw hrc hrs (hts _ hinit) (hts _ hlink) (hts _ hinst) hyn hyc hfr) ⟨fun a U gg mk q => by obtain ⟨q0, q1, qP, qK, qD⟩ := q; exact ⟨q0, q1, qP, qK.calling, qD⟩, fun U hU hW => ⟨rfl, by rw [hU], by rw [hU]; exact hPc, hKS.warm hW, hDc⟩⟩ rfl hn hl.1 hst (lv_room hroom) hd hf) hS (fun q _ h => hFc q h) hFc (fun r wa wb H1 locs1 hp hm hP1 hD1 hz hk hS1 => ?_)
  obtain ⟨h1, h2⟩ := va_back hP hD isC hC hm hk hFc hP1 hD1
  exact g r wa wb hp H1 locs1 ls h1 h2 hS1 hl
theorem k_callIN {x : Cx} {G : Gx} {nL : Nat} {cc : ByteArray} {Ts : List Cond} {y0 : MethodName} {rm : Room} (O : Okx x G nL cc Ts y0 rm) {n1 n2 pc : Nat} {lv : List (Nat × Value)} {ws : va_W} {y : MethodName} {wsy ws' : List Cond} {rmy : Room} {cy : ByteArray} {nLy : Nat} {ret : Option FieldType} {As rest st0 : List Value} {wc : va_W} {post : Option Value → va_W → va_W → Prop} {mc ms ix : Nat} {b : Nat} (isC : List Nat) (hM : CtN G y wsy rmy (.ref b :: As) wc post mc ms) (n : Nat) (hw : wsy = Cond.code y cy nLy ret :: ws') (hrc : rmy.cells = mc) (hrs : rmy.slots = ms) (hR : Nat.ble (rmy.frames + 1) rm.frames = true ∧ Nat.ble (8 + (nLy + 11) + rmy.locals) rm.locals = true) (hn : As.length = n) (hnd : va_nd isC = true) (hT : GoodIn Ts wsy) (hinit : Cond.initialized y.cls ∈ Ts) (hnest : (y0.cls, ix, y) ∈ nestL) (hinst : Cond.instanceMethod y ∈ Ts) (hyn : y.name = "<init>") (hret : ret = none) (hyc : y.cls ≠ "java/lang/invoke/MethodHandle" ∧ y.cls ≠ "java/lang/invoke/VarHandle" ∧ (parseMethodDescriptor y.desc).map (fun d => d.parameters.length) = some n) (hst : st0 = As.reverse ++ .ref b :: rest) (hd : decode cc pc = .ok (.invokespecial ix, 3)) (hroom : (rest.map fun v => v.category).sum ≤ 8) (hC : isC.map (fun i => ws[i]?) = wc.map some) (hf : n1 + mc ≤ rm.cells ∧ n2 + ms ≤ rm.slots) (g : ∀ (r : Option Value) (wa wb : va_W), post r wa wb → V x G nL (n1 + mc) (n2 + ms) (pc + 3) lv (r.toList ++ rest) (repl ws isC wa ++ wb)) : V x G nL n1 n2 pc lv st0 ws := by
  obtain ⟨p, l, e, R, s, m, args, below, meth, c, Q, A⟩ := x
  obtain ⟨hx, hb, hml, hts, hown, hKS, hA, hR2, hnm⟩ := O
  subst hR2
  intro H locs ls hP hD hS hl
  have hPc := va_PC hP isC hC
  have hFc := va_freeC hD hS hA isC hC
  have hDc : va_D (fun _ => True) wc := by
    have e : ∀ (k : Nat) (q : Nat × va_E), wc[k]? = some q → ∃ i, isC[k]? = some i ∧ ws[i]? = some q := by
      intro k q hk
      have h1 : (isC.map (fun i => ws[i]?))[k]? = some (some q) := by rw [hC, List.getElem?_map, hk]; rfl
      rw [List.getElem?_map] at h1
      cases hi : isC[k]? with
      | none => rw [hi] at h1; cases h1
      | some i => rw [hi] at h1; exact ⟨i, rfl, Option.some.inj h1⟩
    refine ⟨fun i j a b hi hj hab => ?_, fun _ _ _ => trivial⟩
    obtain ⟨i1, h1, h2⟩ := e i a hi
    obtain ⟨j1, h3, h4⟩ := e j b hj
    have h5 := hD.1 i1 j1 a b h2 h4 hab
    subst h5
    exact va_nd_inj isC hnd i j i1 h1 h3
  have hfr : rmy.frames + 1 ≤ R.frames ∧ 8 + (nLy + 11) + rmy.locals ≤ R.locals := ⟨Nat.le_of_ble_eq_true hR.1, Nat.le_of_ble_eq_true hR.2⟩
  subst hret
  refine va_useN (va_runIN (As := As) (rest := rest) (b := b) ⟨hx, hb, hml, hown, hts⟩ (hM l H.size) ⟨va_cnB (host := "LieBridges") n hts hT hw hrc hrs (hKS.2.1 _ hnest) (hts _ hinit) hyc hfr, hyn, hts _ hinst⟩ ⟨fun a U gg mk q => by obtain ⟨q0, q1, qP, qK, qD⟩ := q; exact ⟨q0, q1, qP, qK.calling, qD⟩, fun U hU hW => ⟨rfl, by rw [hU], by rw [hU]; exact hPc, hKS.warm hW, hDc⟩⟩ rfl hn hl.1 hst (lv_room hroom) hd hf) hS (fun q _ h => hFc q h) hFc (fun r wa wb H1 locs1 hp hm hP1 hD1 hz hk hS1 => ?_)
  obtain ⟨h1, h2⟩ := va_back hP hD isC hC hm hk hFc hP1 hD1
  exact g r wa wb hp H1 locs1 ls h1 h2 hS1 hl
end
section
/-! The words in which the contracts speak: ranges, masks, tables of beliefs. -/
def inR (lo hi : Int) (v : Int32) : Bool := decide (lo ≤ v.toInt ∧ v.toInt ≤ hi)
theorem nI_tI {n : Nat} (h : n < 2147483648) : (nI n).toInt = (n : Int) := nI_toInt h
theorem inR_nI {lo hi : Int} {n : Nat} (hn : n < 2147483648) (h : lo ≤ n ∧ (n : Int) ≤ hi) : inR lo hi (nI n) = true := by
  unfold inR; rw [nI_tI hn]; exact decide_eq_true h
theorem inR_nI_iff {lo hi : Int} {n : Nat} (hn : n < 2147483648) : inR lo hi (nI n) = decide (lo ≤ (n : Int) ∧ (n : Int) ≤ hi) := by
  unfold inR; rw [nI_tI hn]
theorem nI_back {v : Int32} {n : Nat} (hn : n < 2147483648) (h : v.toInt = (n : Int)) : v = nI n := by
  apply Int32.toInt_inj.mp
  rw [h, nI_tI hn]
theorem inR_of {k : Nat} {hi : Int} {v : Int32} (hk : hi = (k : Int)) (hk2 : k < 2147483648) (h : inR 0 hi v = true) : ∃ j : Nat, j ≤ k ∧ v = nI j := by
  have h1 : (0 : Int) ≤ v.toInt ∧ v.toInt ≤ hi := of_decide_eq_true h
  obtain ⟨n, hn⟩ : ∃ n : Nat, v.toInt = (n : Int) := ⟨v.toInt.toNat, by omega⟩
  exact ⟨n, by omega, nI_back (by omega) hn⟩
theorem inR_of' {lo k : Nat} {low hi : Int} {v : Int32} (hl : low = (lo : Int)) (hk : hi = (k : Int)) (hk2 : k < 2147483648) (h : inR low hi v = true) : ∃ j : Nat, lo ≤ j ∧ j ≤ k ∧ v = nI j := by
  have h1 : low ≤ v.toInt ∧ v.toInt ≤ hi := of_decide_eq_true h
  obtain ⟨n, hn⟩ : ∃ n : Nat, v.toInt = (n : Int) := ⟨v.toInt.toNat, by omega⟩
  exact ⟨n, by omega, by omega, nI_back (by omega) hn⟩
theorem in6_of {v : Int32} (h : inR 0 5 v = true) : ∃ j : Nat, j < 6 ∧ v = nI j := by
  obtain ⟨j, h1, h2⟩ := inR_of (k := 5) rfl (by decide) h
  exact ⟨j, by omega, h2⟩
theorem in6_nI {j : Nat} (h : j < 6) : inR 0 5 (nI j) = true := inR_nI (by omega) (by omega)
/-- masks of six bits -/
def setb (m b : Nat) (on : Bool) : Nat := if on then m ||| 2 ^ b else m &&& (63 ^^^ 2 ^ b)
theorem shl1 : ∀ b, b < 6 → nI 1 <<< (nI b &&& 31) = nI (2 ^ b) := by decide +kernel
theorem clrb : ∀ m, m < 64 → ∀ b, b < 6 → nI m &&& (nI (2 ^ b) ^^^ (-1)) = nI (setb m b false) := by decide +kernel
theorem orb0 : ∀ m, m < 64 → ∀ b, b < 6 → nI (setb m b false) ||| nI (2 ^ b) = nI (setb m b true) := by decide +kernel
theorem orb1 : ∀ m, m < 64 → ∀ b, b < 6 → nI m ||| nI (2 ^ b) = nI (setb m b true) := by decide +kernel
theorem hasb : ∀ m, m < 64 → ∀ b, b < 6 → nI m >>> (nI b &&& 31) &&& nI 1 = if m.testBit b then nI 1 else nI 0 := by decide +kernel
theorem setb_lt : ∀ m, m < 64 → ∀ b, b < 6 → ∀ on : Bool, setb m b on < 64 := by decide +kernel
theorem setb_bit : ∀ m, m < 64 → ∀ b, b < 6 → ∀ on : Bool, ∀ c, c < 6 → (setb m b on).testBit c = if c = b then on else m.testBit c := by decide +kernel
/-- how many of the first n hold -/
def cnt (f : Nat → Bool) : Nat → Nat
  | 0 => 0
  | n + 1 => cnt f n + if f n then 1 else 0
theorem cnt_le (f : Nat → Bool) : ∀ n, cnt f n ≤ n
  | 0 => Nat.le_refl _
  | n + 1 => by have := cnt_le f n; simp only [cnt]; split <;> omega
theorem cnt_congr {f g : Nat → Bool} : ∀ n, (∀ j, j < n → f j = g j) → cnt f n = cnt g n
  | 0, _ => rfl
  | n + 1, h => by simp only [cnt]; rw [cnt_congr n (fun j hj => h j (by omega)), h n (by omega)]
/-- the table of beliefs: B a p, the days of person a in plank p; as the class keeps it, as the check does -/
def flC (B : Nat → Nat → Nat) : Nat → Nat := fun i => B (i % 6) (i / 6)
def flM (B : Nat → Nat → Nat) : Nat → Nat := fun i => B (i / 6) (i % 6)
def up2 (B : Nat → Nat → Nat) (a p v : Nat) : Nat → Nat → Nat := fun x y => if x = a ∧ y = p then v else B x y
def fdB (B : Nat → Nat → Nat) : Nat → Nat → Nat := fun a p => B a p - 1
def ld (B : Nat → Nat → Nat) (p g : Nat) : Nat := cnt (fun a => decide (g < B a p)) 6
theorem flC_at {B : Nat → Nat → Nat} {a p : Nat} (ha : a < 6) : flC B (p * 6 + a) = B a p := by
  unfold flC; rw [show (p * 6 + a) % 6 = a by omega, show (p * 6 + a) / 6 = p by omega]
theorem flM_at {B : Nat → Nat → Nat} {a p : Nat} (hp : p < 6) : flM B (6 * a + p) = B a p := by
  unfold flM; rw [show (6 * a + p) % 6 = p by omega, show (6 * a + p) / 6 = a by omega]
theorem flC_up {B : Nat → Nat → Nat} {a p v : Nat} (ha : a < 6) : va_up (flC B) (p * 6 + a) v = flC (up2 B a p v) := by
  funext i
  unfold flC up2 va_up
  by_cases h : i = p * 6 + a
  · rw [if_pos h, if_pos ⟨by omega, by omega⟩]
  · rw [if_neg h, if_neg (by omega)]
theorem flM_up {B : Nat → Nat → Nat} {a p v : Nat} (hp : p < 6) : va_up (flM B) (6 * a + p) v = flM (up2 B a p v) := by
  funext i
  unfold flM up2 va_up
  by_cases h : i = 6 * a + p
  · rw [if_pos h, if_pos ⟨by omega, by omega⟩]
  · rw [if_neg h, if_neg (by omega)]
theorem rN_flC_up {B : Nat → Nat → Nat} {a p v : Nat} (ha : a < 6) : upd (rN (flC B)) (p * 6 + a) (nI v) = rN (flC (up2 B a p v)) := by rw [rN_upd, flC_up ha]
def okB (B : Nat → Nat → Nat) : Prop := ∀ a p, a < 6 → p < 6 → B a p ≤ 9
def okP (O : Nat → Nat) : Prop := ∀ p, p < 6 → O p < 6
def okM (T : Nat → Nat) : Prop := ∀ a, a < 6 → T a < 64
theorem flC_le {B : Nat → Nat → Nat} (hB : okB B) {i : Nat} (hi : i < 36) : flC B i ≤ 9 := hB _ _ (by omega) (by omega)
theorem fd_lo {B : Nat → Nat → Nat} {D : Nat → Nat} {i j : Nat} (h1 : ∀ j, j < i → D j = flC B j - 1) (h2 : ∀ j, i ≤ j → D j = flC B j) (hj : j < i + 1) : va_up D i (D i - 1) j = flC B j - 1 := by
  unfold va_up
  by_cases h : j = i
  · rw [if_pos h, h, h2 i (Nat.le_refl _)]
  · rw [if_neg h]; exact h1 j (by omega)
theorem fd_lo0 {B : Nat → Nat → Nat} {D : Nat → Nat} {i j : Nat} (h1 : ∀ j, j < i → D j = flC B j - 1) (h2 : ∀ j, i ≤ j → D j = flC B j) (h0 : D i = 0) (hj : j < i + 1) : D j = flC B j - 1 := by
  by_cases h : j = i
  · rw [h, h0]; have := h2 i (Nat.le_refl _); omega
  · exact h1 j (by omega)
theorem fd_hi {B : Nat → Nat → Nat} {D : Nat → Nat} {i j v : Nat} (h2 : ∀ j, i ≤ j → D j = flC B j) (hj : i + 1 ≤ j) : va_up D i v j = flC B j := by
  unfold va_up
  rw [if_neg (by omega)]; exact h2 j (by omega)
/-- who may tell, whether a telling, a denial is heard, and the beliefs behind it -/
def mayT (O : Nat → Nat) (B : Nat → Nat → Nat) (a p : Nat) : Bool := decide (O p = a) || decide (0 < B a p)
def tellOK (O T K : Nat → Nat) (B : Nat → Nat → Nat) (a b p : Nat) : Bool := mayT O B a p && (T b).testBit a && !decide (O p = b) && !(K b).testBit p && decide (B b p = 0)
def tellB (O T K : Nat → Nat) (fd : Nat) (B : Nat → Nat → Nat) (a b p : Nat) : Nat → Nat → Nat := if tellOK O T K B a b p then up2 B b p fd else B
def denyOK (T : Nat → Nat) (B : Nat → Nat → Nat) (a b p : Nat) : Bool := (T b).testBit a && decide (0 < B b p)
def denyB (T : Nat → Nat) (B : Nat → Nat → Nat) (a b p : Nat) : Nat → Nat → Nat := if denyOK T B a b p then up2 B b p 0 else B
theorem cp_up {f g : Nat → Int32} {i j : Nat} (hg : ∀ j, j < i → g j = f j) (hj : j < i + 1) : upd g i (f i) j = f j := by
  unfold upd
  by_cases h : j = i
  · rw [if_pos h, h]
  · rw [if_neg h]; exact hg j (by omega)
end
section
set_option maxHeartbeats 400000 in
set_option maxRecDepth 4000 in
theorem c_X4_within (G : Gx) (v l h : Int32) : Ct G yX4_within wsX4_within { frames := 0, cells := 0, slots := 0, locals := 0 } [.int v, .int l, .int h] [] (fun r wa => r = some (.int (bI (inR l.toInt h.toInt v))) ∧ wa = []) := by
  refine CtN.of [(0, .int v), (1, .int l), (2, .int h)] (by decide +kernel) rfl rfl rfl rfl ?_
  intro x O Rt
  refine k_iload_n O dX4_within_0 rfl 0 rfl ?_
  refine k_iload_n O dX4_within_1 rfl 1 rfl ?_
  refine k_icmp_lt O 14 dX4_within_2 rfl (fun c_2 => ?_) (fun c_2 => ?_)
  · refine k_iconst O (v := nI 0) dX4_within_14 rfl ?_
    refine k_zret0 O Rt dX4_within_15 (by first | exact bI_nar _ | decide) (Nat.le_of_ble_eq_true rfl) (Nat.le_of_ble_eq_true rfl) rfl ?_
    refine ⟨⟨congrArg (fun z => some (Value.int z)) ?_, rfl⟩, rfl⟩
    first | exact (show nI 1 = bI (inR l.toInt h.toInt v) by rw [show inR l.toInt h.toInt v = true from decide_eq_true ⟨by omega, by omega⟩]; rfl) | exact (show nI 0 = bI (inR l.toInt h.toInt v) by rw [show inR l.toInt h.toInt v = false from decide_eq_false (by omega)]; rfl)
  · refine k_iload_n O dX4_within_5 rfl 0 rfl ?_
    refine k_iload_n O dX4_within_6 rfl 2 rfl ?_
    refine k_icmp_gt O 14 dX4_within_7 rfl (fun c_7 => ?_) (fun c_7 => ?_)
    · refine k_iconst O (v := nI 0) dX4_within_14 rfl ?_
      refine k_zret0 O Rt dX4_within_15 (by first | exact bI_nar _ | decide) (Nat.le_of_ble_eq_true rfl) (Nat.le_of_ble_eq_true rfl) rfl ?_
      refine ⟨⟨congrArg (fun z => some (Value.int z)) ?_, rfl⟩, rfl⟩
      first | exact (show nI 1 = bI (inR l.toInt h.toInt v) by rw [show inR l.toInt h.toInt v = true from decide_eq_true ⟨by omega, by omega⟩]; rfl) | exact (show nI 0 = bI (inR l.toInt h.toInt v) by rw [show inR l.toInt h.toInt v = false from decide_eq_false (by omega)]; rfl)
    · refine k_iconst O (v := nI 1) dX4_within_10 rfl ?_
      refine k_goto O 15 dX4_within_11 rfl ?_
      refine k_zret0 O Rt dX4_within_15 (by first | exact bI_nar _ | decide) (Nat.le_of_ble_eq_true rfl) (Nat.le_of_ble_eq_true rfl) rfl ?_
      refine ⟨⟨congrArg (fun z => some (Value.int z)) ?_, rfl⟩, rfl⟩
      first | exact (show nI 1 = bI (inR l.toInt h.toInt v) by rw [show inR l.toInt h.toInt v = true from decide_eq_true ⟨by omega, by omega⟩]; rfl) | exact (show nI 0 = bI (inR l.toInt h.toInt v) by rw [show inR l.toInt h.toInt v = false from decide_eq_false (by omega)]; rfl)
set_option maxHeartbeats 400000 in
set_option maxRecDepth 4000 in
theorem c_X4_isPerson (G : Gx) (v : Int32) : Ct G yX4_isPerson wsX4_isPerson { frames := 1, cells := 0, slots := 0, locals := 22 } [.int v] [] (fun r wa => r = some (.int (bI (inR 0 5 v))) ∧ wa = []) := by
  refine CtN.of [(0, .int v)] (by decide +kernel) rfl rfl rfl rfl ?_
  intro x O Rt
  refine k_iload_n O dX4_isPerson_0 rfl 0 rfl ?_
  refine k_iconst O (v := nI 0) dX4_isPerson_1 rfl ?_
  refine k_iconst O (v := nI 5) dX4_isPerson_2 rfl ?_
  refine k_callS O [] (c_X4_within G _ _ _ ) 3 rfl rfl rfl ⟨rfl, rfl⟩ rfl rfl gX4_isPerson_X4_within ⟨(by decide +kernel), (by decide +kernel), (by decide +kernel)⟩ rfl dX4_isPerson_3 (Nat.le_of_ble_eq_true rfl) rfl ⟨Nat.le_of_ble_eq_true rfl, Nat.le_of_ble_eq_true rfl⟩ (fun r wa wb hp => ?_)
  obtain ⟨⟨rfl, rfl⟩, rfl⟩ := hp
  show V x G _ _ _ _ _ (.int _ :: _) []
  refine k_zret0 O Rt dX4_isPerson_6 (by first | exact bI_nar _ | decide) (Nat.le_of_ble_eq_true rfl) (Nat.le_of_ble_eq_true rfl) rfl ?_
  exact ⟨⟨rfl, rfl⟩, rfl⟩
set_option maxHeartbeats 400000 in
set_option maxRecDepth 4000 in
theorem c_X4_isIsland (G : Gx) (v : Int32) : Ct G yX4_isIsland wsX4_isIsland { frames := 1, cells := 0, slots := 0, locals := 22 } [.int v] [] (fun r wa => r = some (.int (bI (inR 0 5 v))) ∧ wa = []) := by
  refine CtN.of [(0, .int v)] (by decide +kernel) rfl rfl rfl rfl ?_
  intro x O Rt
  refine k_iload_n O dX4_isIsland_0 rfl 0 rfl ?_
  refine k_iconst O (v := nI 0) dX4_isIsland_1 rfl ?_
  refine k_iconst O (v := nI 5) dX4_isIsland_2 rfl ?_
  refine k_callS O [] (c_X4_within G _ _ _ ) 3 rfl rfl rfl ⟨rfl, rfl⟩ rfl rfl gX4_isIsland_X4_within ⟨(by decide +kernel), (by decide +kernel), (by decide +kernel)⟩ rfl dX4_isIsland_3 (Nat.le_of_ble_eq_true rfl) rfl ⟨Nat.le_of_ble_eq_true rfl, Nat.le_of_ble_eq_true rfl⟩ (fun r wa wb hp => ?_)
  obtain ⟨⟨rfl, rfl⟩, rfl⟩ := hp
  show V x G _ _ _ _ _ (.int _ :: _) []
  refine k_zret0 O Rt dX4_isIsland_6 (by first | exact bI_nar _ | decide) (Nat.le_of_ble_eq_true rfl) (Nat.le_of_ble_eq_true rfl) rfl ?_
  exact ⟨⟨rfl, rfl⟩, rfl⟩
set_option maxHeartbeats 400000 in
set_option maxRecDepth 4000 in
theorem c_X4_isPlank (G : Gx) (v : Int32) : Ct G yX4_isPlank wsX4_isPlank { frames := 1, cells := 0, slots := 0, locals := 22 } [.int v] [] (fun r wa => r = some (.int (bI (inR 0 5 v))) ∧ wa = []) := by
  refine CtN.of [(0, .int v)] (by decide +kernel) rfl rfl rfl rfl ?_
  intro x O Rt
  refine k_iload_n O dX4_isPlank_0 rfl 0 rfl ?_
  refine k_iconst O (v := nI 0) dX4_isPlank_1 rfl ?_
  refine k_iconst O (v := nI 5) dX4_isPlank_2 rfl ?_
  refine k_callS O [] (c_X4_within G _ _ _ ) 3 rfl rfl rfl ⟨rfl, rfl⟩ rfl rfl gX4_isPlank_X4_within ⟨(by decide +kernel), (by decide +kernel), (by decide +kernel)⟩ rfl dX4_isPlank_3 (Nat.le_of_ble_eq_true rfl) rfl ⟨Nat.le_of_ble_eq_true rfl, Nat.le_of_ble_eq_true rfl⟩ (fun r wa wb hp => ?_)
  obtain ⟨⟨rfl, rfl⟩, rfl⟩ := hp
  show V x G _ _ _ _ _ (.int _ :: _) []
  refine k_zret0 O Rt dX4_isPlank_6 (by first | exact bI_nar _ | decide) (Nat.le_of_ble_eq_true rfl) (Nat.le_of_ble_eq_true rfl) rfl ?_
  exact ⟨⟨rfl, rfl⟩, rfl⟩
set_option maxHeartbeats 400000 in
set_option maxRecDepth 4000 in
theorem c_X4_isParty (G : Gx) (v : Int32) : Ct G yX4_isParty wsX4_isParty { frames := 1, cells := 0, slots := 0, locals := 22 } [.int v] [] (fun r wa => r = some (.int (bI (inR 1 6 v))) ∧ wa = []) := by
  refine CtN.of [(0, .int v)] (by decide +kernel) rfl rfl rfl rfl ?_
  intro x O Rt
  refine k_iload_n O dX4_isParty_0 rfl 0 rfl ?_
  refine k_iconst O (v := nI 1) dX4_isParty_1 rfl ?_
  refine k_bipush O (v := nI 6) dX4_isParty_2 rfl ?_
  refine k_callS O [] (c_X4_within G _ _ _ ) 3 rfl rfl rfl ⟨rfl, rfl⟩ rfl rfl gX4_isParty_X4_within ⟨(by decide +kernel), (by decide +kernel), (by decide +kernel)⟩ rfl dX4_isParty_4 (Nat.le_of_ble_eq_true rfl) rfl ⟨Nat.le_of_ble_eq_true rfl, Nat.le_of_ble_eq_true rfl⟩ (fun r wa wb hp => ?_)
  obtain ⟨⟨rfl, rfl⟩, rfl⟩ := hp
  show V x G _ _ _ _ _ (.int _ :: _) []
  refine k_zret0 O Rt dX4_isParty_7 (by first | exact bI_nar _ | decide) (Nat.le_of_ble_eq_true rfl) (Nat.le_of_ble_eq_true rfl) rfl ?_
  exact ⟨⟨rfl, rfl⟩, rfl⟩
set_option maxHeartbeats 400000 in
set_option maxRecDepth 4000 in
theorem c_X4_isPersonOrAll (G : Gx) (v : Int32) : Ct G yX4_isPersonOrAll wsX4_isPersonOrAll { frames := 2, cells := 0, slots := 0, locals := 42 } [.int v] [] (fun r wa => r = some (.int (bI (decide (v = -1) || inR 0 5 v))) ∧ wa = []) := by
  refine CtN.of [(0, .int v)] (by decide +kernel) rfl rfl rfl rfl ?_
  intro x O Rt
  refine k_iload_n O dX4_isPersonOrAll_0 rfl 0 rfl ?_
  refine k_iconst O (v := -1) dX4_isPersonOrAll_1 (by decide) ?_
  refine k_icmp_eq O 12 dX4_isPersonOrAll_2 rfl (fun c_2 => ?_) (fun c_2 => ?_)
  · refine k_iconst O (v := nI 1) dX4_isPersonOrAll_12 rfl ?_
    refine k_goto O 17 dX4_isPersonOrAll_13 rfl ?_
    refine k_zret0 O Rt dX4_isPersonOrAll_17 (by first | exact bI_nar _ | decide) (Nat.le_of_ble_eq_true rfl) (Nat.le_of_ble_eq_true rfl) rfl ?_
    refine ⟨⟨congrArg (fun z => some (Value.int z)) ?_, rfl⟩, rfl⟩
    first | (rw [show decide (v = -1) = true from decide_eq_true c_2]; rfl) | (rw [c_9]; simp [bI]; done) | (rw [show decide (v = -1) = false from decide_eq_false c_2, c_9]; rfl)
  · refine k_iload_n O dX4_isPersonOrAll_5 rfl 0 rfl ?_
    refine k_callS O [] (c_X4_isPerson G _ ) 1 rfl rfl rfl ⟨rfl, rfl⟩ rfl rfl gX4_isPersonOrAll_X4_isPerson ⟨(by decide +kernel), (by decide +kernel), (by decide +kernel)⟩ rfl dX4_isPersonOrAll_6 (Nat.le_of_ble_eq_true rfl) rfl ⟨Nat.le_of_ble_eq_true rfl, Nat.le_of_ble_eq_true rfl⟩ (fun r wa wb hp => ?_)
    obtain ⟨⟨rfl, rfl⟩, rfl⟩ := hp
    show V x G _ _ _ _ _ (.int _ :: _) []
    refine k_if_eqB O 16 dX4_isPersonOrAll_9 rfl (fun c_9 => ?_) (fun c_9 => ?_)
    · refine k_iconst O (v := nI 0) dX4_isPersonOrAll_16 rfl ?_
      refine k_zret0 O Rt dX4_isPersonOrAll_17 (by first | exact bI_nar _ | decide) (Nat.le_of_ble_eq_true rfl) (Nat.le_of_ble_eq_true rfl) rfl ?_
      refine ⟨⟨congrArg (fun z => some (Value.int z)) ?_, rfl⟩, rfl⟩
      first | (rw [show decide (v = -1) = true from decide_eq_true c_2]; rfl) | (rw [c_9]; simp [bI]; done) | (rw [show decide (v = -1) = false from decide_eq_false c_2, c_9]; rfl)
    · refine k_iconst O (v := nI 1) dX4_isPersonOrAll_12 rfl ?_
      refine k_goto O 17 dX4_isPersonOrAll_13 rfl ?_
      refine k_zret0 O Rt dX4_isPersonOrAll_17 (by first | exact bI_nar _ | decide) (Nat.le_of_ble_eq_true rfl) (Nat.le_of_ble_eq_true rfl) rfl ?_
      refine ⟨⟨congrArg (fun z => some (Value.int z)) ?_, rfl⟩, rfl⟩
      first | (rw [show decide (v = -1) = true from decide_eq_true c_2]; rfl) | (rw [c_9]; simp [bI]; done) | (rw [show decide (v = -1) = false from decide_eq_false c_2, c_9]; rfl)
set_option maxHeartbeats 400000 in
set_option maxRecDepth 4000 in
theorem c_X4_isChoice (G : Gx) (v : Int32) : Ct G yX4_isChoice wsX4_isChoice { frames := 0, cells := 0, slots := 0, locals := 0 } [.int v] [] (fun r wa => r = some (.int (bI (decide (v = 0) || decide (v = 1)))) ∧ wa = []) := by
  refine CtN.of [(0, .int v)] (by decide +kernel) rfl rfl rfl rfl ?_
  intro x O Rt
  refine k_iload_n O dX4_isChoice_0 rfl 0 rfl ?_
  refine k_if_eq O 9 dX4_isChoice_1 rfl (fun c_1 => ?_) (fun c_1 => ?_)
  · refine k_iconst O (v := nI 1) dX4_isChoice_9 rfl ?_
    refine k_goto O 14 dX4_isChoice_10 rfl ?_
    refine k_zret0 O Rt dX4_isChoice_14 (by first | exact bI_nar _ | decide) (Nat.le_of_ble_eq_true rfl) (Nat.le_of_ble_eq_true rfl) rfl ?_
    refine ⟨⟨congrArg (fun z => some (Value.int z)) ?_, rfl⟩, rfl⟩
    first | (rw [show decide (v = 0) = true from decide_eq_true c_1]; rfl) | (rw [show decide (v = 1) = true from decide_eq_true c_6]; simp [bI]; done) | (rw [show decide (v = 0) = false from decide_eq_false c_1, show decide (v = 1) = false from decide_eq_false c_6]; rfl)
  · refine k_iload_n O dX4_isChoice_4 rfl 0 rfl ?_
    refine k_iconst O (v := nI 1) dX4_isChoice_5 rfl ?_
    refine k_icmp_ne O 13 dX4_isChoice_6 rfl (fun c_6 => ?_) (fun c_6 => ?_)
    · refine k_iconst O (v := nI 0) dX4_isChoice_13 rfl ?_
      refine k_zret0 O Rt dX4_isChoice_14 (by first | exact bI_nar _ | decide) (Nat.le_of_ble_eq_true rfl) (Nat.le_of_ble_eq_true rfl) rfl ?_
      refine ⟨⟨congrArg (fun z => some (Value.int z)) ?_, rfl⟩, rfl⟩
      first | (rw [show decide (v = 0) = true from decide_eq_true c_1]; rfl) | (rw [show decide (v = 1) = true from decide_eq_true c_6]; simp [bI]; done) | (rw [show decide (v = 0) = false from decide_eq_false c_1, show decide (v = 1) = false from decide_eq_false c_6]; rfl)
    · refine k_iconst O (v := nI 1) dX4_isChoice_9 rfl ?_
      refine k_goto O 14 dX4_isChoice_10 rfl ?_
      refine k_zret0 O Rt dX4_isChoice_14 (by first | exact bI_nar _ | decide) (Nat.le_of_ble_eq_true rfl) (Nat.le_of_ble_eq_true rfl) rfl ?_
      refine ⟨⟨congrArg (fun z => some (Value.int z)) ?_, rfl⟩, rfl⟩
      first | (rw [show decide (v = 0) = true from decide_eq_true c_1]; rfl) | (rw [show decide (v = 1) = true from decide_eq_true c_6]; simp [bI]; done) | (rw [show decide (v = 0) = false from decide_eq_false c_1, show decide (v = 1) = false from decide_eq_false c_6]; rfl)
set_option maxHeartbeats 400000 in
set_option maxRecDepth 4000 in
theorem c_X4_at (G : Gx) (a n : Nat) (f : Nat → Int32) (i : Nat) (hi : i < n) (hn : n < 2147483648) : Ct G yX4_at wsX4_at { frames := 0, cells := 0, slots := 0, locals := 0 } [.ref a, .int (nI i)] [(a, cI G n f)] (fun r wa => r = some (.int (f i)) ∧ wa = [(a, cI G n f)]) := by
  refine CtN.of [(0, .ref a), (1, .int (nI i))] (by decide +kernel) rfl rfl rfl rfl ?_
  intro x O Rt
  refine k_iload_n O dX4_at_0 rfl 1 rfl ?_
  refine k_if_ltN O 16 dX4_at_1 rfl (by omega) ?_
  refine k_iload_n O dX4_at_4 rfl 1 rfl ?_
  refine k_aload_n O dX4_at_5 rfl 0 rfl ?_
  refine k_alen O 0 0 rfl rfl dX4_at_6 ?_
  refine k_icmp_geN O 16 dX4_at_7 rfl (by omega) (by omega) (fun c_7 => ?_) (fun c_7 => ?_)
  · exfalso; omega
  · refine k_aload_n O dX4_at_10 rfl 0 rfl ?_
    refine k_iload_n O dX4_at_11 rfl 1 rfl ?_
    refine k_iald O 0 rfl (by omega) (by first | decide | omega) dX4_at_12 ?_
    refine k_goto O 17 dX4_at_13 rfl ?_
    refine k_iret0 O Rt dX4_at_17 (Nat.le_of_ble_eq_true rfl) (Nat.le_of_ble_eq_true rfl) rfl ?_
    exact ⟨⟨rfl, rfl⟩, rfl⟩
set_option maxHeartbeats 400000 in
set_option maxRecDepth 4000 in
theorem c_X4_put (G : Gx) (a n : Nat) (f : Nat → Int32) (i : Nat) (v : Int32) (hi : i < n) (hn : n < 2147483648) : Ct G yX4_put wsX4_put { frames := 0, cells := 0, slots := 0, locals := 0 } [.ref a, .int (nI i), .int v] [(a, cI G n f)] (fun r wa => r = none ∧ wa = [(a, cI G n (upd f i v))]) := by
  refine CtN.of [(0, .ref a), (1, .int (nI i)), (2, .int v)] (by decide +kernel) rfl rfl rfl rfl ?_
  intro x O Rt
  refine k_iload_n O dX4_put_0 rfl 1 rfl ?_
  refine k_if_ltN O 14 dX4_put_1 rfl (by omega) ?_
  refine k_iload_n O dX4_put_4 rfl 1 rfl ?_
  refine k_aload_n O dX4_put_5 rfl 0 rfl ?_
  refine k_alen O 0 0 rfl rfl dX4_put_6 ?_
  refine k_icmp_geN O 14 dX4_put_7 rfl (by omega) (by omega) (fun c_7 => ?_) (fun c_7 => ?_)
  · exfalso; omega
  · refine k_aload_n O dX4_put_10 rfl 0 rfl ?_
    refine k_iload_n O dX4_put_11 rfl 1 rfl ?_
    refine k_iload_n O dX4_put_12 rfl 2 rfl ?_
    refine k_iast O 0 rfl (by omega) (by first | decide | omega) [_] rfl dX4_put_13 ?_
    refine k_vret0 O Rt dX4_put_14 (Nat.le_of_ble_eq_true rfl) (Nat.le_of_ble_eq_true rfl) rfl ?_
    exact ⟨⟨rfl, rfl⟩, rfl⟩
set_option maxHeartbeats 400000 in
set_option maxRecDepth 4000 in
theorem c_X4_hasBit (G : Gx) (a n : Nat) (f : Nat → Nat) (i b : Nat) (hi : i < n) (hn : n < 2147483648) (hm : f i < 64) (hb : b < 6) : Ct G yX4_hasBit wsX4_hasBit { frames := 1, cells := 0, slots := 0, locals := 21 } [.ref a, .int (nI i), .int (nI b)] [(a, cI G n (rN f))] (fun r wa => r = some (.int (bI ((f i).testBit b))) ∧ wa = [(a, cI G n (rN f))]) := by
  refine CtN.of [(0, .ref a), (1, .int (nI i)), (2, .int (nI b))] (by decide +kernel) rfl rfl rfl rfl ?_
  intro x O Rt
  refine k_aload_n O dX4_hasBit_0 rfl 0 rfl ?_
  refine k_iload_n O dX4_hasBit_1 rfl 1 rfl ?_
  refine k_callS O [0] (c_X4_at G _ _ _ _ (hi) (hn)) 2 rfl rfl rfl ⟨rfl, rfl⟩ rfl rfl gX4_hasBit_X4_at ⟨(by decide +kernel), (by decide +kernel), (by decide +kernel)⟩ rfl dX4_hasBit_2 (Nat.le_of_ble_eq_true rfl) rfl ⟨Nat.le_of_ble_eq_true rfl, Nat.le_of_ble_eq_true rfl⟩ (fun r wa wb hp => ?_)
  obtain ⟨⟨rfl, rfl⟩, rfl⟩ := hp
  show V x G _ _ _ _ _ (.int _ :: _) [_]
  refine k_iload_n O dX4_hasBit_5 rfl 2 rfl ?_
  refine k_ishr O dX4_hasBit_6 ?_
  refine k_iconst O (v := nI 1) dX4_hasBit_7 rfl ?_
  refine k_iand O dX4_hasBit_8 ?_
  refine k_top _ (hasb _ hm _ hb) ?_
  refine k_iconst O (v := nI 1) dX4_hasBit_9 rfl ?_
  refine k_icmp_ne O 17 dX4_hasBit_10 rfl (fun c_10 => ?_) (fun c_10 => ?_)
  · refine k_iconst O (v := nI 0) dX4_hasBit_17 rfl ?_
    refine k_zret0 O Rt dX4_hasBit_18 (by first | exact bI_nar _ | decide) (Nat.le_of_ble_eq_true rfl) (Nat.le_of_ble_eq_true rfl) rfl ?_
    exact ⟨⟨congrArg (fun z => some (Value.int z)) (by revert c_10; cases (f i).testBit b <;> decide), rfl⟩, rfl⟩
  · refine k_iconst O (v := nI 1) dX4_hasBit_13 rfl ?_
    refine k_goto O 18 dX4_hasBit_14 rfl ?_
    refine k_zret0 O Rt dX4_hasBit_18 (by first | exact bI_nar _ | decide) (Nat.le_of_ble_eq_true rfl) (Nat.le_of_ble_eq_true rfl) rfl ?_
    exact ⟨⟨congrArg (fun z => some (Value.int z)) (by revert c_10; cases (f i).testBit b <;> decide), rfl⟩, rfl⟩
set_option maxHeartbeats 400000 in
set_option maxRecDepth 4000 in
theorem c_X4_putBit (G : Gx) (a n : Nat) (f : Nat → Nat) (i b : Nat) (on : Bool) (hi : i < n) (hn : n < 2147483648) (hm : f i < 64) (hb : b < 6) : Ct G yX4_putBit wsX4_putBit { frames := 1, cells := 0, slots := 0, locals := 22 } [.ref a, .int (nI i), .int (nI b), .int (bI on)] [(a, cI G n (rN f))] (fun r wa => r = none ∧ wa = [(a, cI G n (rN (va_up f i (setb (f i) b on))))]) := by
  refine CtN.of [(0, .ref a), (1, .int (nI i)), (2, .int (nI b)), (3, .int (bI on))] (by decide +kernel) rfl rfl rfl rfl ?_
  intro x O Rt
  refine k_aload_n O dX4_putBit_0 rfl 0 rfl ?_
  refine k_iload_n O dX4_putBit_1 rfl 1 rfl ?_
  refine k_callS O [0] (c_X4_at G _ _ _ _ (hi) (hn)) 2 rfl rfl rfl ⟨rfl, rfl⟩ rfl rfl gX4_putBit_X4_at ⟨(by decide +kernel), (by decide +kernel), (by decide +kernel)⟩ rfl dX4_putBit_2 (Nat.le_of_ble_eq_true rfl) rfl ⟨Nat.le_of_ble_eq_true rfl, Nat.le_of_ble_eq_true rfl⟩ (fun r wa wb hp => ?_)
  obtain ⟨⟨rfl, rfl⟩, rfl⟩ := hp
  show V x G _ _ _ _ _ (.int _ :: _) [_]
  refine k_iconst O (v := nI 1) dX4_putBit_5 rfl ?_
  refine k_iload_n O dX4_putBit_6 rfl 2 rfl ?_
  refine k_ishl O dX4_putBit_7 ?_
  refine k_top _ (shl1 b hb) ?_
  refine k_iconst O (v := -1) dX4_putBit_8 (by decide) ?_
  refine k_ixor O dX4_putBit_9 ?_
  refine k_iand O dX4_putBit_10 ?_
  refine k_top _ (clrb _ hm _ hb) ?_
  refine k_istore O [(4, _), (0, _), (1, _), (2, _), (3, _)] dX4_putBit_11 (by decide) rfl ?_
  refine k_aload_n O dX4_putBit_13 rfl 1 rfl ?_
  refine k_iload_n O dX4_putBit_14 rfl 2 rfl ?_
  refine k_iload_n O dX4_putBit_15 rfl 4 rfl ?_
  refine k_if_eqB O 28 dX4_putBit_16 rfl (fun c_16 => ?_) (fun c_16 => ?_)
  · refine k_iload O dX4_putBit_28 0 rfl ?_
    refine k_callS O [0] (c_X4_put G _ _ _ _ _ (hi) (hn)) 3 rfl rfl rfl ⟨rfl, rfl⟩ rfl rfl gX4_putBit_X4_put ⟨(by decide +kernel), (by decide +kernel), (by decide +kernel)⟩ rfl dX4_putBit_30 (Nat.le_of_ble_eq_true rfl) rfl ⟨Nat.le_of_ble_eq_true rfl, Nat.le_of_ble_eq_true rfl⟩ (fun r wa wb hp => ?_)
    obtain ⟨⟨rfl, rfl⟩, rfl⟩ := hp
    show V x G _ _ _ _ _ _ [_]
    rw [rN_upd]
    refine k_vret0 O Rt dX4_putBit_33 (Nat.le_of_ble_eq_true rfl) (Nat.le_of_ble_eq_true rfl) rfl ?_
    exact ⟨⟨rfl, by subst c_16; rfl⟩, rfl⟩
  · refine k_iload O dX4_putBit_19 0 rfl ?_
    refine k_iconst O (v := nI 1) dX4_putBit_21 rfl ?_
    refine k_iload_n O dX4_putBit_22 rfl 3 rfl ?_
    refine k_ishl O dX4_putBit_23 ?_
    refine k_top _ (shl1 b hb) ?_
    refine k_ior O dX4_putBit_24 ?_
    refine k_top _ (orb0 _ hm _ hb) ?_
    refine k_goto O 30 dX4_putBit_25 rfl ?_
    refine k_callS O [0] (c_X4_put G _ _ _ _ _ (hi) (hn)) 3 rfl rfl rfl ⟨rfl, rfl⟩ rfl rfl gX4_putBit_X4_put ⟨(by decide +kernel), (by decide +kernel), (by decide +kernel)⟩ rfl dX4_putBit_30 (Nat.le_of_ble_eq_true rfl) rfl ⟨Nat.le_of_ble_eq_true rfl, Nat.le_of_ble_eq_true rfl⟩ (fun r wa wb hp => ?_)
    obtain ⟨⟨rfl, rfl⟩, rfl⟩ := hp
    show V x G _ _ _ _ _ _ [_]
    rw [rN_upd]
    refine k_vret0 O Rt dX4_putBit_33 (Nat.le_of_ble_eq_true rfl) (Nat.le_of_ble_eq_true rfl) rfl ?_
    exact ⟨⟨rfl, by subst c_16; rfl⟩, rfl⟩
set_option maxHeartbeats 400000 in
set_option maxRecDepth 4000 in
theorem c_X4_copy (G : Gx) (a b n : Nat) (f g : Nat → Int32) (hn : n < 2147483640) : Ct G yX4_copy wsX4_copy { frames := 1, cells := 0, slots := 0, locals := 21 } [.ref a, .ref b] [(a, cI G n f), (b, cI G n g)] (fun r wa => r = none ∧ wa = [(a, cI G n f), (b, cI G n f)]) := by
  refine CtN.of [(0, .ref a), (1, .ref b)] (by decide +kernel) rfl rfl rfl rfl ?_
  intro x O Rt
  refine k_iconst O (v := nI 0) dX4_copy_0 rfl ?_
  refine k_istore_n O [(2, _), (0, _), (1, _)] dX4_copy_1 rfl (by decide) rfl ?_
  have L2 : ∀ (fuel : Nat) (i : Nat) (g : Nat → Int32), i ≤ n → n + 1 ≤ i + fuel → (∀ j, j < i → g j = f j) → V x G 3 0 0 2 [(0, .ref a), (1, .ref b), (2, .int (nI i))] [] [(a, cI G n f), (b, cI G n g)] := by
    intro fuel
    induction fuel with
    | zero => intro i g hi hfuel hg; exact absurd hi (by omega)
    | succ fuel ih =>
      intro i g hi hfuel hg
      refine k_iload_n O dX4_copy_2 rfl 2 rfl ?_
      refine k_aload_n O dX4_copy_3 rfl 1 rfl ?_
      refine k_alen O 1 0 rfl rfl dX4_copy_4 ?_
      refine k_icmp_geN O 22 dX4_copy_5 rfl (by omega) (by omega) (fun c_5 => ?_) (fun c_5 => ?_)
      · refine k_cell 1 f rfl (fun j hj => hg j (by omega)) [_, _] rfl ?_
        refine k_vret0 O Rt dX4_copy_22 (Nat.le_of_ble_eq_true rfl) (Nat.le_of_ble_eq_true rfl) rfl ?_
        exact ⟨⟨rfl, rfl⟩, rfl⟩
      · refine k_aload_n O dX4_copy_8 rfl 1 rfl ?_
        refine k_iload_n O dX4_copy_9 rfl 2 rfl ?_
        refine k_aload_n O dX4_copy_10 rfl 0 rfl ?_
        refine k_iload_n O dX4_copy_11 rfl 2 rfl ?_
        refine k_callS O [0] (c_X4_at G _ _ _ _ (by omega) (by omega)) 2 rfl rfl rfl ⟨rfl, rfl⟩ rfl rfl gX4_copy_X4_at ⟨(by decide +kernel), (by decide +kernel), (by decide +kernel)⟩ rfl dX4_copy_12 (Nat.le_of_ble_eq_true rfl) rfl ⟨Nat.le_of_ble_eq_true rfl, Nat.le_of_ble_eq_true rfl⟩ (fun r wa wb hp => ?_)
        obtain ⟨⟨rfl, rfl⟩, rfl⟩ := hp
        show V x G _ _ _ _ _ (.int _ :: _) [_, _]
        refine k_iast O 1 rfl (by omega) (by first | decide | omega) [_, _] rfl dX4_copy_15 ?_
        refine k_iincN O (k := 2) (m := 1) [(2, _), (0, _), (1, _)] dX4_copy_16 rfl rfl (by decide) rfl ?_
        refine k_goto O 2 dX4_copy_19 rfl ?_
        refine k_sub [1, 2, 0] [(0, _), (1, _), (2, _)] rfl ?_
        exact ih (i + 1) _ (by omega) (by omega) (fun j hj => cp_up hg hj)
  refine k_sub [1, 2, 0] [(0, _), (1, _), (2, _)] rfl ?_
  exact L2 (n + 1) 0 g (Nat.zero_le _) (by omega) (fun j hj => absurd hj (by omega))
end
section
theorem lk_X0_of_f9 : Cond.fieldLink RX0 9 "LieBridges$Beliefs" "days" "[I" ∈ wsX0_of := List.mem_of_getElem? (i := 1) rfl
theorem hin_X0_of_X0 : ∀ w ∈ u_ws RX0 TX0 1, w ∈ wsX0_of := fun _ h => List.mem_cons_of_mem _ (List.mem_append_right _ h)
set_option maxHeartbeats 400000 in
set_option maxRecDepth 4000 in
theorem c_X0_of (G : Gx) (h d : Nat) (B : Nat → Nat → Nat) (p a : Nat) (hp : p < 6) (ha : a < 6) : Ct G yX0_of wsX0_of { frames := 0, cells := 0, slots := 0, locals := 0 } [.ref h, .int (nI p), .int (nI a)] [(h, cO 0 [.ref d]), (d, cI G 36 (rN (flC B)))] (fun r wa => r = some (.int (nI (B a p))) ∧ wa = [(h, cO 0 [.ref d]), (d, cI G 36 (rN (flC B)))]) := by
  refine CtN.of [(0, .ref h), (1, .int (nI p)), (2, .int (nI a))] (by decide +kernel) rfl rfl rfl rfl ?_
  intro x O Rt
  refine k_iload_n O dX0_of_0 rfl 1 rfl ?_
  refine k_bipush O (v := nI 6) dX0_of_1 rfl ?_
  refine k_imulN O dX0_of_3 ?_
  refine k_iload_n O dX0_of_4 rfl 2 rfl ?_
  refine k_iaddN O dX0_of_5 ?_
  refine k_istore_n O [(3, _), (0, _), (1, _), (2, _)] dX0_of_6 rfl (by decide) rfl ?_
  refine k_iload_n O dX0_of_7 rfl 0 rfl ?_
  refine k_if_ltN O 29 dX0_of_8 rfl (by omega) ?_
  refine k_iload_n O dX0_of_11 rfl 0 rfl ?_
  refine k_aload_n O dX0_of_12 rfl 1 rfl ?_
  refine k_get O 0 rfl rfl hin_X0_of_X0 0 rfl lk_X0_of_f9 rfl rfl dX0_of_13 ?_
  refine k_alen O 1 0 rfl rfl dX0_of_16 ?_
  refine k_icmp_geN O 29 dX0_of_17 rfl (by omega) (by omega) (fun c_17 => ?_) (fun c_17 => ?_)
  · exfalso; omega
  · refine k_aload_n O dX0_of_20 rfl 1 rfl ?_
    refine k_get O 0 rfl rfl hin_X0_of_X0 0 rfl lk_X0_of_f9 rfl rfl dX0_of_21 ?_
    refine k_iload_n O dX0_of_24 rfl 0 rfl ?_
    refine k_iald O 1 rfl (by omega) (by first | decide | omega) dX0_of_25 ?_
    refine k_top (nI (B a p)) (congrArg nI (flC_at ha)) ?_
    refine k_goto O 30 dX0_of_26 rfl ?_
    refine k_iret0 O Rt dX0_of_30 (Nat.le_of_ble_eq_true rfl) (Nat.le_of_ble_eq_true rfl) rfl ?_
    exact ⟨⟨rfl, rfl⟩, rfl⟩
theorem lk_X0_set_f9 : Cond.fieldLink RX0 9 "LieBridges$Beliefs" "days" "[I" ∈ wsX0_set := List.mem_of_getElem? (i := 1) rfl
theorem hin_X0_set_X0 : ∀ w ∈ u_ws RX0 TX0 1, w ∈ wsX0_set := fun _ h => List.mem_cons_of_mem _ (List.mem_append_right _ h)
theorem lk_X0_set_sX4_put : Cond.static yX4_put ∈ wsX0_set := List.mem_of_getElem? (i := 2) rfl
theorem lk_X0_set_tX4 : Cond.initialized RX4 ∈ wsX0_set := List.mem_of_getElem? (i := 3) rfl
set_option maxHeartbeats 400000 in
set_option maxRecDepth 4000 in
theorem c_X0_set (G : Gx) (h d : Nat) (B : Nat → Nat → Nat) (p a v : Nat) (hp : p < 6) (ha : a < 6) : Ct G yX0_set wsX0_set { frames := 1, cells := 0, slots := 0, locals := 22 } [.ref h, .int (nI p), .int (nI a), .int (nI v)] [(h, cO 0 [.ref d]), (d, cI G 36 (rN (flC B)))] (fun r wa => r = none ∧ wa = [(h, cO 0 [.ref d]), (d, cI G 36 (rN (flC (up2 B a p v))))]) := by
  refine CtN.of [(0, .ref h), (1, .int (nI p)), (2, .int (nI a)), (3, .int (nI v))] (by decide +kernel) rfl rfl rfl rfl ?_
  intro x O Rt
  refine k_aload_n O dX0_set_0 rfl 0 rfl ?_
  refine k_get O 0 rfl rfl hin_X0_set_X0 0 rfl lk_X0_set_f9 rfl rfl dX0_set_1 ?_
  refine k_iload_n O dX0_set_4 rfl 1 rfl ?_
  refine k_bipush O (v := nI 6) dX0_set_5 rfl ?_
  refine k_imulN O dX0_set_7 ?_
  refine k_iload_n O dX0_set_8 rfl 2 rfl ?_
  refine k_iaddN O dX0_set_9 ?_
  refine k_iload_n O dX0_set_10 rfl 3 rfl ?_
  refine k_callSN O [1] (c_X4_put G _ _ _ _ _ (by omega) (by decide)) 3 rfl rfl rfl ⟨rfl, rfl⟩ rfl rfl gX0_set_X4_put_n15 (by decide +kernel) lk_X0_set_sX4_put lk_X0_set_tX4 ⟨(by decide +kernel), (by decide +kernel), (by decide +kernel)⟩ rfl dX0_set_11 (Nat.le_of_ble_eq_true rfl) rfl ⟨Nat.le_of_ble_eq_true rfl, Nat.le_of_ble_eq_true rfl⟩ (fun r wa wb hp => ?_)
  obtain ⟨⟨rfl, rfl⟩, rfl⟩ := hp
  show V x G _ _ _ _ _ _ [_, _]
  rw [rN_flC_up ha]
  refine k_vret0 O Rt dX0_set_14 (Nat.le_of_ble_eq_true rfl) (Nat.le_of_ble_eq_true rfl) rfl ?_
  exact ⟨⟨rfl, rfl⟩, rfl⟩
set_option maxHeartbeats 400000 in
set_option maxRecDepth 4000 in
theorem c_X0_load (G : Gx) (h d : Nat) (B : Nat → Nat → Nat) (p g : Nat) (hp : p < 6) (hg : g < 100) (hB : okB B) : Ct G yX0_load wsX0_load { frames := 1, cells := 0, slots := 0, locals := 23 } [.ref h, .int (nI p), .int (nI g)] [(h, cO 0 [.ref d]), (d, cI G 36 (rN (flC B)))] (fun r wa => r = some (.int (nI (ld B p g))) ∧ wa = [(h, cO 0 [.ref d]), (d, cI G 36 (rN (flC B)))]) := by
  refine CtN.of [(0, .ref h), (1, .int (nI p)), (2, .int (nI g))] (by decide +kernel) rfl rfl rfl rfl ?_
  intro x O Rt
  refine k_iconst O (v := nI 0) dX0_load_0 rfl ?_
  refine k_istore_n O [(3, _), (0, _), (1, _), (2, _)] dX0_load_1 rfl (by decide) rfl ?_
  refine k_iconst O (v := nI 0) dX0_load_2 rfl ?_
  refine k_istore O [(4, _), (3, _), (0, _), (1, _), (2, _)] dX0_load_3 (by decide) rfl ?_
  have L5 : ∀ (fuel : Nat) (i m : Nat), i ≤ 6 → 7 ≤ i + fuel → m = cnt (fun a => decide (g < B a p)) i → V x G 5 0 0 5 [(0, .ref h), (1, .int (nI p)), (2, .int (nI g)), (3, .int (nI m)), (4, .int (nI i))] [] [(h, cO 0 [.ref d]), (d, cI G 36 (rN (flC B)))] := by
    intro fuel
    induction fuel with
    | zero => intro i m hi hfuel hm; exact absurd hi (by omega)
    | succ fuel ih =>
      intro i m hi hfuel hm
      refine k_iload O dX0_load_5 4 rfl ?_
      refine k_bipush O (v := nI 6) dX0_load_7 rfl ?_
      refine k_icmp_geN O 32 dX0_load_9 rfl (by omega) (by omega) (fun c_9 => ?_) (fun c_9 => ?_)
      · obtain rfl : i = 6 := by omega
        refine k_iload_n O dX0_load_32 rfl 3 rfl ?_
        refine k_iret0 O Rt dX0_load_33 (Nat.le_of_ble_eq_true rfl) (Nat.le_of_ble_eq_true rfl) rfl ?_
        exact ⟨⟨by rw [hm]; rfl, rfl⟩, rfl⟩
      · refine k_aload_n O dX0_load_12 rfl 0 rfl ?_
        refine k_iload_n O dX0_load_13 rfl 1 rfl ?_
        refine k_iload O dX0_load_14 4 rfl ?_
        refine k_callV O [0, 1] (c_X0_of G _ _ _ _ _ (by omega) (by omega)) 2 rfl rfl rfl ⟨rfl, rfl⟩ rfl rfl gX0_load_X0_of rfl 0 rfl ⟨rfl, (by decide +kernel), (by decide +kernel), (by decide +kernel)⟩ rfl dX0_load_16 (Nat.le_of_ble_eq_true rfl) rfl ⟨Nat.le_of_ble_eq_true rfl, Nat.le_of_ble_eq_true rfl⟩ (fun r wa wb hp => ?_)
        obtain ⟨⟨rfl, rfl⟩, rfl⟩ := hp
        show V x G _ _ _ _ _ (.int _ :: _) [_, _]
        refine k_iload_n O dX0_load_19 rfl 2 rfl ?_
        have hb1 := hB i p (by omega) hp
        refine k_icmp_leN O 26 dX0_load_20 rfl (by omega) (by omega) (fun c_20 => ?_) (fun c_20 => ?_)
        · refine k_iincN O (k := 4) (m := 1) [(4, _), (0, _), (1, _), (2, _), (3, _)] dX0_load_26 rfl rfl (by decide) rfl ?_
          refine k_goto O 5 dX0_load_29 rfl ?_
          refine k_sub [1, 2, 3, 4, 0] [(0, _), (1, _), (2, _), (3, _), (4, _)] rfl ?_
          exact ih (i + 1) _ (by omega) (by omega) (by simp only [cnt, decide_eq_true_eq]; split <;> omega)
        · refine k_iincN O (k := 3) (m := 1) [(3, _), (0, _), (1, _), (2, _), (4, _)] dX0_load_23 rfl rfl (by decide) rfl ?_
          refine k_iincN O (k := 4) (m := 1) [(4, _), (3, _), (0, _), (1, _), (2, _)] dX0_load_26 rfl rfl (by decide) rfl ?_
          refine k_goto O 5 dX0_load_29 rfl ?_
          refine k_sub [2, 3, 4, 1, 0] [(0, _), (1, _), (2, _), (3, _), (4, _)] rfl ?_
          exact ih (i + 1) _ (by omega) (by omega) (by simp only [cnt, decide_eq_true_eq]; split <;> omega)
  refine k_sub [2, 3, 4, 1, 0] [(0, _), (1, _), (2, _), (3, _), (4, _)] rfl ?_
  exact L5 7 0 0 (by omega) (by omega) rfl
theorem lk_X0_fadeADay_f9 : Cond.fieldLink RX0 9 "LieBridges$Beliefs" "days" "[I" ∈ wsX0_fadeADay := List.mem_of_getElem? (i := 1) rfl
theorem hin_X0_fadeADay_X0 : ∀ w ∈ u_ws RX0 TX0 1, w ∈ wsX0_fadeADay := fun _ h => List.mem_cons_of_mem _ (List.mem_append_right _ h)
set_option maxHeartbeats 400000 in
set_option maxRecDepth 4000 in
theorem c_X0_fadeADay (G : Gx) (h d : Nat) (B : Nat → Nat → Nat) (hB : okB B) : Ct G yX0_fadeADay wsX0_fadeADay { frames := 0, cells := 0, slots := 0, locals := 0 } [.ref h] [(h, cO 0 [.ref d]), (d, cI G 36 (rN (flC B)))] (fun r wa => r = none ∧ wa = [(h, cO 0 [.ref d]), (d, cI G 36 (rN (flC (fdB B))))]) := by
  refine CtN.of [(0, .ref h)] (by decide +kernel) rfl rfl rfl rfl ?_
  intro x O Rt
  refine k_iconst O (v := nI 0) dX0_fadeADay_0 rfl ?_
  refine k_istore_n O [(1, _), (0, _)] dX0_fadeADay_1 rfl (by decide) rfl ?_
  have L2 : ∀ (fuel : Nat) (i : Nat) (D : Nat → Nat), i ≤ 36 → 37 ≤ i + fuel → (∀ j, j < i → D j = flC B j - 1) → (∀ j, i ≤ j → D j = flC B j) → V x G 2 0 0 2 [(0, .ref h), (1, .int (nI i))] [] [(h, cO 0 [.ref d]), (d, cI G 36 (rN D))] := by
    intro fuel
    induction fuel with
    | zero => intro i D hi hfuel h1 h2; exact absurd hi (by omega)
    | succ fuel ih =>
      intro i D hi hfuel h1 h2
      refine k_iload_n O dX0_fadeADay_2 rfl 1 rfl ?_
      refine k_aload_n O dX0_fadeADay_3 rfl 0 rfl ?_
      refine k_get O 0 rfl rfl hin_X0_fadeADay_X0 0 rfl lk_X0_fadeADay_f9 rfl rfl dX0_fadeADay_4 ?_
      refine k_alen O 1 0 rfl rfl dX0_fadeADay_7 ?_
      refine k_icmp_geN O 36 dX0_fadeADay_8 rfl (by omega) (by omega) (fun c_8 => ?_) (fun c_8 => ?_)
      · refine k_cell 1 (rN (flC (fdB B))) rfl (fun j hj => congrArg nI (h1 j (by omega))) [_, _] rfl ?_
        refine k_vret0 O Rt dX0_fadeADay_36 (Nat.le_of_ble_eq_true rfl) (Nat.le_of_ble_eq_true rfl) rfl ?_
        exact ⟨⟨rfl, rfl⟩, rfl⟩
      · have hb1 := flC_le hB (show i < 36 by omega)
        have hb2 := h2 i (Nat.le_refl _)
        refine k_aload_n O dX0_fadeADay_11 rfl 0 rfl ?_
        refine k_get O 0 rfl rfl hin_X0_fadeADay_X0 0 rfl lk_X0_fadeADay_f9 rfl rfl dX0_fadeADay_12 ?_
        refine k_iload_n O dX0_fadeADay_15 rfl 1 rfl ?_
        refine k_iald O 1 rfl (by omega) (by first | decide | omega) dX0_fadeADay_16 ?_
        refine k_if_leN O 30 dX0_fadeADay_17 rfl (by omega) (fun c_17 => ?_) (fun c_17 => ?_)
        · refine k_iincN O (k := 1) (m := 1) [(1, _), (0, _)] dX0_fadeADay_30 rfl rfl (by decide) rfl ?_
          refine k_goto O 2 dX0_fadeADay_33 rfl ?_
          refine k_sub [1, 0] [(0, _), (1, _)] rfl ?_
          refine ih (i + 1) _ (by omega) (by omega) (fun j hj => ?_) (fun j hj => ?_)
          · first | exact fd_lo h1 h2 hj | exact fd_lo0 h1 h2 c_17 hj
          · first | exact fd_hi h2 hj | exact h2 j (by omega)
        · refine k_aload_n O dX0_fadeADay_20 rfl 0 rfl ?_
          refine k_get O 0 rfl rfl hin_X0_fadeADay_X0 0 rfl lk_X0_fadeADay_f9 rfl rfl dX0_fadeADay_21 ?_
          refine k_iload_n O dX0_fadeADay_24 rfl 1 rfl ?_
          refine k_dup2 O dX0_fadeADay_25 rfl rfl ?_
          refine k_iald O 1 rfl (by omega) (by first | decide | omega) dX0_fadeADay_26 ?_
          refine k_iconst O (v := nI 1) dX0_fadeADay_27 rfl ?_
          refine k_isubN O dX0_fadeADay_28 (by omega) ?_
          refine k_iastN O 1 rfl (by omega) (by first | decide | omega) [_, _] rfl dX0_fadeADay_29 ?_
          refine k_iincN O (k := 1) (m := 1) [(1, _), (0, _)] dX0_fadeADay_30 rfl rfl (by decide) rfl ?_
          refine k_goto O 2 dX0_fadeADay_33 rfl ?_
          refine k_sub [1, 0] [(0, _), (1, _)] rfl ?_
          refine ih (i + 1) _ (by omega) (by omega) (fun j hj => ?_) (fun j hj => ?_)
          · first | exact fd_lo h1 h2 hj | exact fd_lo0 h1 h2 c_17 hj
          · first | exact fd_hi h2 hj | exact h2 j (by omega)
  refine k_sub [1, 0] [(0, _), (1, _)] rfl ?_
  exact L2 37 0 (flC B) (by omega) (by omega) (fun j hj => absurd hj (by omega)) (fun j hj => rfl)
theorem lk_X0_become_f9 : Cond.fieldLink RX0 9 "LieBridges$Beliefs" "days" "[I" ∈ wsX0_become := List.mem_of_getElem? (i := 1) rfl
theorem hin_X0_become_X0 : ∀ w ∈ u_ws RX0 TX0 1, w ∈ wsX0_become := fun _ h => List.mem_cons_of_mem _ (List.mem_append_right _ h)
theorem lk_X0_become_sX4_copy : Cond.static yX4_copy ∈ wsX0_become := List.mem_of_getElem? (i := 2) rfl
theorem lk_X0_become_tX4 : Cond.initialized RX4 ∈ wsX0_become := List.mem_of_getElem? (i := 3) rfl
set_option maxHeartbeats 400000 in
set_option maxRecDepth 4000 in
theorem c_X0_become (G : Gx) (h d h2 d2 : Nat) (B : Nat → Nat → Nat) (g : Nat → Int32) : Ct G yX0_become wsX0_become { frames := 2, cells := 0, slots := 0, locals := 43 } [.ref h, .ref h2] [(h, cO 0 [.ref d]), (d, cI G 36 g), (h2, cO 0 [.ref d2]), (d2, cI G 36 (rN (flC B)))] (fun r wa => r = none ∧ wa = [(h, cO 0 [.ref d]), (d, cI G 36 (rN (flC B))), (h2, cO 0 [.ref d2]), (d2, cI G 36 (rN (flC B)))]) := by
  refine CtN.of [(0, .ref h), (1, .ref h2)] (by decide +kernel) rfl rfl rfl rfl ?_
  intro x O Rt
  refine k_aload_n O dX0_become_0 rfl 1 rfl ?_
  refine k_get O 2 rfl rfl hin_X0_become_X0 0 rfl lk_X0_become_f9 rfl rfl dX0_become_1 ?_
  refine k_aload_n O dX0_become_4 rfl 0 rfl ?_
  refine k_get O 0 rfl rfl hin_X0_become_X0 0 rfl lk_X0_become_f9 rfl rfl dX0_become_5 ?_
  refine k_callSN O [3, 1] (c_X4_copy G _ _ _ _ _ (by decide)) 2 rfl rfl rfl ⟨rfl, rfl⟩ rfl rfl gX0_become_X4_copy_n23 (by decide +kernel) lk_X0_become_sX4_copy lk_X0_become_tX4 ⟨(by decide +kernel), (by decide +kernel), (by decide +kernel)⟩ rfl dX0_become_8 (Nat.le_of_ble_eq_true rfl) rfl ⟨Nat.le_of_ble_eq_true rfl, Nat.le_of_ble_eq_true rfl⟩ (fun r wa wb hp => ?_)
  obtain ⟨⟨rfl, rfl⟩, rfl⟩ := hp
  show V x G _ _ _ _ _ _ [_, _, _, _]
  refine k_vret0 O Rt dX0_become_11 (Nat.le_of_ble_eq_true rfl) (Nat.le_of_ble_eq_true rfl) rfl ?_
  exact ⟨⟨rfl, rfl⟩, rfl⟩
end
