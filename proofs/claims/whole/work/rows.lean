section
-- ===== PART A: goes FIRST, ahead of the names: the tables' words, and 'selects' of the private methods out of them =====
/-- a private method of a class that the tables say can be made, by its rows of tables_1 -/
def lw_okq (q : MethodName × Nat) : Prop := (q.1.cls ≠ "java/lang/invoke/MethodHandle" ∧ q.1.cls ≠ "java/lang/invoke/VarHandle") ∧ Cond.instantiable q.1.cls q.2 ∈ tables_1 ∧ Cond.privateMethod q.1 ∈ tables_1 ∧ Cond.instanceMethod q.1 ∈ tables_1
theorem lw_p0 : lw_okq (⟨"LieBridges$Pad", "take", "(II)I"⟩, 8) := ⟨⟨by decide +kernel, by decide +kernel⟩, List.mem_of_getElem? (i := 98) (by decide +kernel), List.mem_of_getElem? (i := 246) (by decide +kernel), List.mem_of_getElem? (i := 247) (by decide +kernel)⟩
theorem lw_p1 : lw_okq (⟨"LieBridges$Pad", "takeDay", "()I"⟩, 8) := ⟨⟨by decide +kernel, by decide +kernel⟩, List.mem_of_getElem? (i := 98) (by decide +kernel), List.mem_of_getElem? (i := 250) (by decide +kernel), List.mem_of_getElem? (i := 251) (by decide +kernel)⟩
theorem lw_p2 : lw_okq (⟨"LieBridges$Pad", "takeSpeaker", "(I)I"⟩, 8) := ⟨⟨by decide +kernel, by decide +kernel⟩, List.mem_of_getElem? (i := 98) (by decide +kernel), List.mem_of_getElem? (i := 254) (by decide +kernel), List.mem_of_getElem? (i := 255) (by decide +kernel)⟩
theorem lw_p3 : lw_okq (⟨"LieBridges$Pad", "takeHearer", "(I)I"⟩, 8) := ⟨⟨by decide +kernel, by decide +kernel⟩, List.mem_of_getElem? (i := 98) (by decide +kernel), List.mem_of_getElem? (i := 259) (by decide +kernel), List.mem_of_getElem? (i := 260) (by decide +kernel)⟩
theorem lw_p4 : lw_okq (⟨"LieBridges$Pad", "takeDenial", "()I"⟩, 8) := ⟨⟨by decide +kernel, by decide +kernel⟩, List.mem_of_getElem? (i := 98) (by decide +kernel), List.mem_of_getElem? (i := 263) (by decide +kernel), List.mem_of_getElem? (i := 264) (by decide +kernel)⟩
theorem lw_p5 : lw_okq (⟨"LieBridges$Pad", "takePlank", "(I)I"⟩, 8) := ⟨⟨by decide +kernel, by decide +kernel⟩, List.mem_of_getElem? (i := 98) (by decide +kernel), List.mem_of_getElem? (i := 267) (by decide +kernel), List.mem_of_getElem? (i := 268) (by decide +kernel)⟩
theorem lw_p6 : lw_okq (⟨"LieBridges", "refusalOfText", "()I"⟩, 7) := ⟨⟨by decide +kernel, by decide +kernel⟩, List.mem_of_getElem? (i := 8) (by decide +kernel), List.mem_of_getElem? (i := 276) (by decide +kernel), List.mem_of_getElem? (i := 277) (by decide +kernel)⟩
theorem lw_p7 : lw_okq (⟨"LieBridges", "takesEffect", "(ILLieBridges$Beliefs;)Z"⟩, 7) := ⟨⟨by decide +kernel, by decide +kernel⟩, List.mem_of_getElem? (i := 8) (by decide +kernel), List.mem_of_getElem? (i := 287) (by decide +kernel), List.mem_of_getElem? (i := 288) (by decide +kernel)⟩
theorem lw_p8 : lw_okq (⟨"LieBridges", "play", "(LLieBridges$Beliefs;)V"⟩, 7) := ⟨⟨by decide +kernel, by decide +kernel⟩, List.mem_of_getElem? (i := 8) (by decide +kernel), List.mem_of_getElem? (i := 319) (by decide +kernel), List.mem_of_getElem? (i := 320) (by decide +kernel)⟩
theorem lw_p9 : lw_okq (⟨"LieBridges", "splitRoute", "(II)Z"⟩, 7) := ⟨⟨by decide +kernel, by decide +kernel⟩, List.mem_of_getElem? (i := 8) (by decide +kernel), List.mem_of_getElem? (i := 353) (by decide +kernel), List.mem_of_getElem? (i := 354) (by decide +kernel)⟩
theorem lw_p10 : lw_okq (⟨"LieBridges", "tellingsFor", "(II)I"⟩, 7) := ⟨⟨by decide +kernel, by decide +kernel⟩, List.mem_of_getElem? (i := 8) (by decide +kernel), List.mem_of_getElem? (i := 366) (by decide +kernel), List.mem_of_getElem? (i := 367) (by decide +kernel)⟩
theorem lw_p11 : lw_okq (⟨"LieBridges", "spread", "(LLieBridges$Beliefs;I)V"⟩, 7) := ⟨⟨by decide +kernel, by decide +kernel⟩, List.mem_of_getElem? (i := 8) (by decide +kernel), List.mem_of_getElem? (i := 370) (by decide +kernel), List.mem_of_getElem? (i := 371) (by decide +kernel)⟩
theorem lw_p12 : lw_okq (⟨"LieBridges", "tellToAll", "(LLieBridges$Beliefs;II)V"⟩, 7) := ⟨⟨by decide +kernel, by decide +kernel⟩, List.mem_of_getElem? (i := 8) (by decide +kernel), List.mem_of_getElem? (i := 375) (by decide +kernel), List.mem_of_getElem? (i := 376) (by decide +kernel)⟩
theorem lw_p13 : lw_okq (⟨"LieBridges$Ways", "find", "(LLieBridges$Delta;IIJ)V"⟩, 7) := ⟨⟨by decide +kernel, by decide +kernel⟩, List.mem_of_getElem? (i := 136) (by decide +kernel), List.mem_of_getElem? (i := 388) (by decide +kernel), List.mem_of_getElem? (i := 389) (by decide +kernel)⟩
theorem lw_p14 : lw_okq (⟨"LieBridges$Ways", "walk", "(LLieBridges$Delta;IIIJ)V"⟩, 7) := ⟨⟨by decide +kernel, by decide +kernel⟩, List.mem_of_getElem? (i := 136) (by decide +kernel), List.mem_of_getElem? (i := 392) (by decide +kernel), List.mem_of_getElem? (i := 393) (by decide +kernel)⟩
theorem lw_p15 : lw_okq (⟨"LieBridges$Ways", "keepIfBetter", "(IJ)V"⟩, 7) := ⟨⟨by decide +kernel, by decide +kernel⟩, List.mem_of_getElem? (i := 136) (by decide +kernel), List.mem_of_getElem? (i := 396) (by decide +kernel), List.mem_of_getElem? (i := 397) (by decide +kernel)⟩
def lw_privs_1 : List (MethodName × Nat) := [(⟨"LieBridges$Pad", "take", "(II)I"⟩, 8), (⟨"LieBridges$Pad", "takeDay", "()I"⟩, 8), (⟨"LieBridges$Pad", "takeSpeaker", "(I)I"⟩, 8), (⟨"LieBridges$Pad", "takeHearer", "(I)I"⟩, 8), (⟨"LieBridges$Pad", "takeDenial", "()I"⟩, 8), (⟨"LieBridges$Pad", "takePlank", "(I)I"⟩, 8), (⟨"LieBridges", "refusalOfText", "()I"⟩, 7), (⟨"LieBridges", "takesEffect", "(ILLieBridges$Beliefs;)Z"⟩, 7), (⟨"LieBridges", "play", "(LLieBridges$Beliefs;)V"⟩, 7), (⟨"LieBridges", "splitRoute", "(II)Z"⟩, 7), (⟨"LieBridges", "tellingsFor", "(II)I"⟩, 7), (⟨"LieBridges", "spread", "(LLieBridges$Beliefs;I)V"⟩, 7), (⟨"LieBridges", "tellToAll", "(LLieBridges$Beliefs;II)V"⟩, 7), (⟨"LieBridges$Ways", "find", "(LLieBridges$Delta;IIJ)V"⟩, 7), (⟨"LieBridges$Ways", "walk", "(LLieBridges$Delta;IIIJ)V"⟩, 7), (⟨"LieBridges$Ways", "keepIfBetter", "(IJ)V"⟩, 7)]
theorem lw_r1 : ∀ q ∈ lw_privs_1, lw_okq q := List.forall_mem_cons.mpr ⟨lw_p0, List.forall_mem_cons.mpr ⟨lw_p1, List.forall_mem_cons.mpr ⟨lw_p2, List.forall_mem_cons.mpr ⟨lw_p3, List.forall_mem_cons.mpr ⟨lw_p4, List.forall_mem_cons.mpr ⟨lw_p5, List.forall_mem_cons.mpr ⟨lw_p6, List.forall_mem_cons.mpr ⟨lw_p7, List.forall_mem_cons.mpr ⟨lw_p8, List.forall_mem_cons.mpr ⟨lw_p9, List.forall_mem_cons.mpr ⟨lw_p10, List.forall_mem_cons.mpr ⟨lw_p11, List.forall_mem_cons.mpr ⟨lw_p12, List.forall_mem_cons.mpr ⟨lw_p13, List.forall_mem_cons.mpr ⟨lw_p14, List.forall_mem_cons.mpr ⟨lw_p15, fun _ h => absurd h List.not_mem_nil⟩⟩⟩⟩⟩⟩⟩⟩⟩⟩⟩⟩⟩⟩⟩⟩
theorem lw_p16 : lw_okq (⟨"LieBridges$Ways", "tread", "(LLieBridges$Delta;IIIIJ)V"⟩, 7) := ⟨⟨by decide +kernel, by decide +kernel⟩, List.mem_of_getElem? (i := 136) (by decide +kernel), List.mem_of_getElem? (i := 405) (by decide +kernel), List.mem_of_getElem? (i := 406) (by decide +kernel)⟩
theorem lw_p17 : lw_okq (⟨"LieBridges", "standsBehind", "(IIII)Z"⟩, 7) := ⟨⟨by decide +kernel, by decide +kernel⟩, List.mem_of_getElem? (i := 8) (by decide +kernel), List.mem_of_getElem? (i := 421) (by decide +kernel), List.mem_of_getElem? (i := 422) (by decide +kernel)⟩
theorem lw_p18 : lw_okq (⟨"LieBridges", "denyToAll", "(LLieBridges$Beliefs;II)I"⟩, 7) := ⟨⟨by decide +kernel, by decide +kernel⟩, List.mem_of_getElem? (i := 8) (by decide +kernel), List.mem_of_getElem? (i := 429) (by decide +kernel), List.mem_of_getElem? (i := 430) (by decide +kernel)⟩
theorem lw_p19 : lw_okq (⟨"LieBridges", "findSafest", "(II)V"⟩, 7) := ⟨⟨by decide +kernel, by decide +kernel⟩, List.mem_of_getElem? (i := 8) (by decide +kernel), List.mem_of_getElem? (i := 449) (by decide +kernel), List.mem_of_getElem? (i := 450) (by decide +kernel)⟩
theorem lw_p20 : lw_okq (⟨"LieBridges", "guess", "(I)V"⟩, 7) := ⟨⟨by decide +kernel, by decide +kernel⟩, List.mem_of_getElem? (i := 8) (by decide +kernel), List.mem_of_getElem? (i := 480) (by decide +kernel), List.mem_of_getElem? (i := 481) (by decide +kernel)⟩
theorem lw_p21 : lw_okq (⟨"LieBridges", "fits", "()Z"⟩, 7) := ⟨⟨by decide +kernel, by decide +kernel⟩, List.mem_of_getElem? (i := 8) (by decide +kernel), List.mem_of_getElem? (i := 484) (by decide +kernel), List.mem_of_getElem? (i := 485) (by decide +kernel)⟩
theorem lw_p22 : lw_okq (⟨"LieBridgesModel", "faultOf", "()I"⟩, 22) := ⟨⟨by decide +kernel, by decide +kernel⟩, List.mem_of_getElem? (i := 511) (by decide +kernel), List.mem_of_getElem? (i := 619) (by decide +kernel), List.mem_of_getElem? (i := 620) (by decide +kernel)⟩
theorem lw_p23 : lw_okq (⟨"LieBridgesModel", "barOfText", "()I"⟩, 22) := ⟨⟨by decide +kernel, by decide +kernel⟩, List.mem_of_getElem? (i := 511) (by decide +kernel), List.mem_of_getElem? (i := 627) (by decide +kernel), List.mem_of_getElem? (i := 628) (by decide +kernel)⟩
theorem lw_p24 : lw_okq (⟨"LieBridgesModel", "opens", "()I"⟩, 22) := ⟨⟨by decide +kernel, by decide +kernel⟩, List.mem_of_getElem? (i := 511) (by decide +kernel), List.mem_of_getElem? (i := 631) (by decide +kernel), List.mem_of_getElem? (i := 632) (by decide +kernel)⟩
theorem lw_p25 : lw_okq (⟨"LieBridgesModel", "goText", "(II)I"⟩, 22) := ⟨⟨by decide +kernel, by decide +kernel⟩, List.mem_of_getElem? (i := 511) (by decide +kernel), List.mem_of_getElem? (i := 635) (by decide +kernel), List.mem_of_getElem? (i := 636) (by decide +kernel)⟩
theorem lw_p26 : lw_okq (⟨"LieBridgesModel", "asNow", "()V"⟩, 22) := ⟨⟨by decide +kernel, by decide +kernel⟩, List.mem_of_getElem? (i := 511) (by decide +kernel), List.mem_of_getElem? (i := 639) (by decide +kernel), List.mem_of_getElem? (i := 640) (by decide +kernel)⟩
theorem lw_p27 : lw_okq (⟨"LieBridgesModel", "pass", "()V"⟩, 22) := ⟨⟨by decide +kernel, by decide +kernel⟩, List.mem_of_getElem? (i := 511) (by decide +kernel), List.mem_of_getElem? (i := 643) (by decide +kernel), List.mem_of_getElem? (i := 644) (by decide +kernel)⟩
theorem lw_p28 : lw_okq (⟨"LieBridgesModel", "denies", "(III)Z"⟩, 22) := ⟨⟨by decide +kernel, by decide +kernel⟩, List.mem_of_getElem? (i := 511) (by decide +kernel), List.mem_of_getElem? (i := 647) (by decide +kernel), List.mem_of_getElem? (i := 648) (by decide +kernel)⟩
theorem lw_p29 : lw_okq (⟨"LieBridgesModel", "tells", "(III)Z"⟩, 22) := ⟨⟨by decide +kernel, by decide +kernel⟩, List.mem_of_getElem? (i := 511) (by decide +kernel), List.mem_of_getElem? (i := 654) (by decide +kernel), List.mem_of_getElem? (i := 655) (by decide +kernel)⟩
theorem lw_p30 : lw_okq (⟨"LieBridgesModel", "beliefOf", "(III)I"⟩, 22) := ⟨⟨by decide +kernel, by decide +kernel⟩, List.mem_of_getElem? (i := 511) (by decide +kernel), List.mem_of_getElem? (i := 666) (by decide +kernel), List.mem_of_getElem? (i := 667) (by decide +kernel)⟩
theorem lw_p31 : lw_okq (⟨"LieBridgesModel", "bornBy", "(I)I"⟩, 22) := ⟨⟨by decide +kernel, by decide +kernel⟩, List.mem_of_getElem? (i := 511) (by decide +kernel), List.mem_of_getElem? (i := 670) (by decide +kernel), List.mem_of_getElem? (i := 671) (by decide +kernel)⟩
def lw_privs_2 : List (MethodName × Nat) := [(⟨"LieBridges$Ways", "tread", "(LLieBridges$Delta;IIIIJ)V"⟩, 7), (⟨"LieBridges", "standsBehind", "(IIII)Z"⟩, 7), (⟨"LieBridges", "denyToAll", "(LLieBridges$Beliefs;II)I"⟩, 7), (⟨"LieBridges", "findSafest", "(II)V"⟩, 7), (⟨"LieBridges", "guess", "(I)V"⟩, 7), (⟨"LieBridges", "fits", "()Z"⟩, 7), (⟨"LieBridgesModel", "faultOf", "()I"⟩, 22), (⟨"LieBridgesModel", "barOfText", "()I"⟩, 22), (⟨"LieBridgesModel", "opens", "()I"⟩, 22), (⟨"LieBridgesModel", "goText", "(II)I"⟩, 22), (⟨"LieBridgesModel", "asNow", "()V"⟩, 22), (⟨"LieBridgesModel", "pass", "()V"⟩, 22), (⟨"LieBridgesModel", "denies", "(III)Z"⟩, 22), (⟨"LieBridgesModel", "tells", "(III)Z"⟩, 22), (⟨"LieBridgesModel", "beliefOf", "(III)I"⟩, 22), (⟨"LieBridgesModel", "bornBy", "(I)I"⟩, 22)]
theorem lw_r2 : ∀ q ∈ lw_privs_2, lw_okq q := List.forall_mem_cons.mpr ⟨lw_p16, List.forall_mem_cons.mpr ⟨lw_p17, List.forall_mem_cons.mpr ⟨lw_p18, List.forall_mem_cons.mpr ⟨lw_p19, List.forall_mem_cons.mpr ⟨lw_p20, List.forall_mem_cons.mpr ⟨lw_p21, List.forall_mem_cons.mpr ⟨lw_p22, List.forall_mem_cons.mpr ⟨lw_p23, List.forall_mem_cons.mpr ⟨lw_p24, List.forall_mem_cons.mpr ⟨lw_p25, List.forall_mem_cons.mpr ⟨lw_p26, List.forall_mem_cons.mpr ⟨lw_p27, List.forall_mem_cons.mpr ⟨lw_p28, List.forall_mem_cons.mpr ⟨lw_p29, List.forall_mem_cons.mpr ⟨lw_p30, List.forall_mem_cons.mpr ⟨lw_p31, fun _ h => absurd h List.not_mem_nil⟩⟩⟩⟩⟩⟩⟩⟩⟩⟩⟩⟩⟩⟩⟩⟩
theorem lw_p32 : lw_okq (⟨"LieBridgesModel", "over", "(II)I"⟩, 22) := ⟨⟨by decide +kernel, by decide +kernel⟩, List.mem_of_getElem? (i := 511) (by decide +kernel), List.mem_of_getElem? (i := 685) (by decide +kernel), List.mem_of_getElem? (i := 686) (by decide +kernel)⟩
theorem lw_p33 : lw_okq (⟨"LieBridgesModel", "layCosts", "(I)V"⟩, 22) := ⟨⟨by decide +kernel, by decide +kernel⟩, List.mem_of_getElem? (i := 511) (by decide +kernel), List.mem_of_getElem? (i := 693) (by decide +kernel), List.mem_of_getElem? (i := 694) (by decide +kernel)⟩
theorem lw_p34 : lw_okq (⟨"LieBridgesModel", "reached", "(I)I"⟩, 22) := ⟨⟨by decide +kernel, by decide +kernel⟩, List.mem_of_getElem? (i := 511) (by decide +kernel), List.mem_of_getElem? (i := 697) (by decide +kernel), List.mem_of_getElem? (i := 698) (by decide +kernel)⟩
theorem lw_p35 : lw_okq (⟨"LieBridgesModel", "layWay", "(II)Z"⟩, 22) := ⟨⟨by decide +kernel, by decide +kernel⟩, List.mem_of_getElem? (i := 511) (by decide +kernel), List.mem_of_getElem? (i := 702) (by decide +kernel), List.mem_of_getElem? (i := 703) (by decide +kernel)⟩
theorem lw_p36 : lw_okq (⟨"LieBridgesModel", "plankOf", "(III)I"⟩, 22) := ⟨⟨by decide +kernel, by decide +kernel⟩, List.mem_of_getElem? (i := 511) (by decide +kernel), List.mem_of_getElem? (i := 706) (by decide +kernel), List.mem_of_getElem? (i := 707) (by decide +kernel)⟩
theorem lw_p37 : lw_okq (⟨"LieBridgesModel", "toAll", "(IIZ)V"⟩, 22) := ⟨⟨by decide +kernel, by decide +kernel⟩, List.mem_of_getElem? (i := 511) (by decide +kernel), List.mem_of_getElem? (i := 726) (by decide +kernel), List.mem_of_getElem? (i := 727) (by decide +kernel)⟩
theorem lw_p38 : lw_okq (⟨"LieBridgesModel", "laySafe", "(II)Z"⟩, 22) := ⟨⟨by decide +kernel, by decide +kernel⟩, List.mem_of_getElem? (i := 511) (by decide +kernel), List.mem_of_getElem? (i := 738) (by decide +kernel), List.mem_of_getElem? (i := 739) (by decide +kernel)⟩
def lw_privs_3 : List (MethodName × Nat) := [(⟨"LieBridgesModel", "over", "(II)I"⟩, 22), (⟨"LieBridgesModel", "layCosts", "(I)V"⟩, 22), (⟨"LieBridgesModel", "reached", "(I)I"⟩, 22), (⟨"LieBridgesModel", "layWay", "(II)Z"⟩, 22), (⟨"LieBridgesModel", "plankOf", "(III)I"⟩, 22), (⟨"LieBridgesModel", "toAll", "(IIZ)V"⟩, 22), (⟨"LieBridgesModel", "laySafe", "(II)Z"⟩, 22)]
theorem lw_r3 : ∀ q ∈ lw_privs_3, lw_okq q := List.forall_mem_cons.mpr ⟨lw_p32, List.forall_mem_cons.mpr ⟨lw_p33, List.forall_mem_cons.mpr ⟨lw_p34, List.forall_mem_cons.mpr ⟨lw_p35, List.forall_mem_cons.mpr ⟨lw_p36, List.forall_mem_cons.mpr ⟨lw_p37, List.forall_mem_cons.mpr ⟨lw_p38, fun _ h => absurd h List.not_mem_nil⟩⟩⟩⟩⟩⟩⟩
def lw_privs : List (MethodName × Nat) := lw_privs_1 ++ (lw_privs_2 ++ (lw_privs_3))
def lw_tbl : List Cond := k2_sels lw_privs ++ tables_1
theorem lw_privs_ok : ∀ q ∈ lw_privs, lw_okq q := by
  show ∀ q ∈ lw_privs_1 ++ (lw_privs_2 ++ (lw_privs_3)), lw_okq q
  exact List.forall_mem_append.mpr ⟨lw_r1, List.forall_mem_append.mpr ⟨lw_r2, lw_r3⟩⟩
end
section
/-! ===== BEGIN words of one list among another's, by their places ===== -/
theorem goodIn_r {big : List Cond} (ws : List Cond) (ps : List Nat) (hp : ws = ps.filterMap (fun i => big[i]?)) (h : ws.all goodWord = true) : GoodIn big ws := by
  intro w hw
  have h1 := List.all_eq_true.mp h w hw
  rw [hp] at hw
  obtain ⟨i, -, hi⟩ := List.mem_filterMap.mp hw
  have hm : w ∈ big := by first | exact List.mem_of_getElem? hi | exact List.getElem?_mem hi
  exact ⟨hm, good_of_word h1⟩
theorem goodIn_app {big a b : List Cond} (ha : GoodIn big a) (hb : GoodIn big b) : GoodIn big (a ++ b) := fun w h => (List.mem_append.mp h).elim (ha w) (hb w)
theorem goodIn_ca {big a b : List Cond} {c : Cond} (ha : GoodIn big (c :: a)) (hb : GoodIn big b) : GoodIn big (c :: (a ++ b)) := fun w h => (List.mem_cons.mp h).elim (fun e => ha w (List.mem_cons.mpr (Or.inl e))) (fun h => (List.mem_append.mp h).elim (fun h => ha w (List.mem_cons.mpr (Or.inr h))) (hb w))
theorem goodIn_sub {big ws : List Cond} (hm : ∀ w ∈ ws, w ∈ big) (h : ws.all goodWord = true) : GoodIn big ws := fun w hw => ⟨hm w hw, good_of_word (List.all_eq_true.mp h w hw)⟩
/-! ===== END ===== -/

/-! ===== BEGIN printed: names, fields, word lists, decode rows ===== -/
def RX0 : String := "LieBridges$Beliefs"
def TX0 : u_T := fun k => match k with
  | _ => ("LieBridges$Beliefs", "days", "[I", true)
def tyX0 : Nat → FieldType := fun k => match k with
  | _ => .array .int
abbrev wsX00 : List Cond := u_ws RX0 TX0 1
theorem nmX0 : ∀ a, a < 1 → ∀ b, b < 1 → a ≠ b → (TX0 a).2.1 ≠ (TX0 b).2.1 := by decide +kernel
theorem tyX0_ok : ∀ k, k < 1 → parseFieldDescriptor (TX0 k).2.2.1 = some (tyX0 k) := by decide +kernel
abbrev cX0_init : ByteArray := prog_2_method_1_code
def yX0_init : MethodName := ⟨RX0, "<init>", "()V"⟩
abbrev cX0_of : ByteArray := prog_2_method_2_code
def yX0_of : MethodName := ⟨RX0, "of", "(II)I"⟩
abbrev cX0_set : ByteArray := prog_2_method_3_code
def yX0_set : MethodName := ⟨RX0, "set", "(III)V"⟩
abbrev cX0_load : ByteArray := prog_2_method_4_code
def yX0_load : MethodName := ⟨RX0, "load", "(II)I"⟩
abbrev cX0_fadeADay : ByteArray := prog_2_method_5_code
def yX0_fadeADay : MethodName := ⟨RX0, "fadeADay", "()V"⟩
abbrev cX0_become : ByteArray := prog_2_method_6_code
def yX0_become : MethodName := ⟨RX0, "become", "(LLieBridges$Beliefs;)V"⟩
def RX1 : String := "LieBridges$Delta"
def TX1 : u_T := fun k => match k with
  | 0 => ("LieBridges$Delta", "lessers", "[I", true)
  | 1 => ("LieBridges$Delta", "greaters", "[I", true)
  | 2 => ("LieBridges$Delta", "layers", "[I", true)
  | 3 => ("LieBridges$Delta", "holds", "[I", true)
  | 4 => ("LieBridges$Delta", "trusted", "[I", true)
  | 5 => ("LieBridges$Delta", "known", "[I", true)
  | 6 => ("LieBridges$Delta", "sightPlanks", "[I", true)
  | 7 => ("LieBridges$Delta", "sightLoads", "[I", true)
  | 8 => ("LieBridges$Delta", "beliefs", "LLieBridges$Beliefs;", true)
  | 9 => ("LieBridges$Delta", "fadeDays", "I", false)
  | _ => ("LieBridges$Delta", "sights", "I", false)
def tyX1 : Nat → FieldType := fun k => match k with
  | 0 => .array .int
  | 1 => .array .int
  | 2 => .array .int
  | 3 => .array .int
  | 4 => .array .int
  | 5 => .array .int
  | 6 => .array .int
  | 7 => .array .int
  | 8 => .object "LieBridges$Beliefs"
  | 9 => .int
  | _ => .int
abbrev wsX10 : List Cond := u_ws RX1 TX1 11
theorem nmX1 : ∀ a, a < 11 → ∀ b, b < 11 → a ≠ b → (TX1 a).2.1 ≠ (TX1 b).2.1 := by decide +kernel
theorem tyX1_ok : ∀ k, k < 11 → parseFieldDescriptor (TX1 k).2.2.1 = some (tyX1 k) := by decide +kernel
abbrev cX1_init : ByteArray := prog_3_method_1_code
def yX1_init : MethodName := ⟨RX1, "<init>", "()V"⟩
abbrev cX1_lay : ByteArray := prog_3_method_2_code
def yX1_lay : MethodName := ⟨RX1, "lay", "(IIII)V"⟩
abbrev cX1_mayTell : ByteArray := prog_3_method_3_code
def yX1_mayTell : MethodName := ⟨RX1, "mayTell", "(LLieBridges$Beliefs;II)Z"⟩
abbrev cX1_tell : ByteArray := prog_3_method_4_code
def yX1_tell : MethodName := ⟨RX1, "tell", "(LLieBridges$Beliefs;III)Z"⟩
abbrev cX1_deny : ByteArray := prog_3_method_5_code
def yX1_deny : MethodName := ⟨RX1, "deny", "(LLieBridges$Beliefs;III)Z"⟩
abbrev cX1_across : ByteArray := prog_3_method_6_code
def yX1_across : MethodName := ⟨RX1, "across", "(II)I"⟩
abbrev cX1_become : ByteArray := prog_3_method_7_code
def yX1_become : MethodName := ⟨RX1, "become", "(LLieBridges$Delta;)V"⟩
def RX2 : String := "LieBridges$Pad"
def TX2 : u_T := fun k => match k with
  | 0 => ("LieBridges$Pad", "signs", "[I", true)
  | 1 => ("LieBridges$Pad", "many", "I", false)
  | 2 => ("LieBridges$Pad", "kinds", "[I", true)
  | 3 => ("LieBridges$Pad", "speakers", "[I", true)
  | 4 => ("LieBridges$Pad", "hearers", "[I", true)
  | 5 => ("LieBridges$Pad", "planks", "[I", true)
  | 6 => ("LieBridges$Pad", "parts", "I", false)
  | _ => ("LieBridges$Pad", "asked", "I", false)
def tyX2 : Nat → FieldType := fun k => match k with
  | 0 => .array .int
  | 1 => .int
  | 2 => .array .int
  | 3 => .array .int
  | 4 => .array .int
  | 5 => .array .int
  | 6 => .int
  | _ => .int
abbrev wsX20 : List Cond := u_ws RX2 TX2 8
theorem nmX2 : ∀ a, a < 8 → ∀ b, b < 8 → a ≠ b → (TX2 a).2.1 ≠ (TX2 b).2.1 := by decide +kernel
theorem tyX2_ok : ∀ k, k < 8 → parseFieldDescriptor (TX2 k).2.2.1 = some (tyX2 k) := by decide +kernel
abbrev cX2_init : ByteArray := prog_4_method_1_code
def yX2_init : MethodName := ⟨RX2, "<init>", "()V"⟩
abbrev cX2_add : ByteArray := prog_4_method_2_code
def yX2_add : MethodName := ⟨RX2, "add", "(I)Z"⟩
abbrev cX2_clear : ByteArray := prog_4_method_3_code
def yX2_clear : MethodName := ⟨RX2, "clear", "()V"⟩
abbrev cX2_read : ByteArray := prog_4_method_4_code
def yX2_read : MethodName := ⟨RX2, "read", "()I"⟩
abbrev cX2_take : ByteArray := prog_4_method_5_code
def yX2_take : MethodName := ⟨RX2, "take", "(II)I"⟩
abbrev cX2_takeDay : ByteArray := prog_4_method_6_code
def yX2_takeDay : MethodName := ⟨RX2, "takeDay", "()I"⟩
abbrev cX2_takeSpeaker : ByteArray := prog_4_method_7_code
def yX2_takeSpeaker : MethodName := ⟨RX2, "takeSpeaker", "(I)I"⟩
abbrev cX2_takeHearer : ByteArray := prog_4_method_8_code
def yX2_takeHearer : MethodName := ⟨RX2, "takeHearer", "(I)I"⟩
abbrev cX2_takeDenial : ByteArray := prog_4_method_9_code
def yX2_takeDenial : MethodName := ⟨RX2, "takeDenial", "()I"⟩
abbrev cX2_takePlank : ByteArray := prog_4_method_10_code
def yX2_takePlank : MethodName := ⟨RX2, "takePlank", "(I)I"⟩
def RX3 : String := "LieBridges$Ways"
def TX3 : u_T := fun k => match k with
  | 0 => ("LieBridges$Ways", "weights", "[I", true)
  | 1 => ("LieBridges$Ways", "trodden", "[I", true)
  | 2 => ("LieBridges$Ways", "best", "[I", true)
  | 3 => ("LieBridges$Ways", "likeliest", "Z", false)
  | 4 => ("LieBridges$Ways", "goal", "I", false)
  | 5 => ("LieBridges$Ways", "length", "I", false)
  | _ => ("LieBridges$Ways", "worth", "J", false)
def tyX3 : Nat → FieldType := fun k => match k with
  | 0 => .array .int
  | 1 => .array .int
  | 2 => .array .int
  | 3 => .boolean
  | 4 => .int
  | 5 => .int
  | _ => .long
abbrev wsX30 : List Cond := u_ws RX3 TX3 7
theorem nmX3 : ∀ a, a < 7 → ∀ b, b < 7 → a ≠ b → (TX3 a).2.1 ≠ (TX3 b).2.1 := by decide +kernel
theorem tyX3_ok : ∀ k, k < 7 → parseFieldDescriptor (TX3 k).2.2.1 = some (tyX3 k) := by decide +kernel
abbrev cX3_init : ByteArray := prog_5_method_1_code
def yX3_init : MethodName := ⟨RX3, "<init>", "()V"⟩
abbrev cX3_weigh : ByteArray := prog_5_method_2_code
def yX3_weigh : MethodName := ⟨RX3, "weigh", "(II)V"⟩
abbrev cX3_findCheapest : ByteArray := prog_5_method_3_code
def yX3_findCheapest : MethodName := ⟨RX3, "findCheapest", "(LLieBridges$Delta;II)V"⟩
abbrev cX3_findLikeliest : ByteArray := prog_5_method_4_code
def yX3_findLikeliest : MethodName := ⟨RX3, "findLikeliest", "(LLieBridges$Delta;II)V"⟩
abbrev cX3_found : ByteArray := prog_5_method_5_code
def yX3_found : MethodName := ⟨RX3, "found", "()Z"⟩
abbrev cX3_step : ByteArray := prog_5_method_6_code
def yX3_step : MethodName := ⟨RX3, "step", "(I)I"⟩
abbrev cX3_find : ByteArray := prog_5_method_7_code
def yX3_find : MethodName := ⟨RX3, "find", "(LLieBridges$Delta;IIJ)V"⟩
abbrev cX3_walk : ByteArray := prog_5_method_8_code
def yX3_walk : MethodName := ⟨RX3, "walk", "(LLieBridges$Delta;IIIJ)V"⟩
abbrev cX3_tread : ByteArray := prog_5_method_9_code
def yX3_tread : MethodName := ⟨RX3, "tread", "(LLieBridges$Delta;IIIIJ)V"⟩
abbrev cX3_keepIfBetter : ByteArray := prog_5_method_10_code
def yX3_keepIfBetter : MethodName := ⟨RX3, "keepIfBetter", "(IJ)V"⟩
def RX4 : String := "LieBridges"
def TX4 : u_T := fun k => match k with
  | 0 => ("LieBridges", "now", "LLieBridges$Delta;", true)
  | 1 => ("LieBridges", "images", "[LLieBridges$Delta;", true)
  | 2 => ("LieBridges", "pad", "LLieBridges$Pad;", true)
  | 3 => ("LieBridges", "ways", "LLieBridges$Ways;", true)
  | 4 => ("LieBridges", "trial", "LLieBridges$Beliefs;", true)
  | 5 => ("LieBridges", "guesses", "[I", true)
  | _ => ("LieBridges", "route", "[I", true)
def tyX4 : Nat → FieldType := fun k => match k with
  | 0 => .object "LieBridges$Delta"
  | 1 => .array (.object "LieBridges$Delta")
  | 2 => .object "LieBridges$Pad"
  | 3 => .object "LieBridges$Ways"
  | 4 => .object "LieBridges$Beliefs"
  | 5 => .array .int
  | _ => .array .int
abbrev wsX40 : List Cond := u_ws RX4 TX4 7
theorem nmX4 : ∀ a, a < 7 → ∀ b, b < 7 → a ≠ b → (TX4 a).2.1 ≠ (TX4 b).2.1 := by decide +kernel
theorem tyX4_ok : ∀ k, k < 7 → parseFieldDescriptor (TX4 k).2.2.1 = some (tyX4 k) := by decide +kernel
abbrev cX4_init : ByteArray := prog_1_method_1_code
def yX4_init : MethodName := ⟨RX4, "<init>", "()V"⟩
abbrev cX4_plank : ByteArray := prog_1_method_2_code
def yX4_plank : MethodName := ⟨RX4, "plank", "(IIII)I"⟩
abbrev cX4_trust : ByteArray := prog_1_method_3_code
def yX4_trust : MethodName := ⟨RX4, "trust", "(IIZ)I"⟩
abbrev cX4_know : ByteArray := prog_1_method_4_code
def yX4_know : MethodName := ⟨RX4, "know", "(IIZ)I"⟩
abbrev cX4_fade : ByteArray := prog_1_method_5_code
def yX4_fade : MethodName := ⟨RX4, "fade", "(I)I"⟩
abbrev cX4_say : ByteArray := prog_1_method_6_code
def yX4_say : MethodName := ⟨RX4, "say", "(I)I"⟩
abbrev cX4_wipe : ByteArray := prog_1_method_7_code
def yX4_wipe : MethodName := ⟨RX4, "wipe", "()I"⟩
abbrev cX4_fault : ByteArray := prog_1_method_8_code
def yX4_fault : MethodName := ⟨RX4, "fault", "()I"⟩
abbrev cX4_vain : ByteArray := prog_1_method_9_code
def yX4_vain : MethodName := ⟨RX4, "vain", "(I)I"⟩
abbrev cX4_done : ByteArray := prog_1_method_10_code
def yX4_done : MethodName := ⟨RX4, "done", "()I"⟩
abbrev cX4_bears : ByteArray := prog_1_method_11_code
def yX4_bears : MethodName := ⟨RX4, "bears", "(II)I"⟩
abbrev cX4_behind : ByteArray := prog_1_method_12_code
def yX4_behind : MethodName := ⟨RX4, "behind", "(II)I"⟩
abbrev cX4_falls : ByteArray := prog_1_method_13_code
def yX4_falls : MethodName := ⟨RX4, "falls", "(IIIII)I"⟩
abbrev cX4_tellings : ByteArray := prog_1_method_14_code
def yX4_tellings : MethodName := ⟨RX4, "tellings", "(IIII)I"⟩
abbrev cX4_stands : ByteArray := prog_1_method_15_code
def yX4_stands : MethodName := ⟨RX4, "stands", "(III)I"⟩
abbrev cX4_word : ByteArray := prog_1_method_16_code
def yX4_word : MethodName := ⟨RX4, "word", "(I)I"⟩
abbrev cX4_rumour : ByteArray := prog_1_method_17_code
def yX4_rumour : MethodName := ⟨RX4, "rumour", "(II)I"⟩
abbrev cX4_odds : ByteArray := prog_1_method_18_code
def yX4_odds : MethodName := ⟨RX4, "odds", "(IIII)I"⟩
abbrev cX4_tenths : ByteArray := prog_1_method_19_code
def yX4_tenths : MethodName := ⟨RX4, "tenths", "(II)I"⟩
abbrev cX4_safe : ByteArray := prog_1_method_20_code
def yX4_safe : MethodName := ⟨RX4, "safe", "(III)I"⟩
abbrev cX4_chance : ByteArray := prog_1_method_21_code
def yX4_chance : MethodName := ⟨RX4, "chance", "(III)J"⟩
abbrev cX4_seen : ByteArray := prog_1_method_22_code
def yX4_seen : MethodName := ⟨RX4, "seen", "(II)I"⟩
abbrev cX4_forget : ByteArray := prog_1_method_23_code
def yX4_forget : MethodName := ⟨RX4, "forget", "()I"⟩
abbrev cX4_filled : ByteArray := prog_1_method_24_code
def yX4_filled : MethodName := ⟨RX4, "filled", "(I)I"⟩
abbrev cX4_year : ByteArray := prog_1_method_25_code
def yX4_year : MethodName := ⟨RX4, "year", "(III)I"⟩
abbrev cX4_image : ByteArray := prog_1_method_26_code
def yX4_image : MethodName := ⟨RX4, "image", "(I)I"⟩
abbrev cX4_restore : ByteArray := prog_1_method_27_code
def yX4_restore : MethodName := ⟨RX4, "restore", "(I)I"⟩
abbrev cX4_told : ByteArray := prog_1_method_28_code
def yX4_told : MethodName := ⟨RX4, "told", "(I)I"⟩
abbrev cX4_within : ByteArray := prog_1_method_29_code
def yX4_within : MethodName := ⟨RX4, "within", "(III)Z"⟩
abbrev cX4_isPerson : ByteArray := prog_1_method_30_code
def yX4_isPerson : MethodName := ⟨RX4, "isPerson", "(I)Z"⟩
abbrev cX4_isPersonOrAll : ByteArray := prog_1_method_31_code
def yX4_isPersonOrAll : MethodName := ⟨RX4, "isPersonOrAll", "(I)Z"⟩
abbrev cX4_isIsland : ByteArray := prog_1_method_32_code
def yX4_isIsland : MethodName := ⟨RX4, "isIsland", "(I)Z"⟩
abbrev cX4_isPlank : ByteArray := prog_1_method_33_code
def yX4_isPlank : MethodName := ⟨RX4, "isPlank", "(I)Z"⟩
abbrev cX4_isParty : ByteArray := prog_1_method_34_code
def yX4_isParty : MethodName := ⟨RX4, "isParty", "(I)Z"⟩
abbrev cX4_isChoice : ByteArray := prog_1_method_35_code
def yX4_isChoice : MethodName := ⟨RX4, "isChoice", "(I)Z"⟩
abbrev cX4_at : ByteArray := prog_1_method_36_code
def yX4_at : MethodName := ⟨RX4, "at", "([II)I"⟩
abbrev cX4_put : ByteArray := prog_1_method_37_code
def yX4_put : MethodName := ⟨RX4, "put", "([III)V"⟩
abbrev cX4_hasBit : ByteArray := prog_1_method_38_code
def yX4_hasBit : MethodName := ⟨RX4, "hasBit", "([III)Z"⟩
abbrev cX4_putBit : ByteArray := prog_1_method_39_code
def yX4_putBit : MethodName := ⟨RX4, "putBit", "([IIIZ)V"⟩
abbrev cX4_copy : ByteArray := prog_1_method_40_code
def yX4_copy : MethodName := ⟨RX4, "copy", "([I[I)V"⟩
abbrev cX4_sharedDivisor : ByteArray := prog_1_method_41_code
def yX4_sharedDivisor : MethodName := ⟨RX4, "sharedDivisor", "(JJ)J"⟩
abbrev cX4_refusalOfText : ByteArray := prog_1_method_42_code
def yX4_refusalOfText : MethodName := ⟨RX4, "refusalOfText", "()I"⟩
abbrev cX4_beliefOrLoad : ByteArray := prog_1_method_43_code
def yX4_beliefOrLoad : MethodName := ⟨RX4, "beliefOrLoad", "(LLieBridges$Beliefs;II)I"⟩
abbrev cX4_play : ByteArray := prog_1_method_44_code
def yX4_play : MethodName := ⟨RX4, "play", "(LLieBridges$Beliefs;)V"⟩
abbrev cX4_takesEffect : ByteArray := prog_1_method_45_code
def yX4_takesEffect : MethodName := ⟨RX4, "takesEffect", "(ILLieBridges$Beliefs;)Z"⟩
abbrev cX4_splitRoute : ByteArray := prog_1_method_46_code
def yX4_splitRoute : MethodName := ⟨RX4, "splitRoute", "(II)Z"⟩
abbrev cX4_tellToAll : ByteArray := prog_1_method_47_code
def yX4_tellToAll : MethodName := ⟨RX4, "tellToAll", "(LLieBridges$Beliefs;II)V"⟩
abbrev cX4_denyToAll : ByteArray := prog_1_method_48_code
def yX4_denyToAll : MethodName := ⟨RX4, "denyToAll", "(LLieBridges$Beliefs;II)I"⟩
abbrev cX4_spread : ByteArray := prog_1_method_49_code
def yX4_spread : MethodName := ⟨RX4, "spread", "(LLieBridges$Beliefs;I)V"⟩
abbrev cX4_tellingsFor : ByteArray := prog_1_method_50_code
def yX4_tellingsFor : MethodName := ⟨RX4, "tellingsFor", "(II)I"⟩
abbrev cX4_standsBehind : ByteArray := prog_1_method_51_code
def yX4_standsBehind : MethodName := ⟨RX4, "standsBehind", "(IIII)Z"⟩
abbrev cX4_findSafest : ByteArray := prog_1_method_52_code
def yX4_findSafest : MethodName := ⟨RX4, "findSafest", "(II)V"⟩
abbrev cX4_guess : ByteArray := prog_1_method_53_code
def yX4_guess : MethodName := ⟨RX4, "guess", "(I)V"⟩
abbrev cX4_fits : ByteArray := prog_1_method_54_code
def yX4_fits : MethodName := ⟨RX4, "fits", "()Z"⟩
def RX5 : String := "LieBridgesModel"
def TX5 : u_T := fun k => match k with
  | 0 => ("LieBridgesModel", "one", "[I", true)
  | 1 => ("LieBridgesModel", "two", "[I", true)
  | 2 => ("LieBridgesModel", "owner", "[I", true)
  | 3 => ("LieBridgesModel", "trusts", "[I", true)
  | 4 => ("LieBridgesModel", "knows", "[I", true)
  | 5 => ("LieBridgesModel", "days", "[I", true)
  | 6 => ("LieBridgesModel", "safety", "[I", true)
  | 7 => ("LieBridgesModel", "fade", "I", false)
  | 8 => ("LieBridgesModel", "sights", "I", false)
  | 9 => ("LieBridgesModel", "sight", "[I", true)
  | 10 => ("LieBridgesModel", "signs", "I", false)
  | 11 => ("LieBridgesModel", "pad", "[I", true)
  | 12 => ("LieBridgesModel", "now", "[I", true)
  | 13 => ("LieBridgesModel", "parts", "I", false)
  | 14 => ("LieBridgesModel", "vainAt", "I", false)
  | 15 => ("LieBridgesModel", "cost", "[I", true)
  | 16 => ("LieBridgesModel", "bestMany", "I", false)
  | 17 => ("LieBridgesModel", "bestCode", "I", false)
  | 18 => ("LieBridgesModel", "bestCost", "I", false)
  | 19 => ("LieBridgesModel", "safeUp", "I", false)
  | 20 => ("LieBridgesModel", "image", "[I", true)
  | _ => ("LieBridgesModel", "isKept", "[Z", true)
def tyX5 : Nat → FieldType := fun k => match k with
  | 0 => .array .int
  | 1 => .array .int
  | 2 => .array .int
  | 3 => .array .int
  | 4 => .array .int
  | 5 => .array .int
  | 6 => .array .int
  | 7 => .int
  | 8 => .int
  | 9 => .array .int
  | 10 => .int
  | 11 => .array .int
  | 12 => .array .int
  | 13 => .int
  | 14 => .int
  | 15 => .array .int
  | 16 => .int
  | 17 => .int
  | 18 => .int
  | 19 => .int
  | 20 => .array .int
  | _ => .array .boolean
abbrev wsX50 : List Cond := u_ws RX5 TX5 22
theorem nmX5 : ∀ a, a < 22 → ∀ b, b < 22 → a ≠ b → (TX5 a).2.1 ≠ (TX5 b).2.1 := by decide +kernel
theorem tyX5_ok : ∀ k, k < 22 → parseFieldDescriptor (TX5 k).2.2.1 = some (tyX5 k) := by decide +kernel
abbrev cX5_init : ByteArray := prog_7_method_1_code
def yX5_init : MethodName := ⟨RX5, "<init>", "()V"⟩
abbrev cX5_in : ByteArray := prog_7_method_2_code
def yX5_in : MethodName := ⟨RX5, "in", "(III)Z"⟩
abbrev cX5_has : ByteArray := prog_7_method_3_code
def yX5_has : MethodName := ⟨RX5, "has", "(II)Z"⟩
abbrev cX5_is6 : ByteArray := prog_7_method_4_code
def yX5_is6 : MethodName := ⟨RX5, "is6", "(I)Z"⟩
abbrev cX5_plank : ByteArray := prog_7_method_5_code
def yX5_plank : MethodName := ⟨RX5, "plank", "(IIII)I"⟩
abbrev cX5_trust : ByteArray := prog_7_method_6_code
def yX5_trust : MethodName := ⟨RX5, "trust", "(IIZ)I"⟩
abbrev cX5_know : ByteArray := prog_7_method_7_code
def yX5_know : MethodName := ⟨RX5, "know", "(IIZ)I"⟩
abbrev cX5_fade : ByteArray := prog_7_method_8_code
def yX5_fade : MethodName := ⟨RX5, "fade", "(I)I"⟩
abbrev cX5_say : ByteArray := prog_7_method_9_code
def yX5_say : MethodName := ⟨RX5, "say", "(I)I"⟩
abbrev cX5_wipe : ByteArray := prog_7_method_10_code
def yX5_wipe : MethodName := ⟨RX5, "wipe", "()I"⟩
abbrev cX5_faultOf : ByteArray := prog_7_method_11_code
def yX5_faultOf : MethodName := ⟨RX5, "faultOf", "()I"⟩
abbrev cX5_fault : ByteArray := prog_7_method_12_code
def yX5_fault : MethodName := ⟨RX5, "fault", "()I"⟩
abbrev cX5_opens : ByteArray := prog_7_method_13_code
def yX5_opens : MethodName := ⟨RX5, "opens", "()I"⟩
abbrev cX5_asNow : ByteArray := prog_7_method_14_code
def yX5_asNow : MethodName := ⟨RX5, "asNow", "()V"⟩
abbrev cX5_tells : ByteArray := prog_7_method_15_code
def yX5_tells : MethodName := ⟨RX5, "tells", "(III)Z"⟩
abbrev cX5_denies : ByteArray := prog_7_method_16_code
def yX5_denies : MethodName := ⟨RX5, "denies", "(III)Z"⟩
abbrev cX5_pass : ByteArray := prog_7_method_17_code
def yX5_pass : MethodName := ⟨RX5, "pass", "()V"⟩
abbrev cX5_bornBy : ByteArray := prog_7_method_18_code
def yX5_bornBy : MethodName := ⟨RX5, "bornBy", "(I)I"⟩
abbrev cX5_goText : ByteArray := prog_7_method_19_code
def yX5_goText : MethodName := ⟨RX5, "goText", "(II)I"⟩
abbrev cX5_barOfText : ByteArray := prog_7_method_20_code
def yX5_barOfText : MethodName := ⟨RX5, "barOfText", "()I"⟩
abbrev cX5_vain : ByteArray := prog_7_method_21_code
def yX5_vain : MethodName := ⟨RX5, "vain", "(I)I"⟩
abbrev cX5_done : ByteArray := prog_7_method_22_code
def yX5_done : MethodName := ⟨RX5, "done", "()I"⟩
abbrev cX5_beliefOf : ByteArray := prog_7_method_23_code
def yX5_beliefOf : MethodName := ⟨RX5, "beliefOf", "(III)I"⟩
abbrev cX5_bears : ByteArray := prog_7_method_24_code
def yX5_bears : MethodName := ⟨RX5, "bears", "(II)I"⟩
abbrev cX5_behind : ByteArray := prog_7_method_25_code
def yX5_behind : MethodName := ⟨RX5, "behind", "(II)I"⟩
abbrev cX5_powerOf : ByteArray := prog_7_method_26_code
def yX5_powerOf : MethodName := ⟨RX5, "powerOf", "(II)I"⟩
abbrev cX5_over : ByteArray := prog_7_method_27_code
def yX5_over : MethodName := ⟨RX5, "over", "(II)I"⟩
abbrev cX5_falls : ByteArray := prog_7_method_28_code
def yX5_falls : MethodName := ⟨RX5, "falls", "(IIIII)I"⟩
abbrev cX5_plankOf : ByteArray := prog_7_method_29_code
def yX5_plankOf : MethodName := ⟨RX5, "plankOf", "(III)I"⟩
abbrev cX5_layWay : ByteArray := prog_7_method_30_code
def yX5_layWay : MethodName := ⟨RX5, "layWay", "(II)Z"⟩
abbrev cX5_reached : ByteArray := prog_7_method_31_code
def yX5_reached : MethodName := ⟨RX5, "reached", "(I)I"⟩
abbrev cX5_layCosts : ByteArray := prog_7_method_32_code
def yX5_layCosts : MethodName := ⟨RX5, "layCosts", "(I)V"⟩
abbrev cX5_tellings : ByteArray := prog_7_method_33_code
def yX5_tellings : MethodName := ⟨RX5, "tellings", "(IIII)I"⟩
abbrev cX5_stands : ByteArray := prog_7_method_34_code
def yX5_stands : MethodName := ⟨RX5, "stands", "(III)I"⟩
abbrev cX5_word : ByteArray := prog_7_method_35_code
def yX5_word : MethodName := ⟨RX5, "word", "(I)I"⟩
abbrev cX5_rumour : ByteArray := prog_7_method_36_code
def yX5_rumour : MethodName := ⟨RX5, "rumour", "(II)I"⟩
abbrev cX5_toAll : ByteArray := prog_7_method_37_code
def yX5_toAll : MethodName := ⟨RX5, "toAll", "(IIZ)V"⟩
abbrev cX5_odds : ByteArray := prog_7_method_38_code
def yX5_odds : MethodName := ⟨RX5, "odds", "(IIII)I"⟩
abbrev cX5_tenths : ByteArray := prog_7_method_39_code
def yX5_tenths : MethodName := ⟨RX5, "tenths", "(II)I"⟩
abbrev cX5_laySafe : ByteArray := prog_7_method_40_code
def yX5_laySafe : MethodName := ⟨RX5, "laySafe", "(II)Z"⟩
abbrev cX5_safe : ByteArray := prog_7_method_41_code
def yX5_safe : MethodName := ⟨RX5, "safe", "(III)I"⟩
abbrev cX5_chance : ByteArray := prog_7_method_42_code
def yX5_chance : MethodName := ⟨RX5, "chance", "(III)J"⟩
abbrev cX5_seen : ByteArray := prog_7_method_43_code
def yX5_seen : MethodName := ⟨RX5, "seen", "(II)I"⟩
abbrev cX5_forget : ByteArray := prog_7_method_44_code
def yX5_forget : MethodName := ⟨RX5, "forget", "()I"⟩
abbrev cX5_filled : ByteArray := prog_7_method_45_code
def yX5_filled : MethodName := ⟨RX5, "filled", "(I)I"⟩
abbrev cX5_year : ByteArray := prog_7_method_46_code
def yX5_year : MethodName := ⟨RX5, "year", "(III)I"⟩
abbrev cX5_image : ByteArray := prog_7_method_47_code
def yX5_image : MethodName := ⟨RX5, "image", "(I)I"⟩
abbrev cX5_restore : ByteArray := prog_7_method_48_code
def yX5_restore : MethodName := ⟨RX5, "restore", "(I)I"⟩
abbrev cX5_told : ByteArray := prog_7_method_49_code
def yX5_told : MethodName := ⟨RX5, "told", "(I)I"⟩
def RL : String := "LieBridgesLaw"
abbrev cL_law : ByteArray := code
def yL_law : MethodName := ⟨RL, "law", "([I)Z"⟩
def wsX0_init : List Cond := .code yX0_init cX0_init 1 none :: ([.methodLink RX0 3 objectInit, .instanceMethod objectInit, .code objectInit ⟨#[0xb1]⟩ 1 none, .arrayClass .int, .fieldLink RX0 9 "LieBridges$Beliefs" "days" "[I"] ++ wsX00)
def wsX0_of : List Cond := .code yX0_of cX0_of 4 (some .int) :: ([.fieldLink RX0 9 "LieBridges$Beliefs" "days" "[I"] ++ wsX00)
def wsX4_put : List Cond := .code yX4_put cX4_put 3 none :: ([])
def wsX0_set : List Cond := .code yX0_set cX0_set 4 none :: ([.fieldLink RX0 9 "LieBridges$Beliefs" "days" "[I", .static yX4_put, .initialized RX4, .code yX4_put cX4_put 3 none] ++ wsX00)
def wsX0_load : List Cond := .code yX0_load cX0_load 5 (some .int) :: ([.methodLink RX0 19 yX0_of, .instanceMethod yX0_of, .selects RX0 yX0_of yX0_of, .initialized RX0, .code yX0_of cX0_of 4 (some .int), .fieldLink RX0 9 "LieBridges$Beliefs" "days" "[I"] ++ wsX00)
def wsX0_fadeADay : List Cond := .code yX0_fadeADay cX0_fadeADay 2 none :: ([.fieldLink RX0 9 "LieBridges$Beliefs" "days" "[I"] ++ wsX00)
def wsX4_at : List Cond := .code yX4_at cX4_at 2 (some .int) :: ([])
def wsX4_copy : List Cond := .code yX4_copy cX4_copy 3 none :: ([.methodLink RX4 134 yX4_at, .static yX4_at, .initialized RX4, .code yX4_at cX4_at 2 (some .int)])
def wsX0_become : List Cond := .code yX0_become cX0_become 2 none :: ([.fieldLink RX0 9 "LieBridges$Beliefs" "days" "[I", .static yX4_copy, .initialized RX4, .code yX4_copy cX4_copy 3 none, .methodLink RX4 134 yX4_at, .static yX4_at, .code yX4_at cX4_at 2 (some .int)] ++ wsX00)
def wsX4_putBit : List Cond := .code yX4_putBit cX4_putBit 5 none :: ([.methodLink RX4 134 yX4_at, .static yX4_at, .initialized RX4, .code yX4_at cX4_at 2 (some .int), .methodLink RX4 189 yX4_put, .static yX4_put, .code yX4_put cX4_put 3 none])
def wsX1_lay : List Cond := .code yX1_lay cX1_lay 6 none :: ([.fieldLink RX1 9 "LieBridges$Delta" "lessers" "[I", .fieldLink RX1 15 "LieBridges$Delta" "greaters" "[I", .fieldLink RX1 18 "LieBridges$Delta" "layers" "[I", .fieldLink RX1 39 "LieBridges$Delta" "beliefs" "LLieBridges$Beliefs;", .fieldLink RX1 27 "LieBridges$Delta" "known" "[I", .static yX4_put, .initialized RX4, .code yX4_put cX4_put 3 none, .methodLink RX1 55 yX0_set, .instanceMethod yX0_set, .selects RX0 yX0_set yX0_set, .initialized RX0, .code yX0_set cX0_set 4 none, .fieldLink RX0 9 "LieBridges$Beliefs" "days" "[I", .static yX4_putBit, .code yX4_putBit cX4_putBit 5 none, .methodLink RX4 134 yX4_at, .static yX4_at, .code yX4_at cX4_at 2 (some .int), .methodLink RX4 189 yX4_put] ++ wsX10 ++ wsX00)
def wsX1_init_r1 : List Cond := [Cond.methodLink RX1 3 objectInit, Cond.instanceMethod objectInit, Cond.code objectInit ⟨#[0xb1]⟩ 1 none, Cond.arrayClass .int, Cond.fieldLink RX1 9 "LieBridges$Delta" "lessers" "[I", Cond.fieldLink RX1 15 "LieBridges$Delta" "greaters" "[I", Cond.fieldLink RX1 18 "LieBridges$Delta" "layers" "[I", Cond.fieldLink RX1 21 "LieBridges$Delta" "holds" "[I", Cond.fieldLink RX1 24 "LieBridges$Delta" "trusted" "[I", Cond.fieldLink RX1 27 "LieBridges$Delta" "known" "[I", Cond.fieldLink RX1 30 "LieBridges$Delta" "sightPlanks" "[I", Cond.fieldLink RX1 33 "LieBridges$Delta" "sightLoads" "[I", Cond.classLink RX1 36 RX0, Cond.instantiable RX0 1, Cond.initialized RX0, Cond.fieldLink RX1 39 "LieBridges$Delta" "beliefs" "LLieBridges$Beliefs;", Cond.fieldLink RX1 43 "LieBridges$Delta" "fadeDays" "I", Cond.instanceMethod yX0_init, Cond.code yX0_init cX0_init 1 none, Cond.methodLink RX0 3 objectInit, Cond.fieldLink RX0 9 "LieBridges$Beliefs" "days" "[I", Cond.methodLink RX1 47 yX1_lay, Cond.instanceMethod yX1_lay, Cond.selects RX1 yX1_lay yX1_lay]
def wsX1_init_r2 : List Cond := [Cond.initialized RX1, Cond.code yX1_lay cX1_lay 6 none, Cond.static yX4_put, Cond.initialized RX4, Cond.code yX4_put cX4_put 3 none, Cond.methodLink RX1 55 yX0_set, Cond.instanceMethod yX0_set, Cond.selects RX0 yX0_set yX0_set, Cond.code yX0_set cX0_set 4 none, Cond.static yX4_putBit, Cond.code yX4_putBit cX4_putBit 5 none, Cond.methodLink RX4 134 yX4_at, Cond.static yX4_at, Cond.code yX4_at cX4_at 2 (some .int), Cond.methodLink RX4 189 yX4_put]
def wsX1_init : List Cond := .code yX1_init cX1_init 2 none :: ((wsX1_init_r1 ++ wsX1_init_r2) ++ wsX10 ++ wsX00)
def wsX1_mayTell : List Cond := .code yX1_mayTell cX1_mayTell 4 (some .boolean) :: ([.fieldLink RX1 18 "LieBridges$Delta" "layers" "[I", .static yX4_at, .initialized RX4, .code yX4_at cX4_at 2 (some .int), .methodLink RX1 67 yX0_of, .instanceMethod yX0_of, .selects RX0 yX0_of yX0_of, .initialized RX0, .code yX0_of cX0_of 4 (some .int), .fieldLink RX0 9 "LieBridges$Beliefs" "days" "[I"] ++ wsX10 ++ wsX00)
def wsX4_hasBit : List Cond := .code yX4_hasBit cX4_hasBit 3 (some .boolean) :: ([.methodLink RX4 134 yX4_at, .static yX4_at, .initialized RX4, .code yX4_at cX4_at 2 (some .int)])
def wsX1_tell_r1 : List Cond := [Cond.fieldLink RX1 24 "LieBridges$Delta" "trusted" "[I", Cond.fieldLink RX1 18 "LieBridges$Delta" "layers" "[I", Cond.fieldLink RX1 27 "LieBridges$Delta" "known" "[I", Cond.fieldLink RX1 43 "LieBridges$Delta" "fadeDays" "I", Cond.methodLink RX1 71 yX1_mayTell, Cond.instanceMethod yX1_mayTell, Cond.selects RX1 yX1_mayTell yX1_mayTell, Cond.initialized RX1, Cond.code yX1_mayTell cX1_mayTell 4 (some .boolean), Cond.static yX4_at, Cond.initialized RX4, Cond.code yX4_at cX4_at 2 (some .int), Cond.methodLink RX1 67 yX0_of, Cond.instanceMethod yX0_of, Cond.selects RX0 yX0_of yX0_of, Cond.initialized RX0, Cond.code yX0_of cX0_of 4 (some .int), Cond.fieldLink RX0 9 "LieBridges$Beliefs" "days" "[I", Cond.static yX4_hasBit, Cond.code yX4_hasBit cX4_hasBit 3 (some .boolean), Cond.methodLink RX4 134 yX4_at, Cond.methodLink RX1 55 yX0_set, Cond.instanceMethod yX0_set, Cond.selects RX0 yX0_set yX0_set]
def wsX1_tell_r2 : List Cond := [Cond.code yX0_set cX0_set 4 none, Cond.static yX4_put, Cond.code yX4_put cX4_put 3 none]
def wsX1_tell : List Cond := .code yX1_tell cX1_tell 6 (some .boolean) :: ((wsX1_tell_r1 ++ wsX1_tell_r2) ++ wsX10 ++ wsX00)
def wsX1_deny : List Cond := .code yX1_deny cX1_deny 6 (some .boolean) :: ([.fieldLink RX1 24 "LieBridges$Delta" "trusted" "[I", .static yX4_hasBit, .initialized RX4, .code yX4_hasBit cX4_hasBit 3 (some .boolean), .methodLink RX4 134 yX4_at, .static yX4_at, .code yX4_at cX4_at 2 (some .int), .methodLink RX1 67 yX0_of, .instanceMethod yX0_of, .selects RX0 yX0_of yX0_of, .initialized RX0, .code yX0_of cX0_of 4 (some .int), .fieldLink RX0 9 "LieBridges$Beliefs" "days" "[I", .methodLink RX1 55 yX0_set, .instanceMethod yX0_set, .selects RX0 yX0_set yX0_set, .code yX0_set cX0_set 4 none, .static yX4_put, .code yX4_put cX4_put 3 none] ++ wsX10 ++ wsX00)
def wsX4_within : List Cond := .code yX4_within cX4_within 3 (some .boolean) :: ([])
def wsX4_isPlank : List Cond := .code yX4_isPlank cX4_isPlank 1 (some .boolean) :: ([.methodLink RX4 79 yX4_within, .static yX4_within, .initialized RX4, .code yX4_within cX4_within 3 (some .boolean)])
def wsX1_across : List Cond := .code yX1_across cX1_across 3 (some .int) :: ([.fieldLink RX1 9 "LieBridges$Delta" "lessers" "[I", .fieldLink RX1 15 "LieBridges$Delta" "greaters" "[I", .static yX4_isPlank, .initialized RX4, .code yX4_isPlank cX4_isPlank 1 (some .boolean), .methodLink RX4 79 yX4_within, .static yX4_within, .code yX4_within cX4_within 3 (some .boolean), .static yX4_at, .code yX4_at cX4_at 2 (some .int)] ++ wsX10)
def wsX1_become : List Cond := .code yX1_become cX1_become 2 none :: ([.fieldLink RX1 9 "LieBridges$Delta" "lessers" "[I", .fieldLink RX1 15 "LieBridges$Delta" "greaters" "[I", .fieldLink RX1 18 "LieBridges$Delta" "layers" "[I", .fieldLink RX1 21 "LieBridges$Delta" "holds" "[I", .fieldLink RX1 24 "LieBridges$Delta" "trusted" "[I", .fieldLink RX1 27 "LieBridges$Delta" "known" "[I", .fieldLink RX1 30 "LieBridges$Delta" "sightPlanks" "[I", .fieldLink RX1 33 "LieBridges$Delta" "sightLoads" "[I", .fieldLink RX1 39 "LieBridges$Delta" "beliefs" "LLieBridges$Beliefs;", .fieldLink RX1 43 "LieBridges$Delta" "fadeDays" "I", .fieldLink RX1 91 "LieBridges$Delta" "sights" "I", .static yX4_copy, .initialized RX4, .code yX4_copy cX4_copy 3 none, .methodLink RX4 134 yX4_at, .static yX4_at, .code yX4_at cX4_at 2 (some .int), .methodLink RX1 87 yX0_become, .instanceMethod yX0_become, .selects RX0 yX0_become yX0_become, .initialized RX0, .code yX0_become cX0_become 2 none, .fieldLink RX0 9 "LieBridges$Beliefs" "days" "[I"] ++ wsX10 ++ wsX00)
def wsX2_init : List Cond := .code yX2_init cX2_init 1 none :: ([.methodLink RX2 3 objectInit, .instanceMethod objectInit, .code objectInit ⟨#[0xb1]⟩ 1 none, .arrayClass .int, .fieldLink RX2 9 "LieBridges$Pad" "signs" "[I", .fieldLink RX2 15 "LieBridges$Pad" "kinds" "[I", .fieldLink RX2 18 "LieBridges$Pad" "speakers" "[I", .fieldLink RX2 21 "LieBridges$Pad" "hearers" "[I", .fieldLink RX2 24 "LieBridges$Pad" "planks" "[I"] ++ wsX20)
def wsX2_add : List Cond := .code yX2_add cX2_add 2 (some .boolean) :: ([.fieldLink RX2 27 "LieBridges$Pad" "many" "I", .fieldLink RX2 9 "LieBridges$Pad" "signs" "[I", .static yX4_put, .initialized RX4, .code yX4_put cX4_put 3 none] ++ wsX20)
def wsX2_clear : List Cond := .code yX2_clear cX2_clear 1 none :: ([.fieldLink RX2 27 "LieBridges$Pad" "many" "I"] ++ wsX20)
def wsX2_takeDay : List Cond := .code yX2_takeDay cX2_takeDay 1 (some .int) :: ([.fieldLink RX2 15 "LieBridges$Pad" "kinds" "[I", .fieldLink RX2 35 "LieBridges$Pad" "parts" "I", .static yX4_put, .initialized RX4, .code yX4_put cX4_put 3 none] ++ wsX20)
def wsX4_isPerson : List Cond := .code yX4_isPerson cX4_isPerson 1 (some .boolean) :: ([.methodLink RX4 79 yX4_within, .static yX4_within, .initialized RX4, .code yX4_within cX4_within 3 (some .boolean)])
def wsX2_takeSpeaker : List Cond := .code yX2_takeSpeaker cX2_takeSpeaker 3 (some .int) :: ([.fieldLink RX2 38 "LieBridges$Pad" "asked" "I", .fieldLink RX2 15 "LieBridges$Pad" "kinds" "[I", .fieldLink RX2 35 "LieBridges$Pad" "parts" "I", .fieldLink RX2 18 "LieBridges$Pad" "speakers" "[I", .static yX4_isPerson, .initialized RX4, .code yX4_isPerson cX4_isPerson 1 (some .boolean), .methodLink RX4 79 yX4_within, .static yX4_within, .code yX4_within cX4_within 3 (some .boolean), .static yX4_put, .code yX4_put cX4_put 3 none] ++ wsX20)
def wsX2_takeHearer : List Cond := .code yX2_takeHearer cX2_takeHearer 2 (some .int) :: ([.fieldLink RX2 18 "LieBridges$Pad" "speakers" "[I", .fieldLink RX2 35 "LieBridges$Pad" "parts" "I", .fieldLink RX2 21 "LieBridges$Pad" "hearers" "[I", .static yX4_isPerson, .initialized RX4, .code yX4_isPerson cX4_isPerson 1 (some .boolean), .methodLink RX4 79 yX4_within, .static yX4_within, .code yX4_within cX4_within 3 (some .boolean), .static yX4_at, .code yX4_at cX4_at 2 (some .int), .static yX4_put, .code yX4_put cX4_put 3 none] ++ wsX20)
def wsX2_takeDenial : List Cond := .code yX2_takeDenial cX2_takeDenial 1 (some .int) :: ([.fieldLink RX2 15 "LieBridges$Pad" "kinds" "[I", .fieldLink RX2 35 "LieBridges$Pad" "parts" "I", .static yX4_put, .initialized RX4, .code yX4_put cX4_put 3 none] ++ wsX20)
def wsX2_takePlank : List Cond := .code yX2_takePlank cX2_takePlank 2 (some .int) :: ([.fieldLink RX2 24 "LieBridges$Pad" "planks" "[I", .fieldLink RX2 35 "LieBridges$Pad" "parts" "I", .static yX4_isPlank, .initialized RX4, .code yX4_isPlank cX4_isPlank 1 (some .boolean), .methodLink RX4 79 yX4_within, .static yX4_within, .code yX4_within cX4_within 3 (some .boolean), .static yX4_put, .code yX4_put cX4_put 3 none] ++ wsX20)
def wsX2_take_r1 : List Cond := [Cond.methodLink RX2 49 yX2_takeDay, Cond.instanceMethod yX2_takeDay, Cond.selects RX2 yX2_takeDay yX2_takeDay, Cond.initialized RX2, Cond.code yX2_takeDay cX2_takeDay 1 (some .int), Cond.fieldLink RX2 15 "LieBridges$Pad" "kinds" "[I", Cond.fieldLink RX2 35 "LieBridges$Pad" "parts" "I", Cond.static yX4_put, Cond.initialized RX4, Cond.code yX4_put cX4_put 3 none, Cond.methodLink RX2 53 yX2_takeSpeaker, Cond.instanceMethod yX2_takeSpeaker, Cond.selects RX2 yX2_takeSpeaker yX2_takeSpeaker, Cond.code yX2_takeSpeaker cX2_takeSpeaker 3 (some .int), Cond.fieldLink RX2 38 "LieBridges$Pad" "asked" "I", Cond.fieldLink RX2 18 "LieBridges$Pad" "speakers" "[I", Cond.static yX4_isPerson, Cond.code yX4_isPerson cX4_isPerson 1 (some .boolean), Cond.methodLink RX4 79 yX4_within, Cond.static yX4_within, Cond.code yX4_within cX4_within 3 (some .boolean), Cond.methodLink RX2 57 yX2_takeHearer, Cond.instanceMethod yX2_takeHearer, Cond.selects RX2 yX2_takeHearer yX2_takeHearer]
def wsX2_take_r2 : List Cond := [Cond.code yX2_takeHearer cX2_takeHearer 2 (some .int), Cond.fieldLink RX2 21 "LieBridges$Pad" "hearers" "[I", Cond.static yX4_at, Cond.code yX4_at cX4_at 2 (some .int), Cond.methodLink RX2 60 yX2_takeDenial, Cond.instanceMethod yX2_takeDenial, Cond.selects RX2 yX2_takeDenial yX2_takeDenial, Cond.code yX2_takeDenial cX2_takeDenial 1 (some .int), Cond.methodLink RX2 63 yX2_takePlank, Cond.instanceMethod yX2_takePlank, Cond.selects RX2 yX2_takePlank yX2_takePlank, Cond.code yX2_takePlank cX2_takePlank 2 (some .int), Cond.fieldLink RX2 24 "LieBridges$Pad" "planks" "[I", Cond.static yX4_isPlank, Cond.code yX4_isPlank cX4_isPlank 1 (some .boolean)]
def wsX2_take : List Cond := .code yX2_take cX2_take 3 (some .int) :: ((wsX2_take_r1 ++ wsX2_take_r2) ++ wsX20)
def wsX2_read_r1 : List Cond := [Cond.fieldLink RX2 35 "LieBridges$Pad" "parts" "I", Cond.fieldLink RX2 38 "LieBridges$Pad" "asked" "I", Cond.fieldLink RX2 27 "LieBridges$Pad" "many" "I", Cond.fieldLink RX2 9 "LieBridges$Pad" "signs" "[I", Cond.static yX4_at, Cond.initialized RX4, Cond.code yX4_at cX4_at 2 (some .int), Cond.methodLink RX2 45 yX2_take, Cond.instanceMethod yX2_take, Cond.selects RX2 yX2_take yX2_take, Cond.initialized RX2, Cond.code yX2_take cX2_take 3 (some .int), Cond.methodLink RX2 49 yX2_takeDay, Cond.instanceMethod yX2_takeDay, Cond.selects RX2 yX2_takeDay yX2_takeDay, Cond.code yX2_takeDay cX2_takeDay 1 (some .int), Cond.fieldLink RX2 15 "LieBridges$Pad" "kinds" "[I", Cond.static yX4_put, Cond.code yX4_put cX4_put 3 none, Cond.methodLink RX2 53 yX2_takeSpeaker, Cond.instanceMethod yX2_takeSpeaker, Cond.selects RX2 yX2_takeSpeaker yX2_takeSpeaker, Cond.code yX2_takeSpeaker cX2_takeSpeaker 3 (some .int), Cond.fieldLink RX2 18 "LieBridges$Pad" "speakers" "[I"]
def wsX2_read_r2 : List Cond := [Cond.static yX4_isPerson, Cond.code yX4_isPerson cX4_isPerson 1 (some .boolean), Cond.methodLink RX4 79 yX4_within, Cond.static yX4_within, Cond.code yX4_within cX4_within 3 (some .boolean), Cond.methodLink RX2 57 yX2_takeHearer, Cond.instanceMethod yX2_takeHearer, Cond.selects RX2 yX2_takeHearer yX2_takeHearer, Cond.code yX2_takeHearer cX2_takeHearer 2 (some .int), Cond.fieldLink RX2 21 "LieBridges$Pad" "hearers" "[I", Cond.methodLink RX2 60 yX2_takeDenial, Cond.instanceMethod yX2_takeDenial, Cond.selects RX2 yX2_takeDenial yX2_takeDenial, Cond.code yX2_takeDenial cX2_takeDenial 1 (some .int), Cond.methodLink RX2 63 yX2_takePlank, Cond.instanceMethod yX2_takePlank, Cond.selects RX2 yX2_takePlank yX2_takePlank, Cond.code yX2_takePlank cX2_takePlank 2 (some .int), Cond.fieldLink RX2 24 "LieBridges$Pad" "planks" "[I", Cond.static yX4_isPlank, Cond.code yX4_isPlank cX4_isPlank 1 (some .boolean)]
def wsX2_read : List Cond := .code yX2_read cX2_read 3 (some .int) :: ((wsX2_read_r1 ++ wsX2_read_r2) ++ wsX20)
def wsX3_init : List Cond := .code yX3_init cX3_init 1 none :: ([.methodLink RX3 3 objectInit, .instanceMethod objectInit, .code objectInit ⟨#[0xb1]⟩ 1 none, .arrayClass .int, .fieldLink RX3 9 "LieBridges$Ways" "weights" "[I", .fieldLink RX3 15 "LieBridges$Ways" "trodden" "[I", .fieldLink RX3 18 "LieBridges$Ways" "best" "[I"] ++ wsX30)
def wsX3_weigh : List Cond := .code yX3_weigh cX3_weigh 3 none :: ([.fieldLink RX3 9 "LieBridges$Ways" "weights" "[I", .static yX4_put, .initialized RX4, .code yX4_put cX4_put 3 none] ++ wsX30)
def wsX3_found : List Cond := .code yX3_found cX3_found 1 (some .boolean) :: ([.fieldLink RX3 35 "LieBridges$Ways" "length" "I"] ++ wsX30)
def wsX3_keepIfBetter : List Cond := .code yX3_keepIfBetter cX3_keepIfBetter 4 none :: ([.fieldLink RX3 46 "LieBridges$Ways" "worth" "J", .fieldLink RX3 35 "LieBridges$Ways" "length" "I", .fieldLink RX3 15 "LieBridges$Ways" "trodden" "[I", .fieldLink RX3 18 "LieBridges$Ways" "best" "[I", .methodLink RX3 70 yX3_found, .instanceMethod yX3_found, .selects RX3 yX3_found yX3_found, .initialized RX3, .code yX3_found cX3_found 1 (some .boolean), .static yX4_copy, .initialized RX4, .code yX4_copy cX4_copy 3 none, .methodLink RX4 134 yX4_at, .static yX4_at, .code yX4_at cX4_at 2 (some .int)] ++ wsX30)
def wsX3_tread_r1 : List Cond := [Cond.fieldLink RX3 9 "LieBridges$Ways" "weights" "[I", Cond.fieldLink RX3 15 "LieBridges$Ways" "trodden" "[I", Cond.fieldLink RX3 25 "LieBridges$Ways" "likeliest" "Z", Cond.constantLong RX3 68 (10), Cond.methodLink RX3 62 yX1_across, Cond.instanceMethod yX1_across, Cond.selects RX1 yX1_across yX1_across, Cond.initialized RX1, Cond.code yX1_across cX1_across 3 (some .int), Cond.fieldLink RX1 9 "LieBridges$Delta" "lessers" "[I", Cond.fieldLink RX1 15 "LieBridges$Delta" "greaters" "[I", Cond.static yX4_isPlank, Cond.initialized RX4, Cond.code yX4_isPlank cX4_isPlank 1 (some .boolean), Cond.methodLink RX4 79 yX4_within, Cond.static yX4_within, Cond.code yX4_within cX4_within 3 (some .boolean), Cond.static yX4_at, Cond.code yX4_at cX4_at 2 (some .int), Cond.static yX4_put, Cond.code yX4_put cX4_put 3 none, Cond.methodLink RX3 50 yX3_walk, Cond.instanceMethod yX3_walk, Cond.selects RX3 yX3_walk yX3_walk]
def wsX3_tread_r2 : List Cond := [Cond.initialized RX3, Cond.code yX3_walk cX3_walk 8 none, Cond.fieldLink RX3 43 "LieBridges$Ways" "goal" "I", Cond.methodLink RX3 54 yX3_keepIfBetter, Cond.instanceMethod yX3_keepIfBetter, Cond.selects RX3 yX3_keepIfBetter yX3_keepIfBetter, Cond.code yX3_keepIfBetter cX3_keepIfBetter 4 none, Cond.fieldLink RX3 46 "LieBridges$Ways" "worth" "J", Cond.fieldLink RX3 35 "LieBridges$Ways" "length" "I", Cond.fieldLink RX3 18 "LieBridges$Ways" "best" "[I", Cond.methodLink RX3 70 yX3_found, Cond.instanceMethod yX3_found, Cond.selects RX3 yX3_found yX3_found, Cond.code yX3_found cX3_found 1 (some .boolean), Cond.static yX4_copy, Cond.code yX4_copy cX4_copy 3 none, Cond.methodLink RX4 134 yX4_at, Cond.methodLink RX3 58 yX3_tread, Cond.instanceMethod yX3_tread, Cond.selects RX3 yX3_tread yX3_tread]
def wsX3_tread : List Cond := .code yX3_tread cX3_tread 12 none :: ((wsX3_tread_r1 ++ wsX3_tread_r2) ++ wsX30 ++ wsX10)
def wsX3_walk_r1 : List Cond := [Cond.fieldLink RX3 43 "LieBridges$Ways" "goal" "I", Cond.methodLink RX3 54 yX3_keepIfBetter, Cond.instanceMethod yX3_keepIfBetter, Cond.selects RX3 yX3_keepIfBetter yX3_keepIfBetter, Cond.initialized RX3, Cond.code yX3_keepIfBetter cX3_keepIfBetter 4 none, Cond.fieldLink RX3 46 "LieBridges$Ways" "worth" "J", Cond.fieldLink RX3 35 "LieBridges$Ways" "length" "I", Cond.fieldLink RX3 15 "LieBridges$Ways" "trodden" "[I", Cond.fieldLink RX3 18 "LieBridges$Ways" "best" "[I", Cond.methodLink RX3 70 yX3_found, Cond.instanceMethod yX3_found, Cond.selects RX3 yX3_found yX3_found, Cond.code yX3_found cX3_found 1 (some .boolean), Cond.static yX4_copy, Cond.initialized RX4, Cond.code yX4_copy cX4_copy 3 none, Cond.methodLink RX4 134 yX4_at, Cond.static yX4_at, Cond.code yX4_at cX4_at 2 (some .int), Cond.methodLink RX3 58 yX3_tread, Cond.instanceMethod yX3_tread, Cond.selects RX3 yX3_tread yX3_tread, Cond.code yX3_tread cX3_tread 12 none]
def wsX3_walk_r2 : List Cond := [Cond.fieldLink RX3 9 "LieBridges$Ways" "weights" "[I", Cond.fieldLink RX3 25 "LieBridges$Ways" "likeliest" "Z", Cond.constantLong RX3 68 (10), Cond.methodLink RX3 62 yX1_across, Cond.instanceMethod yX1_across, Cond.selects RX1 yX1_across yX1_across, Cond.initialized RX1, Cond.code yX1_across cX1_across 3 (some .int), Cond.fieldLink RX1 9 "LieBridges$Delta" "lessers" "[I", Cond.fieldLink RX1 15 "LieBridges$Delta" "greaters" "[I", Cond.static yX4_isPlank, Cond.code yX4_isPlank cX4_isPlank 1 (some .boolean), Cond.methodLink RX4 79 yX4_within, Cond.static yX4_within, Cond.code yX4_within cX4_within 3 (some .boolean), Cond.static yX4_put, Cond.code yX4_put cX4_put 3 none, Cond.methodLink RX3 50 yX3_walk, Cond.instanceMethod yX3_walk, Cond.selects RX3 yX3_walk yX3_walk]
def wsX3_walk : List Cond := .code yX3_walk cX3_walk 8 none :: ((wsX3_walk_r1 ++ wsX3_walk_r2) ++ wsX30 ++ wsX10)
def wsX3_find_r1 : List Cond := [Cond.fieldLink RX3 43 "LieBridges$Ways" "goal" "I", Cond.fieldLink RX3 35 "LieBridges$Ways" "length" "I", Cond.fieldLink RX3 46 "LieBridges$Ways" "worth" "J", Cond.methodLink RX3 50 yX3_walk, Cond.instanceMethod yX3_walk, Cond.selects RX3 yX3_walk yX3_walk, Cond.initialized RX3, Cond.code yX3_walk cX3_walk 8 none, Cond.methodLink RX3 54 yX3_keepIfBetter, Cond.instanceMethod yX3_keepIfBetter, Cond.selects RX3 yX3_keepIfBetter yX3_keepIfBetter, Cond.code yX3_keepIfBetter cX3_keepIfBetter 4 none, Cond.fieldLink RX3 15 "LieBridges$Ways" "trodden" "[I", Cond.fieldLink RX3 18 "LieBridges$Ways" "best" "[I", Cond.methodLink RX3 70 yX3_found, Cond.instanceMethod yX3_found, Cond.selects RX3 yX3_found yX3_found, Cond.code yX3_found cX3_found 1 (some .boolean), Cond.static yX4_copy, Cond.initialized RX4, Cond.code yX4_copy cX4_copy 3 none, Cond.methodLink RX4 134 yX4_at, Cond.static yX4_at, Cond.code yX4_at cX4_at 2 (some .int)]
def wsX3_find_r2 : List Cond := [Cond.methodLink RX3 58 yX3_tread, Cond.instanceMethod yX3_tread, Cond.selects RX3 yX3_tread yX3_tread, Cond.code yX3_tread cX3_tread 12 none, Cond.fieldLink RX3 9 "LieBridges$Ways" "weights" "[I", Cond.fieldLink RX3 25 "LieBridges$Ways" "likeliest" "Z", Cond.constantLong RX3 68 (10), Cond.methodLink RX3 62 yX1_across, Cond.instanceMethod yX1_across, Cond.selects RX1 yX1_across yX1_across, Cond.initialized RX1, Cond.code yX1_across cX1_across 3 (some .int), Cond.fieldLink RX1 9 "LieBridges$Delta" "lessers" "[I", Cond.fieldLink RX1 15 "LieBridges$Delta" "greaters" "[I", Cond.static yX4_isPlank, Cond.code yX4_isPlank cX4_isPlank 1 (some .boolean), Cond.methodLink RX4 79 yX4_within, Cond.static yX4_within, Cond.code yX4_within cX4_within 3 (some .boolean), Cond.static yX4_put, Cond.code yX4_put cX4_put 3 none]
def wsX3_find : List Cond := .code yX3_find cX3_find 6 none :: ((wsX3_find_r1 ++ wsX3_find_r2) ++ wsX30 ++ wsX10)
def wsX3_findCheapest_r1 : List Cond := [Cond.fieldLink RX3 25 "LieBridges$Ways" "likeliest" "Z", Cond.methodLink RX3 29 yX3_find, Cond.instanceMethod yX3_find, Cond.selects RX3 yX3_find yX3_find, Cond.initialized RX3, Cond.code yX3_find cX3_find 6 none, Cond.fieldLink RX3 43 "LieBridges$Ways" "goal" "I", Cond.fieldLink RX3 35 "LieBridges$Ways" "length" "I", Cond.fieldLink RX3 46 "LieBridges$Ways" "worth" "J", Cond.methodLink RX3 50 yX3_walk, Cond.instanceMethod yX3_walk, Cond.selects RX3 yX3_walk yX3_walk, Cond.code yX3_walk cX3_walk 8 none, Cond.methodLink RX3 54 yX3_keepIfBetter, Cond.instanceMethod yX3_keepIfBetter, Cond.selects RX3 yX3_keepIfBetter yX3_keepIfBetter, Cond.code yX3_keepIfBetter cX3_keepIfBetter 4 none, Cond.fieldLink RX3 15 "LieBridges$Ways" "trodden" "[I", Cond.fieldLink RX3 18 "LieBridges$Ways" "best" "[I", Cond.methodLink RX3 70 yX3_found, Cond.instanceMethod yX3_found, Cond.selects RX3 yX3_found yX3_found, Cond.code yX3_found cX3_found 1 (some .boolean), Cond.static yX4_copy]
def wsX3_findCheapest_r2 : List Cond := [Cond.initialized RX4, Cond.code yX4_copy cX4_copy 3 none, Cond.methodLink RX4 134 yX4_at, Cond.static yX4_at, Cond.code yX4_at cX4_at 2 (some .int), Cond.methodLink RX3 58 yX3_tread, Cond.instanceMethod yX3_tread, Cond.selects RX3 yX3_tread yX3_tread, Cond.code yX3_tread cX3_tread 12 none, Cond.fieldLink RX3 9 "LieBridges$Ways" "weights" "[I", Cond.constantLong RX3 68 (10), Cond.methodLink RX3 62 yX1_across, Cond.instanceMethod yX1_across, Cond.selects RX1 yX1_across yX1_across, Cond.initialized RX1, Cond.code yX1_across cX1_across 3 (some .int), Cond.fieldLink RX1 9 "LieBridges$Delta" "lessers" "[I", Cond.fieldLink RX1 15 "LieBridges$Delta" "greaters" "[I", Cond.static yX4_isPlank, Cond.code yX4_isPlank cX4_isPlank 1 (some .boolean), Cond.methodLink RX4 79 yX4_within, Cond.static yX4_within, Cond.code yX4_within cX4_within 3 (some .boolean), Cond.static yX4_put]
def wsX3_findCheapest_r3 : List Cond := [Cond.code yX4_put cX4_put 3 none]
def wsX3_findCheapest : List Cond := .code yX3_findCheapest cX3_findCheapest 4 none :: ((wsX3_findCheapest_r1 ++ (wsX3_findCheapest_r2 ++ wsX3_findCheapest_r3)) ++ wsX30 ++ wsX10)
def wsX3_findLikeliest_r1 : List Cond := [Cond.fieldLink RX3 25 "LieBridges$Ways" "likeliest" "Z", Cond.constantLong RX3 33 (1000000), Cond.methodLink RX3 29 yX3_find, Cond.instanceMethod yX3_find, Cond.selects RX3 yX3_find yX3_find, Cond.initialized RX3, Cond.code yX3_find cX3_find 6 none, Cond.fieldLink RX3 43 "LieBridges$Ways" "goal" "I", Cond.fieldLink RX3 35 "LieBridges$Ways" "length" "I", Cond.fieldLink RX3 46 "LieBridges$Ways" "worth" "J", Cond.methodLink RX3 50 yX3_walk, Cond.instanceMethod yX3_walk, Cond.selects RX3 yX3_walk yX3_walk, Cond.code yX3_walk cX3_walk 8 none, Cond.methodLink RX3 54 yX3_keepIfBetter, Cond.instanceMethod yX3_keepIfBetter, Cond.selects RX3 yX3_keepIfBetter yX3_keepIfBetter, Cond.code yX3_keepIfBetter cX3_keepIfBetter 4 none, Cond.fieldLink RX3 15 "LieBridges$Ways" "trodden" "[I", Cond.fieldLink RX3 18 "LieBridges$Ways" "best" "[I", Cond.methodLink RX3 70 yX3_found, Cond.instanceMethod yX3_found, Cond.selects RX3 yX3_found yX3_found, Cond.code yX3_found cX3_found 1 (some .boolean)]
def wsX3_findLikeliest_r2 : List Cond := [Cond.static yX4_copy, Cond.initialized RX4, Cond.code yX4_copy cX4_copy 3 none, Cond.methodLink RX4 134 yX4_at, Cond.static yX4_at, Cond.code yX4_at cX4_at 2 (some .int), Cond.methodLink RX3 58 yX3_tread, Cond.instanceMethod yX3_tread, Cond.selects RX3 yX3_tread yX3_tread, Cond.code yX3_tread cX3_tread 12 none, Cond.fieldLink RX3 9 "LieBridges$Ways" "weights" "[I", Cond.constantLong RX3 68 (10), Cond.methodLink RX3 62 yX1_across, Cond.instanceMethod yX1_across, Cond.selects RX1 yX1_across yX1_across, Cond.initialized RX1, Cond.code yX1_across cX1_across 3 (some .int), Cond.fieldLink RX1 9 "LieBridges$Delta" "lessers" "[I", Cond.fieldLink RX1 15 "LieBridges$Delta" "greaters" "[I", Cond.static yX4_isPlank, Cond.code yX4_isPlank cX4_isPlank 1 (some .boolean), Cond.methodLink RX4 79 yX4_within, Cond.static yX4_within, Cond.code yX4_within cX4_within 3 (some .boolean)]
def wsX3_findLikeliest_r3 : List Cond := [Cond.static yX4_put, Cond.code yX4_put cX4_put 3 none]
def wsX3_findLikeliest : List Cond := .code yX3_findLikeliest cX3_findLikeliest 4 none :: ((wsX3_findLikeliest_r1 ++ (wsX3_findLikeliest_r2 ++ wsX3_findLikeliest_r3)) ++ wsX30 ++ wsX10)
def wsX3_step : List Cond := .code yX3_step cX3_step 2 (some .int) :: ([.fieldLink RX3 35 "LieBridges$Ways" "length" "I", .fieldLink RX3 18 "LieBridges$Ways" "best" "[I", .static yX4_at, .initialized RX4, .code yX4_at cX4_at 2 (some .int)] ++ wsX30)
def wsX4_init_r1 : List Cond := [Cond.methodLink RX4 1 objectInit, Cond.instanceMethod objectInit, Cond.code objectInit ⟨#[0xb1]⟩ 1 none, Cond.classLink RX4 7 RX1, Cond.instantiable RX1 11, Cond.initialized RX1, Cond.fieldLink RX4 10 "LieBridges" "now" "LLieBridges$Delta;", Cond.fieldLink RX4 16 "LieBridges" "images" "[LLieBridges$Delta;", Cond.classLink RX4 20 RX2, Cond.instantiable RX2 8, Cond.initialized RX2, Cond.fieldLink RX4 23 "LieBridges" "pad" "LLieBridges$Pad;", Cond.classLink RX4 27 RX3, Cond.instantiable RX3 7, Cond.initialized RX3, Cond.fieldLink RX4 30 "LieBridges" "ways" "LLieBridges$Ways;", Cond.classLink RX4 34 RX0, Cond.instantiable RX0 1, Cond.initialized RX0, Cond.fieldLink RX4 37 "LieBridges" "trial" "LLieBridges$Beliefs;", Cond.arrayClass .int, Cond.fieldLink RX4 41 "LieBridges" "guesses" "[I", Cond.fieldLink RX4 45 "LieBridges" "route" "[I", Cond.methodLink RX4 9 yX1_init]
def wsX4_init_r2 : List Cond := [Cond.instanceMethod yX1_init, Cond.code yX1_init cX1_init 2 none, Cond.methodLink RX1 3 objectInit, Cond.fieldLink RX1 9 "LieBridges$Delta" "lessers" "[I", Cond.fieldLink RX1 15 "LieBridges$Delta" "greaters" "[I", Cond.fieldLink RX1 18 "LieBridges$Delta" "layers" "[I", Cond.fieldLink RX1 21 "LieBridges$Delta" "holds" "[I", Cond.fieldLink RX1 24 "LieBridges$Delta" "trusted" "[I", Cond.fieldLink RX1 27 "LieBridges$Delta" "known" "[I", Cond.fieldLink RX1 30 "LieBridges$Delta" "sightPlanks" "[I", Cond.fieldLink RX1 33 "LieBridges$Delta" "sightLoads" "[I", Cond.classLink RX1 36 RX0, Cond.fieldLink RX1 39 "LieBridges$Delta" "beliefs" "LLieBridges$Beliefs;", Cond.fieldLink RX1 43 "LieBridges$Delta" "fadeDays" "I", Cond.instanceMethod yX0_init, Cond.code yX0_init cX0_init 1 none, Cond.methodLink RX0 3 objectInit, Cond.fieldLink RX0 9 "LieBridges$Beliefs" "days" "[I", Cond.methodLink RX1 47 yX1_lay, Cond.instanceMethod yX1_lay, Cond.selects RX1 yX1_lay yX1_lay, Cond.code yX1_lay cX1_lay 6 none, Cond.static yX4_put, Cond.initialized RX4]
def wsX4_init_r3 : List Cond := [Cond.code yX4_put cX4_put 3 none, Cond.methodLink RX1 55 yX0_set, Cond.instanceMethod yX0_set, Cond.selects RX0 yX0_set yX0_set, Cond.code yX0_set cX0_set 4 none, Cond.static yX4_putBit, Cond.code yX4_putBit cX4_putBit 5 none, Cond.methodLink RX4 134 yX4_at, Cond.static yX4_at, Cond.code yX4_at cX4_at 2 (some .int), Cond.methodLink RX4 189 yX4_put, Cond.instanceMethod yX2_init, Cond.code yX2_init cX2_init 1 none, Cond.methodLink RX2 3 objectInit, Cond.fieldLink RX2 9 "LieBridges$Pad" "signs" "[I", Cond.fieldLink RX2 15 "LieBridges$Pad" "kinds" "[I", Cond.fieldLink RX2 18 "LieBridges$Pad" "speakers" "[I", Cond.fieldLink RX2 21 "LieBridges$Pad" "hearers" "[I", Cond.fieldLink RX2 24 "LieBridges$Pad" "planks" "[I", Cond.instanceMethod yX3_init, Cond.code yX3_init cX3_init 1 none, Cond.methodLink RX3 3 objectInit, Cond.fieldLink RX3 9 "LieBridges$Ways" "weights" "[I", Cond.fieldLink RX3 15 "LieBridges$Ways" "trodden" "[I"]
def wsX4_init_r4 : List Cond := [Cond.fieldLink RX3 18 "LieBridges$Ways" "best" "[I"]
def wsX4_init : List Cond := .code yX4_init cX4_init 1 none :: ((wsX4_init_r1 ++ (wsX4_init_r2 ++ (wsX4_init_r3 ++ wsX4_init_r4))) ++ wsX10 ++ wsX40 ++ wsX20 ++ wsX30 ++ wsX00)
def wsX4_isIsland : List Cond := .code yX4_isIsland cX4_isIsland 1 (some .boolean) :: ([.methodLink RX4 79 yX4_within, .static yX4_within, .initialized RX4, .code yX4_within cX4_within 3 (some .boolean)])
def wsX4_plank_r1 : List Cond := [Cond.fieldLink RX4 10 "LieBridges" "now" "LLieBridges$Delta;", Cond.methodLink RX4 48 yX4_isPlank, Cond.static yX4_isPlank, Cond.initialized RX4, Cond.code yX4_isPlank cX4_isPlank 1 (some .boolean), Cond.methodLink RX4 79 yX4_within, Cond.static yX4_within, Cond.code yX4_within cX4_within 3 (some .boolean), Cond.methodLink RX4 52 yX4_isIsland, Cond.static yX4_isIsland, Cond.code yX4_isIsland cX4_isIsland 1 (some .boolean), Cond.methodLink RX4 55 yX4_isPerson, Cond.static yX4_isPerson, Cond.code yX4_isPerson cX4_isPerson 1 (some .boolean), Cond.methodLink RX4 58 yX1_lay, Cond.instanceMethod yX1_lay, Cond.selects RX1 yX1_lay yX1_lay, Cond.initialized RX1, Cond.code yX1_lay cX1_lay 6 none, Cond.fieldLink RX1 9 "LieBridges$Delta" "lessers" "[I", Cond.fieldLink RX1 15 "LieBridges$Delta" "greaters" "[I", Cond.fieldLink RX1 18 "LieBridges$Delta" "layers" "[I", Cond.fieldLink RX1 39 "LieBridges$Delta" "beliefs" "LLieBridges$Beliefs;", Cond.fieldLink RX1 27 "LieBridges$Delta" "known" "[I"]
def wsX4_plank_r2 : List Cond := [Cond.static yX4_put, Cond.code yX4_put cX4_put 3 none, Cond.methodLink RX1 55 yX0_set, Cond.instanceMethod yX0_set, Cond.selects RX0 yX0_set yX0_set, Cond.initialized RX0, Cond.code yX0_set cX0_set 4 none, Cond.fieldLink RX0 9 "LieBridges$Beliefs" "days" "[I", Cond.static yX4_putBit, Cond.code yX4_putBit cX4_putBit 5 none, Cond.methodLink RX4 134 yX4_at, Cond.static yX4_at, Cond.code yX4_at cX4_at 2 (some .int), Cond.methodLink RX4 189 yX4_put]
def wsX4_plank : List Cond := .code yX4_plank cX4_plank 5 (some .int) :: ((wsX4_plank_r1 ++ wsX4_plank_r2) ++ wsX40 ++ wsX10 ++ wsX00)
def wsX4_trust : List Cond := .code yX4_trust cX4_trust 4 (some .int) :: ([.fieldLink RX4 10 "LieBridges" "now" "LLieBridges$Delta;", .fieldLink RX4 62 "LieBridges$Delta" "trusted" "[I", .methodLink RX4 55 yX4_isPerson, .static yX4_isPerson, .initialized RX4, .code yX4_isPerson cX4_isPerson 1 (some .boolean), .methodLink RX4 79 yX4_within, .static yX4_within, .code yX4_within cX4_within 3 (some .boolean), .methodLink RX4 65 yX4_putBit, .static yX4_putBit, .code yX4_putBit cX4_putBit 5 none, .methodLink RX4 134 yX4_at, .static yX4_at, .code yX4_at cX4_at 2 (some .int), .methodLink RX4 189 yX4_put, .static yX4_put, .code yX4_put cX4_put 3 none] ++ wsX40 ++ wsX10)
def wsX4_know_r1 : List Cond := [Cond.fieldLink RX4 10 "LieBridges" "now" "LLieBridges$Delta;", Cond.fieldLink RX4 69 "LieBridges$Delta" "known" "[I", Cond.fieldLink RX4 72 "LieBridges$Delta" "beliefs" "LLieBridges$Beliefs;", Cond.methodLink RX4 55 yX4_isPerson, Cond.static yX4_isPerson, Cond.initialized RX4, Cond.code yX4_isPerson cX4_isPerson 1 (some .boolean), Cond.methodLink RX4 79 yX4_within, Cond.static yX4_within, Cond.code yX4_within cX4_within 3 (some .boolean), Cond.methodLink RX4 48 yX4_isPlank, Cond.static yX4_isPlank, Cond.code yX4_isPlank cX4_isPlank 1 (some .boolean), Cond.methodLink RX4 65 yX4_putBit, Cond.static yX4_putBit, Cond.code yX4_putBit cX4_putBit 5 none, Cond.methodLink RX4 134 yX4_at, Cond.static yX4_at, Cond.code yX4_at cX4_at 2 (some .int), Cond.methodLink RX4 189 yX4_put, Cond.static yX4_put, Cond.code yX4_put cX4_put 3 none, Cond.methodLink RX4 75 yX0_set, Cond.instanceMethod yX0_set]
def wsX4_know_r2 : List Cond := [Cond.selects RX0 yX0_set yX0_set, Cond.initialized RX0, Cond.code yX0_set cX0_set 4 none, Cond.fieldLink RX0 9 "LieBridges$Beliefs" "days" "[I"]
def wsX4_know : List Cond := .code yX4_know cX4_know 4 (some .int) :: ((wsX4_know_r1 ++ wsX4_know_r2) ++ wsX40 ++ wsX10 ++ wsX00)
def wsX4_fade : List Cond := .code yX4_fade cX4_fade 3 (some .int) :: ([.fieldLink RX4 10 "LieBridges" "now" "LLieBridges$Delta;", .fieldLink RX4 83 "LieBridges$Delta" "fadeDays" "I", .methodLink RX4 79 yX4_within, .static yX4_within, .initialized RX4, .code yX4_within cX4_within 3 (some .boolean)] ++ wsX40 ++ wsX10)
def wsX4_say : List Cond := .code yX4_say cX4_say 2 (some .int) :: ([.fieldLink RX4 23 "LieBridges" "pad" "LLieBridges$Pad;", .fieldLink RX4 90 "LieBridges$Pad" "many" "I", .methodLink RX4 79 yX4_within, .static yX4_within, .initialized RX4, .code yX4_within cX4_within 3 (some .boolean), .methodLink RX4 87 yX2_add, .instanceMethod yX2_add, .selects RX2 yX2_add yX2_add, .initialized RX2, .code yX2_add cX2_add 2 (some .boolean), .fieldLink RX2 27 "LieBridges$Pad" "many" "I", .fieldLink RX2 9 "LieBridges$Pad" "signs" "[I", .static yX4_put, .code yX4_put cX4_put 3 none] ++ wsX40 ++ wsX20)
def wsX4_wipe : List Cond := .code yX4_wipe cX4_wipe 2 (some .int) :: ([.fieldLink RX4 23 "LieBridges" "pad" "LLieBridges$Pad;", .fieldLink RX4 90 "LieBridges$Pad" "many" "I", .methodLink RX4 93 yX2_clear, .instanceMethod yX2_clear, .selects RX2 yX2_clear yX2_clear, .initialized RX2, .code yX2_clear cX2_clear 1 none, .fieldLink RX2 27 "LieBridges$Pad" "many" "I"] ++ wsX40 ++ wsX20)
def wsX4_fault_r1 : List Cond := [Cond.fieldLink RX4 23 "LieBridges" "pad" "LLieBridges$Pad;", Cond.methodLink RX4 96 yX2_read, Cond.instanceMethod yX2_read, Cond.selects RX2 yX2_read yX2_read, Cond.initialized RX2, Cond.code yX2_read cX2_read 3 (some .int), Cond.fieldLink RX2 35 "LieBridges$Pad" "parts" "I", Cond.fieldLink RX2 38 "LieBridges$Pad" "asked" "I", Cond.fieldLink RX2 27 "LieBridges$Pad" "many" "I", Cond.fieldLink RX2 9 "LieBridges$Pad" "signs" "[I", Cond.static yX4_at, Cond.initialized RX4, Cond.code yX4_at cX4_at 2 (some .int), Cond.methodLink RX2 45 yX2_take, Cond.instanceMethod yX2_take, Cond.selects RX2 yX2_take yX2_take, Cond.code yX2_take cX2_take 3 (some .int), Cond.methodLink RX2 49 yX2_takeDay, Cond.instanceMethod yX2_takeDay, Cond.selects RX2 yX2_takeDay yX2_takeDay, Cond.code yX2_takeDay cX2_takeDay 1 (some .int), Cond.fieldLink RX2 15 "LieBridges$Pad" "kinds" "[I", Cond.static yX4_put, Cond.code yX4_put cX4_put 3 none]
def wsX4_fault_r2 : List Cond := [Cond.methodLink RX2 53 yX2_takeSpeaker, Cond.instanceMethod yX2_takeSpeaker, Cond.selects RX2 yX2_takeSpeaker yX2_takeSpeaker, Cond.code yX2_takeSpeaker cX2_takeSpeaker 3 (some .int), Cond.fieldLink RX2 18 "LieBridges$Pad" "speakers" "[I", Cond.static yX4_isPerson, Cond.code yX4_isPerson cX4_isPerson 1 (some .boolean), Cond.methodLink RX4 79 yX4_within, Cond.static yX4_within, Cond.code yX4_within cX4_within 3 (some .boolean), Cond.methodLink RX2 57 yX2_takeHearer, Cond.instanceMethod yX2_takeHearer, Cond.selects RX2 yX2_takeHearer yX2_takeHearer, Cond.code yX2_takeHearer cX2_takeHearer 2 (some .int), Cond.fieldLink RX2 21 "LieBridges$Pad" "hearers" "[I", Cond.methodLink RX2 60 yX2_takeDenial, Cond.instanceMethod yX2_takeDenial, Cond.selects RX2 yX2_takeDenial yX2_takeDenial, Cond.code yX2_takeDenial cX2_takeDenial 1 (some .int), Cond.methodLink RX2 63 yX2_takePlank, Cond.instanceMethod yX2_takePlank, Cond.selects RX2 yX2_takePlank yX2_takePlank, Cond.code yX2_takePlank cX2_takePlank 2 (some .int), Cond.fieldLink RX2 24 "LieBridges$Pad" "planks" "[I"]
def wsX4_fault_r3 : List Cond := [Cond.static yX4_isPlank, Cond.code yX4_isPlank cX4_isPlank 1 (some .boolean)]
def wsX4_fault : List Cond := .code yX4_fault cX4_fault 1 (some .int) :: ((wsX4_fault_r1 ++ (wsX4_fault_r2 ++ wsX4_fault_r3)) ++ wsX40 ++ wsX20)
def wsX4_refusalOfText_r1 : List Cond := [Cond.fieldLink RX4 23 "LieBridges" "pad" "LLieBridges$Pad;", Cond.fieldLink RX4 215 "LieBridges$Pad" "asked" "I", Cond.methodLink RX4 96 yX2_read, Cond.instanceMethod yX2_read, Cond.selects RX2 yX2_read yX2_read, Cond.initialized RX2, Cond.code yX2_read cX2_read 3 (some .int), Cond.fieldLink RX2 35 "LieBridges$Pad" "parts" "I", Cond.fieldLink RX2 38 "LieBridges$Pad" "asked" "I", Cond.fieldLink RX2 27 "LieBridges$Pad" "many" "I", Cond.fieldLink RX2 9 "LieBridges$Pad" "signs" "[I", Cond.static yX4_at, Cond.initialized RX4, Cond.code yX4_at cX4_at 2 (some .int), Cond.methodLink RX2 45 yX2_take, Cond.instanceMethod yX2_take, Cond.selects RX2 yX2_take yX2_take, Cond.code yX2_take cX2_take 3 (some .int), Cond.methodLink RX2 49 yX2_takeDay, Cond.instanceMethod yX2_takeDay, Cond.selects RX2 yX2_takeDay yX2_takeDay, Cond.code yX2_takeDay cX2_takeDay 1 (some .int), Cond.fieldLink RX2 15 "LieBridges$Pad" "kinds" "[I", Cond.static yX4_put]
def wsX4_refusalOfText_r2 : List Cond := [Cond.code yX4_put cX4_put 3 none, Cond.methodLink RX2 53 yX2_takeSpeaker, Cond.instanceMethod yX2_takeSpeaker, Cond.selects RX2 yX2_takeSpeaker yX2_takeSpeaker, Cond.code yX2_takeSpeaker cX2_takeSpeaker 3 (some .int), Cond.fieldLink RX2 18 "LieBridges$Pad" "speakers" "[I", Cond.static yX4_isPerson, Cond.code yX4_isPerson cX4_isPerson 1 (some .boolean), Cond.methodLink RX4 79 yX4_within, Cond.static yX4_within, Cond.code yX4_within cX4_within 3 (some .boolean), Cond.methodLink RX2 57 yX2_takeHearer, Cond.instanceMethod yX2_takeHearer, Cond.selects RX2 yX2_takeHearer yX2_takeHearer, Cond.code yX2_takeHearer cX2_takeHearer 2 (some .int), Cond.fieldLink RX2 21 "LieBridges$Pad" "hearers" "[I", Cond.methodLink RX2 60 yX2_takeDenial, Cond.instanceMethod yX2_takeDenial, Cond.selects RX2 yX2_takeDenial yX2_takeDenial, Cond.code yX2_takeDenial cX2_takeDenial 1 (some .int), Cond.methodLink RX2 63 yX2_takePlank, Cond.instanceMethod yX2_takePlank, Cond.selects RX2 yX2_takePlank yX2_takePlank, Cond.code yX2_takePlank cX2_takePlank 2 (some .int)]
def wsX4_refusalOfText_r3 : List Cond := [Cond.fieldLink RX2 24 "LieBridges$Pad" "planks" "[I", Cond.static yX4_isPlank, Cond.code yX4_isPlank cX4_isPlank 1 (some .boolean)]
def wsX4_refusalOfText : List Cond := .code yX4_refusalOfText cX4_refusalOfText 1 (some .int) :: ((wsX4_refusalOfText_r1 ++ (wsX4_refusalOfText_r2 ++ wsX4_refusalOfText_r3)) ++ wsX40 ++ wsX20)
def wsX4_takesEffect_r1 : List Cond := [Cond.fieldLink RX4 23 "LieBridges" "pad" "LLieBridges$Pad;", Cond.fieldLink RX4 245 "LieBridges$Pad" "kinds" "[I", Cond.fieldLink RX4 248 "LieBridges$Pad" "speakers" "[I", Cond.fieldLink RX4 41 "LieBridges" "guesses" "[I", Cond.fieldLink RX4 251 "LieBridges$Pad" "hearers" "[I", Cond.fieldLink RX4 254 "LieBridges$Pad" "planks" "[I", Cond.fieldLink RX4 10 "LieBridges" "now" "LLieBridges$Delta;", Cond.methodLink RX4 134 yX4_at, Cond.static yX4_at, Cond.initialized RX4, Cond.code yX4_at cX4_at 2 (some .int), Cond.methodLink RX4 179 yX0_fadeADay, Cond.instanceMethod yX0_fadeADay, Cond.selects RX0 yX0_fadeADay yX0_fadeADay, Cond.initialized RX0, Cond.code yX0_fadeADay cX0_fadeADay 2 none, Cond.fieldLink RX0 9 "LieBridges$Beliefs" "days" "[I", Cond.methodLink RX4 226 yX1_tell, Cond.instanceMethod yX1_tell, Cond.selects RX1 yX1_tell yX1_tell, Cond.initialized RX1, Cond.code yX1_tell cX1_tell 6 (some .boolean), Cond.fieldLink RX1 24 "LieBridges$Delta" "trusted" "[I", Cond.fieldLink RX1 18 "LieBridges$Delta" "layers" "[I"]
def wsX4_takesEffect_r2 : List Cond := [Cond.fieldLink RX1 27 "LieBridges$Delta" "known" "[I", Cond.fieldLink RX1 43 "LieBridges$Delta" "fadeDays" "I", Cond.methodLink RX1 71 yX1_mayTell, Cond.instanceMethod yX1_mayTell, Cond.selects RX1 yX1_mayTell yX1_mayTell, Cond.code yX1_mayTell cX1_mayTell 4 (some .boolean), Cond.methodLink RX1 67 yX0_of, Cond.instanceMethod yX0_of, Cond.selects RX0 yX0_of yX0_of, Cond.code yX0_of cX0_of 4 (some .int), Cond.static yX4_hasBit, Cond.code yX4_hasBit cX4_hasBit 3 (some .boolean), Cond.methodLink RX1 55 yX0_set, Cond.instanceMethod yX0_set, Cond.selects RX0 yX0_set yX0_set, Cond.code yX0_set cX0_set 4 none, Cond.static yX4_put, Cond.code yX4_put cX4_put 3 none, Cond.methodLink RX4 257 yX1_deny, Cond.instanceMethod yX1_deny, Cond.selects RX1 yX1_deny yX1_deny, Cond.code yX1_deny cX1_deny 6 (some .boolean)]
def wsX4_takesEffect : List Cond := .code yX4_takesEffect cX4_takesEffect 7 (some .boolean) :: ((wsX4_takesEffect_r1 ++ wsX4_takesEffect_r2) ++ wsX40 ++ wsX20 ++ wsX00 ++ wsX10)
def wsX4_vain_r1 : List Cond := [Cond.fieldLink RX4 37 "LieBridges" "trial" "LLieBridges$Beliefs;", Cond.fieldLink RX4 10 "LieBridges" "now" "LLieBridges$Delta;", Cond.fieldLink RX4 72 "LieBridges$Delta" "beliefs" "LLieBridges$Beliefs;", Cond.fieldLink RX4 23 "LieBridges" "pad" "LLieBridges$Pad;", Cond.fieldLink RX4 107 "LieBridges$Pad" "parts" "I", Cond.methodLink RX4 100 yX4_refusalOfText, Cond.instanceMethod yX4_refusalOfText, Cond.selects RX4 yX4_refusalOfText yX4_refusalOfText, Cond.initialized RX4, Cond.code yX4_refusalOfText cX4_refusalOfText 1 (some .int), Cond.fieldLink RX4 215 "LieBridges$Pad" "asked" "I", Cond.methodLink RX4 96 yX2_read, Cond.instanceMethod yX2_read, Cond.selects RX2 yX2_read yX2_read, Cond.initialized RX2, Cond.code yX2_read cX2_read 3 (some .int), Cond.fieldLink RX2 35 "LieBridges$Pad" "parts" "I", Cond.fieldLink RX2 38 "LieBridges$Pad" "asked" "I", Cond.fieldLink RX2 27 "LieBridges$Pad" "many" "I", Cond.fieldLink RX2 9 "LieBridges$Pad" "signs" "[I", Cond.static yX4_at, Cond.code yX4_at cX4_at 2 (some .int), Cond.methodLink RX2 45 yX2_take, Cond.instanceMethod yX2_take]
def wsX4_vain_r2 : List Cond := [Cond.selects RX2 yX2_take yX2_take, Cond.code yX2_take cX2_take 3 (some .int), Cond.methodLink RX2 49 yX2_takeDay, Cond.instanceMethod yX2_takeDay, Cond.selects RX2 yX2_takeDay yX2_takeDay, Cond.code yX2_takeDay cX2_takeDay 1 (some .int), Cond.fieldLink RX2 15 "LieBridges$Pad" "kinds" "[I", Cond.static yX4_put, Cond.code yX4_put cX4_put 3 none, Cond.methodLink RX2 53 yX2_takeSpeaker, Cond.instanceMethod yX2_takeSpeaker, Cond.selects RX2 yX2_takeSpeaker yX2_takeSpeaker, Cond.code yX2_takeSpeaker cX2_takeSpeaker 3 (some .int), Cond.fieldLink RX2 18 "LieBridges$Pad" "speakers" "[I", Cond.static yX4_isPerson, Cond.code yX4_isPerson cX4_isPerson 1 (some .boolean), Cond.methodLink RX4 79 yX4_within, Cond.static yX4_within, Cond.code yX4_within cX4_within 3 (some .boolean), Cond.methodLink RX2 57 yX2_takeHearer, Cond.instanceMethod yX2_takeHearer, Cond.selects RX2 yX2_takeHearer yX2_takeHearer, Cond.code yX2_takeHearer cX2_takeHearer 2 (some .int), Cond.fieldLink RX2 21 "LieBridges$Pad" "hearers" "[I"]
def wsX4_vain_r3 : List Cond := [Cond.methodLink RX2 60 yX2_takeDenial, Cond.instanceMethod yX2_takeDenial, Cond.selects RX2 yX2_takeDenial yX2_takeDenial, Cond.code yX2_takeDenial cX2_takeDenial 1 (some .int), Cond.methodLink RX2 63 yX2_takePlank, Cond.instanceMethod yX2_takePlank, Cond.selects RX2 yX2_takePlank yX2_takePlank, Cond.code yX2_takePlank cX2_takePlank 2 (some .int), Cond.fieldLink RX2 24 "LieBridges$Pad" "planks" "[I", Cond.static yX4_isPlank, Cond.code yX4_isPlank cX4_isPlank 1 (some .boolean), Cond.methodLink RX4 103 yX0_become, Cond.instanceMethod yX0_become, Cond.selects RX0 yX0_become yX0_become, Cond.initialized RX0, Cond.code yX0_become cX0_become 2 none, Cond.fieldLink RX0 9 "LieBridges$Beliefs" "days" "[I", Cond.static yX4_copy, Cond.code yX4_copy cX4_copy 3 none, Cond.methodLink RX4 134 yX4_at, Cond.methodLink RX4 110 yX4_takesEffect, Cond.instanceMethod yX4_takesEffect, Cond.selects RX4 yX4_takesEffect yX4_takesEffect, Cond.code yX4_takesEffect cX4_takesEffect 7 (some .boolean)]
def wsX4_vain_r4 : List Cond := [Cond.fieldLink RX4 245 "LieBridges$Pad" "kinds" "[I", Cond.fieldLink RX4 248 "LieBridges$Pad" "speakers" "[I", Cond.fieldLink RX4 41 "LieBridges" "guesses" "[I", Cond.fieldLink RX4 251 "LieBridges$Pad" "hearers" "[I", Cond.fieldLink RX4 254 "LieBridges$Pad" "planks" "[I", Cond.methodLink RX4 179 yX0_fadeADay, Cond.instanceMethod yX0_fadeADay, Cond.selects RX0 yX0_fadeADay yX0_fadeADay, Cond.code yX0_fadeADay cX0_fadeADay 2 none, Cond.methodLink RX4 226 yX1_tell, Cond.instanceMethod yX1_tell, Cond.selects RX1 yX1_tell yX1_tell, Cond.initialized RX1, Cond.code yX1_tell cX1_tell 6 (some .boolean), Cond.fieldLink RX1 24 "LieBridges$Delta" "trusted" "[I", Cond.fieldLink RX1 18 "LieBridges$Delta" "layers" "[I", Cond.fieldLink RX1 27 "LieBridges$Delta" "known" "[I", Cond.fieldLink RX1 43 "LieBridges$Delta" "fadeDays" "I", Cond.methodLink RX1 71 yX1_mayTell, Cond.instanceMethod yX1_mayTell, Cond.selects RX1 yX1_mayTell yX1_mayTell, Cond.code yX1_mayTell cX1_mayTell 4 (some .boolean), Cond.methodLink RX1 67 yX0_of, Cond.instanceMethod yX0_of]
def wsX4_vain_r5 : List Cond := [Cond.selects RX0 yX0_of yX0_of, Cond.code yX0_of cX0_of 4 (some .int), Cond.static yX4_hasBit, Cond.code yX4_hasBit cX4_hasBit 3 (some .boolean), Cond.methodLink RX1 55 yX0_set, Cond.instanceMethod yX0_set, Cond.selects RX0 yX0_set yX0_set, Cond.code yX0_set cX0_set 4 none, Cond.methodLink RX4 257 yX1_deny, Cond.instanceMethod yX1_deny, Cond.selects RX1 yX1_deny yX1_deny, Cond.code yX1_deny cX1_deny 6 (some .boolean)]
def wsX4_vain : List Cond := .code yX4_vain cX4_vain 6 (some .int) :: ((wsX4_vain_r1 ++ (wsX4_vain_r2 ++ (wsX4_vain_r3 ++ (wsX4_vain_r4 ++ wsX4_vain_r5)))) ++ wsX40 ++ wsX10 ++ wsX20 ++ wsX00)
def wsX4_play_r1 : List Cond := [Cond.fieldLink RX4 23 "LieBridges" "pad" "LLieBridges$Pad;", Cond.fieldLink RX4 107 "LieBridges$Pad" "parts" "I", Cond.methodLink RX4 110 yX4_takesEffect, Cond.instanceMethod yX4_takesEffect, Cond.selects RX4 yX4_takesEffect yX4_takesEffect, Cond.initialized RX4, Cond.code yX4_takesEffect cX4_takesEffect 7 (some .boolean), Cond.fieldLink RX4 245 "LieBridges$Pad" "kinds" "[I", Cond.fieldLink RX4 248 "LieBridges$Pad" "speakers" "[I", Cond.fieldLink RX4 41 "LieBridges" "guesses" "[I", Cond.fieldLink RX4 251 "LieBridges$Pad" "hearers" "[I", Cond.fieldLink RX4 254 "LieBridges$Pad" "planks" "[I", Cond.fieldLink RX4 10 "LieBridges" "now" "LLieBridges$Delta;", Cond.methodLink RX4 134 yX4_at, Cond.static yX4_at, Cond.code yX4_at cX4_at 2 (some .int), Cond.methodLink RX4 179 yX0_fadeADay, Cond.instanceMethod yX0_fadeADay, Cond.selects RX0 yX0_fadeADay yX0_fadeADay, Cond.initialized RX0, Cond.code yX0_fadeADay cX0_fadeADay 2 none, Cond.fieldLink RX0 9 "LieBridges$Beliefs" "days" "[I", Cond.methodLink RX4 226 yX1_tell, Cond.instanceMethod yX1_tell]
def wsX4_play_r2 : List Cond := [Cond.selects RX1 yX1_tell yX1_tell, Cond.initialized RX1, Cond.code yX1_tell cX1_tell 6 (some .boolean), Cond.fieldLink RX1 24 "LieBridges$Delta" "trusted" "[I", Cond.fieldLink RX1 18 "LieBridges$Delta" "layers" "[I", Cond.fieldLink RX1 27 "LieBridges$Delta" "known" "[I", Cond.fieldLink RX1 43 "LieBridges$Delta" "fadeDays" "I", Cond.methodLink RX1 71 yX1_mayTell, Cond.instanceMethod yX1_mayTell, Cond.selects RX1 yX1_mayTell yX1_mayTell, Cond.code yX1_mayTell cX1_mayTell 4 (some .boolean), Cond.methodLink RX1 67 yX0_of, Cond.instanceMethod yX0_of, Cond.selects RX0 yX0_of yX0_of, Cond.code yX0_of cX0_of 4 (some .int), Cond.static yX4_hasBit, Cond.code yX4_hasBit cX4_hasBit 3 (some .boolean), Cond.methodLink RX1 55 yX0_set, Cond.instanceMethod yX0_set, Cond.selects RX0 yX0_set yX0_set, Cond.code yX0_set cX0_set 4 none, Cond.static yX4_put, Cond.code yX4_put cX4_put 3 none, Cond.methodLink RX4 257 yX1_deny]
def wsX4_play_r3 : List Cond := [Cond.instanceMethod yX1_deny, Cond.selects RX1 yX1_deny yX1_deny, Cond.code yX1_deny cX1_deny 6 (some .boolean)]
def wsX4_play : List Cond := .code yX4_play cX4_play 3 none :: ((wsX4_play_r1 ++ (wsX4_play_r2 ++ wsX4_play_r3)) ++ wsX40 ++ wsX20 ++ wsX00 ++ wsX10)
def wsX4_done_r1 : List Cond := [Cond.fieldLink RX4 10 "LieBridges" "now" "LLieBridges$Delta;", Cond.fieldLink RX4 72 "LieBridges$Delta" "beliefs" "LLieBridges$Beliefs;", Cond.fieldLink RX4 23 "LieBridges" "pad" "LLieBridges$Pad;", Cond.fieldLink RX4 107 "LieBridges$Pad" "parts" "I", Cond.methodLink RX4 100 yX4_refusalOfText, Cond.instanceMethod yX4_refusalOfText, Cond.selects RX4 yX4_refusalOfText yX4_refusalOfText, Cond.initialized RX4, Cond.code yX4_refusalOfText cX4_refusalOfText 1 (some .int), Cond.fieldLink RX4 215 "LieBridges$Pad" "asked" "I", Cond.methodLink RX4 96 yX2_read, Cond.instanceMethod yX2_read, Cond.selects RX2 yX2_read yX2_read, Cond.initialized RX2, Cond.code yX2_read cX2_read 3 (some .int), Cond.fieldLink RX2 35 "LieBridges$Pad" "parts" "I", Cond.fieldLink RX2 38 "LieBridges$Pad" "asked" "I", Cond.fieldLink RX2 27 "LieBridges$Pad" "many" "I", Cond.fieldLink RX2 9 "LieBridges$Pad" "signs" "[I", Cond.static yX4_at, Cond.code yX4_at cX4_at 2 (some .int), Cond.methodLink RX2 45 yX2_take, Cond.instanceMethod yX2_take, Cond.selects RX2 yX2_take yX2_take]
def wsX4_done_r2 : List Cond := [Cond.code yX2_take cX2_take 3 (some .int), Cond.methodLink RX2 49 yX2_takeDay, Cond.instanceMethod yX2_takeDay, Cond.selects RX2 yX2_takeDay yX2_takeDay, Cond.code yX2_takeDay cX2_takeDay 1 (some .int), Cond.fieldLink RX2 15 "LieBridges$Pad" "kinds" "[I", Cond.static yX4_put, Cond.code yX4_put cX4_put 3 none, Cond.methodLink RX2 53 yX2_takeSpeaker, Cond.instanceMethod yX2_takeSpeaker, Cond.selects RX2 yX2_takeSpeaker yX2_takeSpeaker, Cond.code yX2_takeSpeaker cX2_takeSpeaker 3 (some .int), Cond.fieldLink RX2 18 "LieBridges$Pad" "speakers" "[I", Cond.static yX4_isPerson, Cond.code yX4_isPerson cX4_isPerson 1 (some .boolean), Cond.methodLink RX4 79 yX4_within, Cond.static yX4_within, Cond.code yX4_within cX4_within 3 (some .boolean), Cond.methodLink RX2 57 yX2_takeHearer, Cond.instanceMethod yX2_takeHearer, Cond.selects RX2 yX2_takeHearer yX2_takeHearer, Cond.code yX2_takeHearer cX2_takeHearer 2 (some .int), Cond.fieldLink RX2 21 "LieBridges$Pad" "hearers" "[I", Cond.methodLink RX2 60 yX2_takeDenial]
def wsX4_done_r3 : List Cond := [Cond.instanceMethod yX2_takeDenial, Cond.selects RX2 yX2_takeDenial yX2_takeDenial, Cond.code yX2_takeDenial cX2_takeDenial 1 (some .int), Cond.methodLink RX2 63 yX2_takePlank, Cond.instanceMethod yX2_takePlank, Cond.selects RX2 yX2_takePlank yX2_takePlank, Cond.code yX2_takePlank cX2_takePlank 2 (some .int), Cond.fieldLink RX2 24 "LieBridges$Pad" "planks" "[I", Cond.static yX4_isPlank, Cond.code yX4_isPlank cX4_isPlank 1 (some .boolean), Cond.methodLink RX4 114 yX4_play, Cond.instanceMethod yX4_play, Cond.selects RX4 yX4_play yX4_play, Cond.code yX4_play cX4_play 3 none, Cond.methodLink RX4 110 yX4_takesEffect, Cond.instanceMethod yX4_takesEffect, Cond.selects RX4 yX4_takesEffect yX4_takesEffect, Cond.code yX4_takesEffect cX4_takesEffect 7 (some .boolean), Cond.fieldLink RX4 245 "LieBridges$Pad" "kinds" "[I", Cond.fieldLink RX4 248 "LieBridges$Pad" "speakers" "[I", Cond.fieldLink RX4 41 "LieBridges" "guesses" "[I", Cond.fieldLink RX4 251 "LieBridges$Pad" "hearers" "[I", Cond.fieldLink RX4 254 "LieBridges$Pad" "planks" "[I", Cond.methodLink RX4 134 yX4_at]
def wsX4_done_r4 : List Cond := [Cond.methodLink RX4 179 yX0_fadeADay, Cond.instanceMethod yX0_fadeADay, Cond.selects RX0 yX0_fadeADay yX0_fadeADay, Cond.initialized RX0, Cond.code yX0_fadeADay cX0_fadeADay 2 none, Cond.fieldLink RX0 9 "LieBridges$Beliefs" "days" "[I", Cond.methodLink RX4 226 yX1_tell, Cond.instanceMethod yX1_tell, Cond.selects RX1 yX1_tell yX1_tell, Cond.initialized RX1, Cond.code yX1_tell cX1_tell 6 (some .boolean), Cond.fieldLink RX1 24 "LieBridges$Delta" "trusted" "[I", Cond.fieldLink RX1 18 "LieBridges$Delta" "layers" "[I", Cond.fieldLink RX1 27 "LieBridges$Delta" "known" "[I", Cond.fieldLink RX1 43 "LieBridges$Delta" "fadeDays" "I", Cond.methodLink RX1 71 yX1_mayTell, Cond.instanceMethod yX1_mayTell, Cond.selects RX1 yX1_mayTell yX1_mayTell, Cond.code yX1_mayTell cX1_mayTell 4 (some .boolean), Cond.methodLink RX1 67 yX0_of, Cond.instanceMethod yX0_of, Cond.selects RX0 yX0_of yX0_of, Cond.code yX0_of cX0_of 4 (some .int), Cond.static yX4_hasBit]
def wsX4_done_r5 : List Cond := [Cond.code yX4_hasBit cX4_hasBit 3 (some .boolean), Cond.methodLink RX1 55 yX0_set, Cond.instanceMethod yX0_set, Cond.selects RX0 yX0_set yX0_set, Cond.code yX0_set cX0_set 4 none, Cond.methodLink RX4 257 yX1_deny, Cond.instanceMethod yX1_deny, Cond.selects RX1 yX1_deny yX1_deny, Cond.code yX1_deny cX1_deny 6 (some .boolean), Cond.methodLink RX4 93 yX2_clear, Cond.instanceMethod yX2_clear, Cond.selects RX2 yX2_clear yX2_clear, Cond.code yX2_clear cX2_clear 1 none]
def wsX4_done : List Cond := .code yX4_done cX4_done 3 (some .int) :: ((wsX4_done_r1 ++ (wsX4_done_r2 ++ (wsX4_done_r3 ++ (wsX4_done_r4 ++ wsX4_done_r5)))) ++ wsX40 ++ wsX10 ++ wsX20 ++ wsX00)
def wsX4_isPersonOrAll : List Cond := .code yX4_isPersonOrAll cX4_isPersonOrAll 1 (some .boolean) :: ([.methodLink RX4 55 yX4_isPerson, .static yX4_isPerson, .initialized RX4, .code yX4_isPerson cX4_isPerson 1 (some .boolean), .methodLink RX4 79 yX4_within, .static yX4_within, .code yX4_within cX4_within 3 (some .boolean)])
def wsX4_beliefOrLoad : List Cond := .code yX4_beliefOrLoad cX4_beliefOrLoad 3 (some .int) :: ([.methodLink RX4 142 yX0_load, .instanceMethod yX0_load, .selects RX0 yX0_load yX0_load, .initialized RX0, .code yX0_load cX0_load 5 (some .int), .methodLink RX0 19 yX0_of, .instanceMethod yX0_of, .selects RX0 yX0_of yX0_of, .code yX0_of cX0_of 4 (some .int), .fieldLink RX0 9 "LieBridges$Beliefs" "days" "[I", .methodLink RX4 242 yX0_of] ++ wsX00)
def wsX4_bears_r1 : List Cond := [Cond.fieldLink RX4 10 "LieBridges" "now" "LLieBridges$Delta;", Cond.fieldLink RX4 72 "LieBridges$Delta" "beliefs" "LLieBridges$Beliefs;", Cond.methodLink RX4 48 yX4_isPlank, Cond.static yX4_isPlank, Cond.initialized RX4, Cond.code yX4_isPlank cX4_isPlank 1 (some .boolean), Cond.methodLink RX4 79 yX4_within, Cond.static yX4_within, Cond.code yX4_within cX4_within 3 (some .boolean), Cond.methodLink RX4 117 yX4_isPersonOrAll, Cond.static yX4_isPersonOrAll, Cond.code yX4_isPersonOrAll cX4_isPersonOrAll 1 (some .boolean), Cond.methodLink RX4 55 yX4_isPerson, Cond.static yX4_isPerson, Cond.code yX4_isPerson cX4_isPerson 1 (some .boolean), Cond.methodLink RX4 120 yX4_beliefOrLoad, Cond.static yX4_beliefOrLoad, Cond.code yX4_beliefOrLoad cX4_beliefOrLoad 3 (some .int), Cond.methodLink RX4 142 yX0_load, Cond.instanceMethod yX0_load, Cond.selects RX0 yX0_load yX0_load, Cond.initialized RX0, Cond.code yX0_load cX0_load 5 (some .int), Cond.methodLink RX0 19 yX0_of]
def wsX4_bears_r2 : List Cond := [Cond.instanceMethod yX0_of, Cond.selects RX0 yX0_of yX0_of, Cond.code yX0_of cX0_of 4 (some .int), Cond.fieldLink RX0 9 "LieBridges$Beliefs" "days" "[I", Cond.methodLink RX4 242 yX0_of]
def wsX4_bears : List Cond := .code yX4_bears cX4_bears 3 (some .int) :: ((wsX4_bears_r1 ++ wsX4_bears_r2) ++ wsX40 ++ wsX10 ++ wsX00)
def wsX4_behind_r1 : List Cond := [Cond.fieldLink RX4 37 "LieBridges" "trial" "LLieBridges$Beliefs;", Cond.fieldLink RX4 10 "LieBridges" "now" "LLieBridges$Delta;", Cond.fieldLink RX4 72 "LieBridges$Delta" "beliefs" "LLieBridges$Beliefs;", Cond.methodLink RX4 48 yX4_isPlank, Cond.static yX4_isPlank, Cond.initialized RX4, Cond.code yX4_isPlank cX4_isPlank 1 (some .boolean), Cond.methodLink RX4 79 yX4_within, Cond.static yX4_within, Cond.code yX4_within cX4_within 3 (some .boolean), Cond.methodLink RX4 117 yX4_isPersonOrAll, Cond.static yX4_isPersonOrAll, Cond.code yX4_isPersonOrAll cX4_isPersonOrAll 1 (some .boolean), Cond.methodLink RX4 55 yX4_isPerson, Cond.static yX4_isPerson, Cond.code yX4_isPerson cX4_isPerson 1 (some .boolean), Cond.methodLink RX4 100 yX4_refusalOfText, Cond.instanceMethod yX4_refusalOfText, Cond.selects RX4 yX4_refusalOfText yX4_refusalOfText, Cond.code yX4_refusalOfText cX4_refusalOfText 1 (some .int), Cond.fieldLink RX4 23 "LieBridges" "pad" "LLieBridges$Pad;", Cond.fieldLink RX4 215 "LieBridges$Pad" "asked" "I", Cond.methodLink RX4 96 yX2_read, Cond.instanceMethod yX2_read]
def wsX4_behind_r2 : List Cond := [Cond.selects RX2 yX2_read yX2_read, Cond.initialized RX2, Cond.code yX2_read cX2_read 3 (some .int), Cond.fieldLink RX2 35 "LieBridges$Pad" "parts" "I", Cond.fieldLink RX2 38 "LieBridges$Pad" "asked" "I", Cond.fieldLink RX2 27 "LieBridges$Pad" "many" "I", Cond.fieldLink RX2 9 "LieBridges$Pad" "signs" "[I", Cond.static yX4_at, Cond.code yX4_at cX4_at 2 (some .int), Cond.methodLink RX2 45 yX2_take, Cond.instanceMethod yX2_take, Cond.selects RX2 yX2_take yX2_take, Cond.code yX2_take cX2_take 3 (some .int), Cond.methodLink RX2 49 yX2_takeDay, Cond.instanceMethod yX2_takeDay, Cond.selects RX2 yX2_takeDay yX2_takeDay, Cond.code yX2_takeDay cX2_takeDay 1 (some .int), Cond.fieldLink RX2 15 "LieBridges$Pad" "kinds" "[I", Cond.static yX4_put, Cond.code yX4_put cX4_put 3 none, Cond.methodLink RX2 53 yX2_takeSpeaker, Cond.instanceMethod yX2_takeSpeaker, Cond.selects RX2 yX2_takeSpeaker yX2_takeSpeaker, Cond.code yX2_takeSpeaker cX2_takeSpeaker 3 (some .int)]
def wsX4_behind_r3 : List Cond := [Cond.fieldLink RX2 18 "LieBridges$Pad" "speakers" "[I", Cond.methodLink RX2 57 yX2_takeHearer, Cond.instanceMethod yX2_takeHearer, Cond.selects RX2 yX2_takeHearer yX2_takeHearer, Cond.code yX2_takeHearer cX2_takeHearer 2 (some .int), Cond.fieldLink RX2 21 "LieBridges$Pad" "hearers" "[I", Cond.methodLink RX2 60 yX2_takeDenial, Cond.instanceMethod yX2_takeDenial, Cond.selects RX2 yX2_takeDenial yX2_takeDenial, Cond.code yX2_takeDenial cX2_takeDenial 1 (some .int), Cond.methodLink RX2 63 yX2_takePlank, Cond.instanceMethod yX2_takePlank, Cond.selects RX2 yX2_takePlank yX2_takePlank, Cond.code yX2_takePlank cX2_takePlank 2 (some .int), Cond.fieldLink RX2 24 "LieBridges$Pad" "planks" "[I", Cond.methodLink RX4 103 yX0_become, Cond.instanceMethod yX0_become, Cond.selects RX0 yX0_become yX0_become, Cond.initialized RX0, Cond.code yX0_become cX0_become 2 none, Cond.fieldLink RX0 9 "LieBridges$Beliefs" "days" "[I", Cond.static yX4_copy, Cond.code yX4_copy cX4_copy 3 none, Cond.methodLink RX4 134 yX4_at]
def wsX4_behind_r4 : List Cond := [Cond.methodLink RX4 114 yX4_play, Cond.instanceMethod yX4_play, Cond.selects RX4 yX4_play yX4_play, Cond.code yX4_play cX4_play 3 none, Cond.fieldLink RX4 107 "LieBridges$Pad" "parts" "I", Cond.methodLink RX4 110 yX4_takesEffect, Cond.instanceMethod yX4_takesEffect, Cond.selects RX4 yX4_takesEffect yX4_takesEffect, Cond.code yX4_takesEffect cX4_takesEffect 7 (some .boolean), Cond.fieldLink RX4 245 "LieBridges$Pad" "kinds" "[I", Cond.fieldLink RX4 248 "LieBridges$Pad" "speakers" "[I", Cond.fieldLink RX4 41 "LieBridges" "guesses" "[I", Cond.fieldLink RX4 251 "LieBridges$Pad" "hearers" "[I", Cond.fieldLink RX4 254 "LieBridges$Pad" "planks" "[I", Cond.methodLink RX4 179 yX0_fadeADay, Cond.instanceMethod yX0_fadeADay, Cond.selects RX0 yX0_fadeADay yX0_fadeADay, Cond.code yX0_fadeADay cX0_fadeADay 2 none, Cond.methodLink RX4 226 yX1_tell, Cond.instanceMethod yX1_tell, Cond.selects RX1 yX1_tell yX1_tell, Cond.initialized RX1, Cond.code yX1_tell cX1_tell 6 (some .boolean), Cond.fieldLink RX1 24 "LieBridges$Delta" "trusted" "[I"]
def wsX4_behind_r5 : List Cond := [Cond.fieldLink RX1 18 "LieBridges$Delta" "layers" "[I", Cond.fieldLink RX1 27 "LieBridges$Delta" "known" "[I", Cond.fieldLink RX1 43 "LieBridges$Delta" "fadeDays" "I", Cond.methodLink RX1 71 yX1_mayTell, Cond.instanceMethod yX1_mayTell, Cond.selects RX1 yX1_mayTell yX1_mayTell, Cond.code yX1_mayTell cX1_mayTell 4 (some .boolean), Cond.methodLink RX1 67 yX0_of, Cond.instanceMethod yX0_of, Cond.selects RX0 yX0_of yX0_of, Cond.code yX0_of cX0_of 4 (some .int), Cond.static yX4_hasBit, Cond.code yX4_hasBit cX4_hasBit 3 (some .boolean), Cond.methodLink RX1 55 yX0_set, Cond.instanceMethod yX0_set, Cond.selects RX0 yX0_set yX0_set, Cond.code yX0_set cX0_set 4 none, Cond.methodLink RX4 257 yX1_deny, Cond.instanceMethod yX1_deny, Cond.selects RX1 yX1_deny yX1_deny, Cond.code yX1_deny cX1_deny 6 (some .boolean), Cond.methodLink RX4 120 yX4_beliefOrLoad, Cond.static yX4_beliefOrLoad, Cond.code yX4_beliefOrLoad cX4_beliefOrLoad 3 (some .int)]
def wsX4_behind_r6 : List Cond := [Cond.methodLink RX4 142 yX0_load, Cond.instanceMethod yX0_load, Cond.selects RX0 yX0_load yX0_load, Cond.code yX0_load cX0_load 5 (some .int), Cond.methodLink RX0 19 yX0_of, Cond.methodLink RX4 242 yX0_of]
def wsX4_behind : List Cond := .code yX4_behind cX4_behind 4 (some .int) :: ((wsX4_behind_r1 ++ (wsX4_behind_r2 ++ (wsX4_behind_r3 ++ (wsX4_behind_r4 ++ (wsX4_behind_r5 ++ wsX4_behind_r6))))) ++ wsX40 ++ wsX10 ++ wsX20 ++ wsX00)
def wsX4_isParty : List Cond := .code yX4_isParty cX4_isParty 1 (some .boolean) :: ([.methodLink RX4 79 yX4_within, .static yX4_within, .initialized RX4, .code yX4_within cX4_within 3 (some .boolean)])
def wsX4_isChoice : List Cond := .code yX4_isChoice cX4_isChoice 1 (some .boolean) :: ([])
def wsX4_splitRoute : List Cond := .code yX4_splitRoute cX4_splitRoute 5 (some .boolean) :: ([.fieldLink RX4 45 "LieBridges" "route" "[I", .methodLink RX4 189 yX4_put, .static yX4_put, .initialized RX4, .code yX4_put cX4_put 3 none] ++ wsX40)
def wsX4_falls_r1 : List Cond := [Cond.fieldLink RX4 45 "LieBridges" "route" "[I", Cond.fieldLink RX4 10 "LieBridges" "now" "LLieBridges$Delta;", Cond.fieldLink RX4 72 "LieBridges$Delta" "beliefs" "LLieBridges$Beliefs;", Cond.methodLink RX4 52 yX4_isIsland, Cond.static yX4_isIsland, Cond.initialized RX4, Cond.code yX4_isIsland cX4_isIsland 1 (some .boolean), Cond.methodLink RX4 79 yX4_within, Cond.static yX4_within, Cond.code yX4_within cX4_within 3 (some .boolean), Cond.methodLink RX4 124 yX4_isParty, Cond.static yX4_isParty, Cond.code yX4_isParty cX4_isParty 1 (some .boolean), Cond.methodLink RX4 127 yX4_isChoice, Cond.static yX4_isChoice, Cond.code yX4_isChoice cX4_isChoice 1 (some .boolean), Cond.methodLink RX4 130 yX4_splitRoute, Cond.instanceMethod yX4_splitRoute, Cond.selects RX4 yX4_splitRoute yX4_splitRoute, Cond.code yX4_splitRoute cX4_splitRoute 5 (some .boolean), Cond.methodLink RX4 189 yX4_put, Cond.static yX4_put, Cond.code yX4_put cX4_put 3 none, Cond.methodLink RX4 134 yX4_at]
def wsX4_falls_r2 : List Cond := [Cond.static yX4_at, Cond.code yX4_at cX4_at 2 (some .int), Cond.methodLink RX4 138 yX1_across, Cond.instanceMethod yX1_across, Cond.selects RX1 yX1_across yX1_across, Cond.initialized RX1, Cond.code yX1_across cX1_across 3 (some .int), Cond.fieldLink RX1 9 "LieBridges$Delta" "lessers" "[I", Cond.fieldLink RX1 15 "LieBridges$Delta" "greaters" "[I", Cond.static yX4_isPlank, Cond.code yX4_isPlank cX4_isPlank 1 (some .boolean), Cond.methodLink RX4 142 yX0_load, Cond.instanceMethod yX0_load, Cond.selects RX0 yX0_load yX0_load, Cond.initialized RX0, Cond.code yX0_load cX0_load 5 (some .int), Cond.methodLink RX0 19 yX0_of, Cond.instanceMethod yX0_of, Cond.selects RX0 yX0_of yX0_of, Cond.code yX0_of cX0_of 4 (some .int), Cond.fieldLink RX0 9 "LieBridges$Beliefs" "days" "[I"]
def wsX4_falls : List Cond := .code yX4_falls cX4_falls 12 (some .int) :: ((wsX4_falls_r1 ++ wsX4_falls_r2) ++ wsX40 ++ wsX10 ++ wsX00)
def wsX4_tellToAll_r1 : List Cond := [Cond.fieldLink RX4 10 "LieBridges" "now" "LLieBridges$Delta;", Cond.methodLink RX4 226 yX1_tell, Cond.instanceMethod yX1_tell, Cond.selects RX1 yX1_tell yX1_tell, Cond.initialized RX1, Cond.code yX1_tell cX1_tell 6 (some .boolean), Cond.fieldLink RX1 24 "LieBridges$Delta" "trusted" "[I", Cond.fieldLink RX1 18 "LieBridges$Delta" "layers" "[I", Cond.fieldLink RX1 27 "LieBridges$Delta" "known" "[I", Cond.fieldLink RX1 43 "LieBridges$Delta" "fadeDays" "I", Cond.methodLink RX1 71 yX1_mayTell, Cond.instanceMethod yX1_mayTell, Cond.selects RX1 yX1_mayTell yX1_mayTell, Cond.code yX1_mayTell cX1_mayTell 4 (some .boolean), Cond.static yX4_at, Cond.initialized RX4, Cond.code yX4_at cX4_at 2 (some .int), Cond.methodLink RX1 67 yX0_of, Cond.instanceMethod yX0_of, Cond.selects RX0 yX0_of yX0_of, Cond.initialized RX0, Cond.code yX0_of cX0_of 4 (some .int), Cond.fieldLink RX0 9 "LieBridges$Beliefs" "days" "[I", Cond.static yX4_hasBit]
def wsX4_tellToAll_r2 : List Cond := [Cond.code yX4_hasBit cX4_hasBit 3 (some .boolean), Cond.methodLink RX4 134 yX4_at, Cond.methodLink RX1 55 yX0_set, Cond.instanceMethod yX0_set, Cond.selects RX0 yX0_set yX0_set, Cond.code yX0_set cX0_set 4 none, Cond.static yX4_put, Cond.code yX4_put cX4_put 3 none]
def wsX4_tellToAll : List Cond := .code yX4_tellToAll cX4_tellToAll 5 none :: ((wsX4_tellToAll_r1 ++ wsX4_tellToAll_r2) ++ wsX40 ++ wsX10 ++ wsX00)
def wsX4_spread_r1 : List Cond := [Cond.fieldLink RX4 10 "LieBridges" "now" "LLieBridges$Delta;", Cond.methodLink RX4 260 yX1_mayTell, Cond.instanceMethod yX1_mayTell, Cond.selects RX1 yX1_mayTell yX1_mayTell, Cond.initialized RX1, Cond.code yX1_mayTell cX1_mayTell 4 (some .boolean), Cond.fieldLink RX1 18 "LieBridges$Delta" "layers" "[I", Cond.static yX4_at, Cond.initialized RX4, Cond.code yX4_at cX4_at 2 (some .int), Cond.methodLink RX1 67 yX0_of, Cond.instanceMethod yX0_of, Cond.selects RX0 yX0_of yX0_of, Cond.initialized RX0, Cond.code yX0_of cX0_of 4 (some .int), Cond.fieldLink RX0 9 "LieBridges$Beliefs" "days" "[I", Cond.methodLink RX4 182 yX4_tellToAll, Cond.instanceMethod yX4_tellToAll, Cond.selects RX4 yX4_tellToAll yX4_tellToAll, Cond.code yX4_tellToAll cX4_tellToAll 5 none, Cond.methodLink RX4 226 yX1_tell, Cond.instanceMethod yX1_tell, Cond.selects RX1 yX1_tell yX1_tell, Cond.code yX1_tell cX1_tell 6 (some .boolean)]
def wsX4_spread_r2 : List Cond := [Cond.fieldLink RX1 24 "LieBridges$Delta" "trusted" "[I", Cond.fieldLink RX1 27 "LieBridges$Delta" "known" "[I", Cond.fieldLink RX1 43 "LieBridges$Delta" "fadeDays" "I", Cond.methodLink RX1 71 yX1_mayTell, Cond.static yX4_hasBit, Cond.code yX4_hasBit cX4_hasBit 3 (some .boolean), Cond.methodLink RX4 134 yX4_at, Cond.methodLink RX1 55 yX0_set, Cond.instanceMethod yX0_set, Cond.selects RX0 yX0_set yX0_set, Cond.code yX0_set cX0_set 4 none, Cond.static yX4_put, Cond.code yX4_put cX4_put 3 none]
def wsX4_spread : List Cond := .code yX4_spread cX4_spread 5 none :: ((wsX4_spread_r1 ++ wsX4_spread_r2) ++ wsX40 ++ wsX10 ++ wsX00)
def wsX4_tellingsFor_r1 : List Cond := [Cond.fieldLink RX4 37 "LieBridges" "trial" "LLieBridges$Beliefs;", Cond.fieldLink RX4 10 "LieBridges" "now" "LLieBridges$Delta;", Cond.fieldLink RX4 72 "LieBridges$Delta" "beliefs" "LLieBridges$Beliefs;", Cond.methodLink RX4 103 yX0_become, Cond.instanceMethod yX0_become, Cond.selects RX0 yX0_become yX0_become, Cond.initialized RX0, Cond.code yX0_become cX0_become 2 none, Cond.fieldLink RX0 9 "LieBridges$Beliefs" "days" "[I", Cond.static yX4_copy, Cond.initialized RX4, Cond.code yX4_copy cX4_copy 3 none, Cond.methodLink RX4 134 yX4_at, Cond.static yX4_at, Cond.code yX4_at cX4_at 2 (some .int), Cond.methodLink RX4 142 yX0_load, Cond.instanceMethod yX0_load, Cond.selects RX0 yX0_load yX0_load, Cond.code yX0_load cX0_load 5 (some .int), Cond.methodLink RX0 19 yX0_of, Cond.instanceMethod yX0_of, Cond.selects RX0 yX0_of yX0_of, Cond.code yX0_of cX0_of 4 (some .int), Cond.methodLink RX4 175 yX4_spread]
def wsX4_tellingsFor_r2 : List Cond := [Cond.instanceMethod yX4_spread, Cond.selects RX4 yX4_spread yX4_spread, Cond.code yX4_spread cX4_spread 5 none, Cond.methodLink RX4 260 yX1_mayTell, Cond.instanceMethod yX1_mayTell, Cond.selects RX1 yX1_mayTell yX1_mayTell, Cond.initialized RX1, Cond.code yX1_mayTell cX1_mayTell 4 (some .boolean), Cond.fieldLink RX1 18 "LieBridges$Delta" "layers" "[I", Cond.methodLink RX1 67 yX0_of, Cond.methodLink RX4 182 yX4_tellToAll, Cond.instanceMethod yX4_tellToAll, Cond.selects RX4 yX4_tellToAll yX4_tellToAll, Cond.code yX4_tellToAll cX4_tellToAll 5 none, Cond.methodLink RX4 226 yX1_tell, Cond.instanceMethod yX1_tell, Cond.selects RX1 yX1_tell yX1_tell, Cond.code yX1_tell cX1_tell 6 (some .boolean), Cond.fieldLink RX1 24 "LieBridges$Delta" "trusted" "[I", Cond.fieldLink RX1 27 "LieBridges$Delta" "known" "[I", Cond.fieldLink RX1 43 "LieBridges$Delta" "fadeDays" "I", Cond.methodLink RX1 71 yX1_mayTell, Cond.static yX4_hasBit, Cond.code yX4_hasBit cX4_hasBit 3 (some .boolean)]
def wsX4_tellingsFor_r3 : List Cond := [Cond.methodLink RX1 55 yX0_set, Cond.instanceMethod yX0_set, Cond.selects RX0 yX0_set yX0_set, Cond.code yX0_set cX0_set 4 none, Cond.static yX4_put, Cond.code yX4_put cX4_put 3 none]
def wsX4_tellingsFor : List Cond := .code yX4_tellingsFor cX4_tellingsFor 5 (some .int) :: ((wsX4_tellingsFor_r1 ++ (wsX4_tellingsFor_r2 ++ wsX4_tellingsFor_r3)) ++ wsX40 ++ wsX10 ++ wsX00)
def wsX4_tellings_r1 : List Cond := [Cond.fieldLink RX4 30 "LieBridges" "ways" "LLieBridges$Ways;", Cond.fieldLink RX4 10 "LieBridges" "now" "LLieBridges$Delta;", Cond.fieldLink RX4 160 "LieBridges$Ways" "worth" "J", Cond.methodLink RX4 52 yX4_isIsland, Cond.static yX4_isIsland, Cond.initialized RX4, Cond.code yX4_isIsland cX4_isIsland 1 (some .boolean), Cond.methodLink RX4 79 yX4_within, Cond.static yX4_within, Cond.code yX4_within cX4_within 3 (some .boolean), Cond.methodLink RX4 124 yX4_isParty, Cond.static yX4_isParty, Cond.code yX4_isParty cX4_isParty 1 (some .boolean), Cond.methodLink RX4 145 yX4_tellingsFor, Cond.instanceMethod yX4_tellingsFor, Cond.selects RX4 yX4_tellingsFor yX4_tellingsFor, Cond.code yX4_tellingsFor cX4_tellingsFor 5 (some .int), Cond.fieldLink RX4 37 "LieBridges" "trial" "LLieBridges$Beliefs;", Cond.fieldLink RX4 72 "LieBridges$Delta" "beliefs" "LLieBridges$Beliefs;", Cond.methodLink RX4 103 yX0_become, Cond.instanceMethod yX0_become, Cond.selects RX0 yX0_become yX0_become, Cond.initialized RX0, Cond.code yX0_become cX0_become 2 none]
def wsX4_tellings_r2 : List Cond := [Cond.fieldLink RX0 9 "LieBridges$Beliefs" "days" "[I", Cond.static yX4_copy, Cond.code yX4_copy cX4_copy 3 none, Cond.methodLink RX4 134 yX4_at, Cond.static yX4_at, Cond.code yX4_at cX4_at 2 (some .int), Cond.methodLink RX4 142 yX0_load, Cond.instanceMethod yX0_load, Cond.selects RX0 yX0_load yX0_load, Cond.code yX0_load cX0_load 5 (some .int), Cond.methodLink RX0 19 yX0_of, Cond.instanceMethod yX0_of, Cond.selects RX0 yX0_of yX0_of, Cond.code yX0_of cX0_of 4 (some .int), Cond.methodLink RX4 175 yX4_spread, Cond.instanceMethod yX4_spread, Cond.selects RX4 yX4_spread yX4_spread, Cond.code yX4_spread cX4_spread 5 none, Cond.methodLink RX4 260 yX1_mayTell, Cond.instanceMethod yX1_mayTell, Cond.selects RX1 yX1_mayTell yX1_mayTell, Cond.initialized RX1, Cond.code yX1_mayTell cX1_mayTell 4 (some .boolean), Cond.fieldLink RX1 18 "LieBridges$Delta" "layers" "[I"]
def wsX4_tellings_r3 : List Cond := [Cond.methodLink RX1 67 yX0_of, Cond.methodLink RX4 182 yX4_tellToAll, Cond.instanceMethod yX4_tellToAll, Cond.selects RX4 yX4_tellToAll yX4_tellToAll, Cond.code yX4_tellToAll cX4_tellToAll 5 none, Cond.methodLink RX4 226 yX1_tell, Cond.instanceMethod yX1_tell, Cond.selects RX1 yX1_tell yX1_tell, Cond.code yX1_tell cX1_tell 6 (some .boolean), Cond.fieldLink RX1 24 "LieBridges$Delta" "trusted" "[I", Cond.fieldLink RX1 27 "LieBridges$Delta" "known" "[I", Cond.fieldLink RX1 43 "LieBridges$Delta" "fadeDays" "I", Cond.methodLink RX1 71 yX1_mayTell, Cond.static yX4_hasBit, Cond.code yX4_hasBit cX4_hasBit 3 (some .boolean), Cond.methodLink RX1 55 yX0_set, Cond.instanceMethod yX0_set, Cond.selects RX0 yX0_set yX0_set, Cond.code yX0_set cX0_set 4 none, Cond.static yX4_put, Cond.code yX4_put cX4_put 3 none, Cond.methodLink RX4 148 yX3_weigh, Cond.instanceMethod yX3_weigh, Cond.selects RX3 yX3_weigh yX3_weigh]
def wsX4_tellings_r4 : List Cond := [Cond.initialized RX3, Cond.code yX3_weigh cX3_weigh 3 none, Cond.fieldLink RX3 9 "LieBridges$Ways" "weights" "[I", Cond.methodLink RX4 152 yX3_findCheapest, Cond.instanceMethod yX3_findCheapest, Cond.selects RX3 yX3_findCheapest yX3_findCheapest, Cond.code yX3_findCheapest cX3_findCheapest 4 none, Cond.fieldLink RX3 25 "LieBridges$Ways" "likeliest" "Z", Cond.methodLink RX3 29 yX3_find, Cond.instanceMethod yX3_find, Cond.selects RX3 yX3_find yX3_find, Cond.code yX3_find cX3_find 6 none, Cond.fieldLink RX3 43 "LieBridges$Ways" "goal" "I", Cond.fieldLink RX3 35 "LieBridges$Ways" "length" "I", Cond.fieldLink RX3 46 "LieBridges$Ways" "worth" "J", Cond.methodLink RX3 50 yX3_walk, Cond.instanceMethod yX3_walk, Cond.selects RX3 yX3_walk yX3_walk, Cond.code yX3_walk cX3_walk 8 none, Cond.methodLink RX3 54 yX3_keepIfBetter, Cond.instanceMethod yX3_keepIfBetter, Cond.selects RX3 yX3_keepIfBetter yX3_keepIfBetter, Cond.code yX3_keepIfBetter cX3_keepIfBetter 4 none, Cond.fieldLink RX3 15 "LieBridges$Ways" "trodden" "[I"]
def wsX4_tellings_r5 : List Cond := [Cond.fieldLink RX3 18 "LieBridges$Ways" "best" "[I", Cond.methodLink RX3 70 yX3_found, Cond.instanceMethod yX3_found, Cond.selects RX3 yX3_found yX3_found, Cond.code yX3_found cX3_found 1 (some .boolean), Cond.methodLink RX3 58 yX3_tread, Cond.instanceMethod yX3_tread, Cond.selects RX3 yX3_tread yX3_tread, Cond.code yX3_tread cX3_tread 12 none, Cond.constantLong RX3 68 (10), Cond.methodLink RX3 62 yX1_across, Cond.instanceMethod yX1_across, Cond.selects RX1 yX1_across yX1_across, Cond.code yX1_across cX1_across 3 (some .int), Cond.fieldLink RX1 9 "LieBridges$Delta" "lessers" "[I", Cond.fieldLink RX1 15 "LieBridges$Delta" "greaters" "[I", Cond.static yX4_isPlank, Cond.code yX4_isPlank cX4_isPlank 1 (some .boolean), Cond.methodLink RX4 156 yX3_found, Cond.methodLink RX4 164 yX3_step, Cond.instanceMethod yX3_step, Cond.selects RX3 yX3_step yX3_step, Cond.code yX3_step cX3_step 2 (some .int)]
def wsX4_tellings : List Cond := .code yX4_tellings cX4_tellings 6 (some .int) :: ((wsX4_tellings_r1 ++ (wsX4_tellings_r2 ++ (wsX4_tellings_r3 ++ (wsX4_tellings_r4 ++ wsX4_tellings_r5)))) ++ wsX40 ++ wsX30 ++ wsX10 ++ wsX00)
def wsX4_standsBehind_r1 : List Cond := [Cond.fieldLink RX4 30 "LieBridges" "ways" "LLieBridges$Ways;", Cond.fieldLink RX4 10 "LieBridges" "now" "LLieBridges$Delta;", Cond.fieldLink RX4 72 "LieBridges$Delta" "beliefs" "LLieBridges$Beliefs;", Cond.methodLink RX4 142 yX0_load, Cond.instanceMethod yX0_load, Cond.selects RX0 yX0_load yX0_load, Cond.initialized RX0, Cond.code yX0_load cX0_load 5 (some .int), Cond.methodLink RX0 19 yX0_of, Cond.instanceMethod yX0_of, Cond.selects RX0 yX0_of yX0_of, Cond.code yX0_of cX0_of 4 (some .int), Cond.fieldLink RX0 9 "LieBridges$Beliefs" "days" "[I", Cond.methodLink RX4 148 yX3_weigh, Cond.instanceMethod yX3_weigh, Cond.selects RX3 yX3_weigh yX3_weigh, Cond.initialized RX3, Cond.code yX3_weigh cX3_weigh 3 none, Cond.fieldLink RX3 9 "LieBridges$Ways" "weights" "[I", Cond.static yX4_put, Cond.initialized RX4, Cond.code yX4_put cX4_put 3 none, Cond.methodLink RX4 152 yX3_findCheapest, Cond.instanceMethod yX3_findCheapest]
def wsX4_standsBehind_r2 : List Cond := [Cond.selects RX3 yX3_findCheapest yX3_findCheapest, Cond.code yX3_findCheapest cX3_findCheapest 4 none, Cond.fieldLink RX3 25 "LieBridges$Ways" "likeliest" "Z", Cond.methodLink RX3 29 yX3_find, Cond.instanceMethod yX3_find, Cond.selects RX3 yX3_find yX3_find, Cond.code yX3_find cX3_find 6 none, Cond.fieldLink RX3 43 "LieBridges$Ways" "goal" "I", Cond.fieldLink RX3 35 "LieBridges$Ways" "length" "I", Cond.fieldLink RX3 46 "LieBridges$Ways" "worth" "J", Cond.methodLink RX3 50 yX3_walk, Cond.instanceMethod yX3_walk, Cond.selects RX3 yX3_walk yX3_walk, Cond.code yX3_walk cX3_walk 8 none, Cond.methodLink RX3 54 yX3_keepIfBetter, Cond.instanceMethod yX3_keepIfBetter, Cond.selects RX3 yX3_keepIfBetter yX3_keepIfBetter, Cond.code yX3_keepIfBetter cX3_keepIfBetter 4 none, Cond.fieldLink RX3 15 "LieBridges$Ways" "trodden" "[I", Cond.fieldLink RX3 18 "LieBridges$Ways" "best" "[I", Cond.methodLink RX3 70 yX3_found, Cond.instanceMethod yX3_found, Cond.selects RX3 yX3_found yX3_found, Cond.code yX3_found cX3_found 1 (some .boolean)]
def wsX4_standsBehind_r3 : List Cond := [Cond.static yX4_copy, Cond.code yX4_copy cX4_copy 3 none, Cond.methodLink RX4 134 yX4_at, Cond.static yX4_at, Cond.code yX4_at cX4_at 2 (some .int), Cond.methodLink RX3 58 yX3_tread, Cond.instanceMethod yX3_tread, Cond.selects RX3 yX3_tread yX3_tread, Cond.code yX3_tread cX3_tread 12 none, Cond.constantLong RX3 68 (10), Cond.methodLink RX3 62 yX1_across, Cond.instanceMethod yX1_across, Cond.selects RX1 yX1_across yX1_across, Cond.initialized RX1, Cond.code yX1_across cX1_across 3 (some .int), Cond.fieldLink RX1 9 "LieBridges$Delta" "lessers" "[I", Cond.fieldLink RX1 15 "LieBridges$Delta" "greaters" "[I", Cond.static yX4_isPlank, Cond.code yX4_isPlank cX4_isPlank 1 (some .boolean), Cond.methodLink RX4 79 yX4_within, Cond.static yX4_within, Cond.code yX4_within cX4_within 3 (some .boolean), Cond.methodLink RX4 156 yX3_found]
def wsX4_standsBehind : List Cond := .code yX4_standsBehind cX4_standsBehind 6 (some .boolean) :: ((wsX4_standsBehind_r1 ++ (wsX4_standsBehind_r2 ++ wsX4_standsBehind_r3)) ++ wsX40 ++ wsX10 ++ wsX00 ++ wsX30)
def wsX4_stands_r1 : List Cond := [Cond.methodLink RX4 52 yX4_isIsland, Cond.static yX4_isIsland, Cond.initialized RX4, Cond.code yX4_isIsland cX4_isIsland 1 (some .boolean), Cond.methodLink RX4 79 yX4_within, Cond.static yX4_within, Cond.code yX4_within cX4_within 3 (some .boolean), Cond.methodLink RX4 124 yX4_isParty, Cond.static yX4_isParty, Cond.code yX4_isParty cX4_isParty 1 (some .boolean), Cond.methodLink RX4 168 yX4_standsBehind, Cond.instanceMethod yX4_standsBehind, Cond.selects RX4 yX4_standsBehind yX4_standsBehind, Cond.code yX4_standsBehind cX4_standsBehind 6 (some .boolean), Cond.fieldLink RX4 30 "LieBridges" "ways" "LLieBridges$Ways;", Cond.fieldLink RX4 10 "LieBridges" "now" "LLieBridges$Delta;", Cond.fieldLink RX4 72 "LieBridges$Delta" "beliefs" "LLieBridges$Beliefs;", Cond.methodLink RX4 142 yX0_load, Cond.instanceMethod yX0_load, Cond.selects RX0 yX0_load yX0_load, Cond.initialized RX0, Cond.code yX0_load cX0_load 5 (some .int), Cond.methodLink RX0 19 yX0_of, Cond.instanceMethod yX0_of]
def wsX4_stands_r2 : List Cond := [Cond.selects RX0 yX0_of yX0_of, Cond.code yX0_of cX0_of 4 (some .int), Cond.fieldLink RX0 9 "LieBridges$Beliefs" "days" "[I", Cond.methodLink RX4 148 yX3_weigh, Cond.instanceMethod yX3_weigh, Cond.selects RX3 yX3_weigh yX3_weigh, Cond.initialized RX3, Cond.code yX3_weigh cX3_weigh 3 none, Cond.fieldLink RX3 9 "LieBridges$Ways" "weights" "[I", Cond.static yX4_put, Cond.code yX4_put cX4_put 3 none, Cond.methodLink RX4 152 yX3_findCheapest, Cond.instanceMethod yX3_findCheapest, Cond.selects RX3 yX3_findCheapest yX3_findCheapest, Cond.code yX3_findCheapest cX3_findCheapest 4 none, Cond.fieldLink RX3 25 "LieBridges$Ways" "likeliest" "Z", Cond.methodLink RX3 29 yX3_find, Cond.instanceMethod yX3_find, Cond.selects RX3 yX3_find yX3_find, Cond.code yX3_find cX3_find 6 none, Cond.fieldLink RX3 43 "LieBridges$Ways" "goal" "I", Cond.fieldLink RX3 35 "LieBridges$Ways" "length" "I", Cond.fieldLink RX3 46 "LieBridges$Ways" "worth" "J", Cond.methodLink RX3 50 yX3_walk]
def wsX4_stands_r3 : List Cond := [Cond.instanceMethod yX3_walk, Cond.selects RX3 yX3_walk yX3_walk, Cond.code yX3_walk cX3_walk 8 none, Cond.methodLink RX3 54 yX3_keepIfBetter, Cond.instanceMethod yX3_keepIfBetter, Cond.selects RX3 yX3_keepIfBetter yX3_keepIfBetter, Cond.code yX3_keepIfBetter cX3_keepIfBetter 4 none, Cond.fieldLink RX3 15 "LieBridges$Ways" "trodden" "[I", Cond.fieldLink RX3 18 "LieBridges$Ways" "best" "[I", Cond.methodLink RX3 70 yX3_found, Cond.instanceMethod yX3_found, Cond.selects RX3 yX3_found yX3_found, Cond.code yX3_found cX3_found 1 (some .boolean), Cond.static yX4_copy, Cond.code yX4_copy cX4_copy 3 none, Cond.methodLink RX4 134 yX4_at, Cond.static yX4_at, Cond.code yX4_at cX4_at 2 (some .int), Cond.methodLink RX3 58 yX3_tread, Cond.instanceMethod yX3_tread, Cond.selects RX3 yX3_tread yX3_tread, Cond.code yX3_tread cX3_tread 12 none, Cond.constantLong RX3 68 (10), Cond.methodLink RX3 62 yX1_across]
def wsX4_stands_r4 : List Cond := [Cond.instanceMethod yX1_across, Cond.selects RX1 yX1_across yX1_across, Cond.initialized RX1, Cond.code yX1_across cX1_across 3 (some .int), Cond.fieldLink RX1 9 "LieBridges$Delta" "lessers" "[I", Cond.fieldLink RX1 15 "LieBridges$Delta" "greaters" "[I", Cond.static yX4_isPlank, Cond.code yX4_isPlank cX4_isPlank 1 (some .boolean), Cond.methodLink RX4 156 yX3_found]
def wsX4_stands : List Cond := .code yX4_stands cX4_stands 5 (some .int) :: ((wsX4_stands_r1 ++ (wsX4_stands_r2 ++ (wsX4_stands_r3 ++ wsX4_stands_r4))) ++ wsX40 ++ wsX10 ++ wsX00 ++ wsX30)
def wsX4_denyToAll_r1 : List Cond := [Cond.fieldLink RX4 10 "LieBridges" "now" "LLieBridges$Delta;", Cond.methodLink RX4 257 yX1_deny, Cond.instanceMethod yX1_deny, Cond.selects RX1 yX1_deny yX1_deny, Cond.initialized RX1, Cond.code yX1_deny cX1_deny 6 (some .boolean), Cond.fieldLink RX1 24 "LieBridges$Delta" "trusted" "[I", Cond.static yX4_hasBit, Cond.initialized RX4, Cond.code yX4_hasBit cX4_hasBit 3 (some .boolean), Cond.methodLink RX4 134 yX4_at, Cond.static yX4_at, Cond.code yX4_at cX4_at 2 (some .int), Cond.methodLink RX1 67 yX0_of, Cond.instanceMethod yX0_of, Cond.selects RX0 yX0_of yX0_of, Cond.initialized RX0, Cond.code yX0_of cX0_of 4 (some .int), Cond.fieldLink RX0 9 "LieBridges$Beliefs" "days" "[I", Cond.methodLink RX1 55 yX0_set, Cond.instanceMethod yX0_set, Cond.selects RX0 yX0_set yX0_set, Cond.code yX0_set cX0_set 4 none, Cond.static yX4_put]
def wsX4_denyToAll_r2 : List Cond := [Cond.code yX4_put cX4_put 3 none]
def wsX4_denyToAll : List Cond := .code yX4_denyToAll cX4_denyToAll 6 (some .int) :: ((wsX4_denyToAll_r1 ++ wsX4_denyToAll_r2) ++ wsX40 ++ wsX10 ++ wsX00)
def wsX4_word_r1 : List Cond := [Cond.fieldLink RX4 37 "LieBridges" "trial" "LLieBridges$Beliefs;", Cond.fieldLink RX4 10 "LieBridges" "now" "LLieBridges$Delta;", Cond.fieldLink RX4 72 "LieBridges$Delta" "beliefs" "LLieBridges$Beliefs;", Cond.methodLink RX4 127 yX4_isChoice, Cond.static yX4_isChoice, Cond.initialized RX4, Cond.code yX4_isChoice cX4_isChoice 1 (some .boolean), Cond.methodLink RX4 103 yX0_become, Cond.instanceMethod yX0_become, Cond.selects RX0 yX0_become yX0_become, Cond.initialized RX0, Cond.code yX0_become cX0_become 2 none, Cond.fieldLink RX0 9 "LieBridges$Beliefs" "days" "[I", Cond.static yX4_copy, Cond.code yX4_copy cX4_copy 3 none, Cond.methodLink RX4 134 yX4_at, Cond.static yX4_at, Cond.code yX4_at cX4_at 2 (some .int), Cond.methodLink RX4 172 yX4_denyToAll, Cond.instanceMethod yX4_denyToAll, Cond.selects RX4 yX4_denyToAll yX4_denyToAll, Cond.code yX4_denyToAll cX4_denyToAll 6 (some .int), Cond.methodLink RX4 257 yX1_deny, Cond.instanceMethod yX1_deny]
def wsX4_word_r2 : List Cond := [Cond.selects RX1 yX1_deny yX1_deny, Cond.initialized RX1, Cond.code yX1_deny cX1_deny 6 (some .boolean), Cond.fieldLink RX1 24 "LieBridges$Delta" "trusted" "[I", Cond.static yX4_hasBit, Cond.code yX4_hasBit cX4_hasBit 3 (some .boolean), Cond.methodLink RX1 67 yX0_of, Cond.instanceMethod yX0_of, Cond.selects RX0 yX0_of yX0_of, Cond.code yX0_of cX0_of 4 (some .int), Cond.methodLink RX1 55 yX0_set, Cond.instanceMethod yX0_set, Cond.selects RX0 yX0_set yX0_set, Cond.code yX0_set cX0_set 4 none, Cond.static yX4_put, Cond.code yX4_put cX4_put 3 none]
def wsX4_word : List Cond := .code yX4_word cX4_word 7 (some .int) :: ((wsX4_word_r1 ++ wsX4_word_r2) ++ wsX40 ++ wsX10 ++ wsX00)
def wsX4_rumour_r1 : List Cond := [Cond.fieldLink RX4 37 "LieBridges" "trial" "LLieBridges$Beliefs;", Cond.fieldLink RX4 10 "LieBridges" "now" "LLieBridges$Delta;", Cond.fieldLink RX4 72 "LieBridges$Delta" "beliefs" "LLieBridges$Beliefs;", Cond.methodLink RX4 48 yX4_isPlank, Cond.static yX4_isPlank, Cond.initialized RX4, Cond.code yX4_isPlank cX4_isPlank 1 (some .boolean), Cond.methodLink RX4 79 yX4_within, Cond.static yX4_within, Cond.code yX4_within cX4_within 3 (some .boolean), Cond.methodLink RX4 124 yX4_isParty, Cond.static yX4_isParty, Cond.code yX4_isParty cX4_isParty 1 (some .boolean), Cond.methodLink RX4 103 yX0_become, Cond.instanceMethod yX0_become, Cond.selects RX0 yX0_become yX0_become, Cond.initialized RX0, Cond.code yX0_become cX0_become 2 none, Cond.fieldLink RX0 9 "LieBridges$Beliefs" "days" "[I", Cond.static yX4_copy, Cond.code yX4_copy cX4_copy 3 none, Cond.methodLink RX4 134 yX4_at, Cond.static yX4_at, Cond.code yX4_at cX4_at 2 (some .int)]
def wsX4_rumour_r2 : List Cond := [Cond.methodLink RX4 142 yX0_load, Cond.instanceMethod yX0_load, Cond.selects RX0 yX0_load yX0_load, Cond.code yX0_load cX0_load 5 (some .int), Cond.methodLink RX0 19 yX0_of, Cond.instanceMethod yX0_of, Cond.selects RX0 yX0_of yX0_of, Cond.code yX0_of cX0_of 4 (some .int), Cond.methodLink RX4 175 yX4_spread, Cond.instanceMethod yX4_spread, Cond.selects RX4 yX4_spread yX4_spread, Cond.code yX4_spread cX4_spread 5 none, Cond.methodLink RX4 260 yX1_mayTell, Cond.instanceMethod yX1_mayTell, Cond.selects RX1 yX1_mayTell yX1_mayTell, Cond.initialized RX1, Cond.code yX1_mayTell cX1_mayTell 4 (some .boolean), Cond.fieldLink RX1 18 "LieBridges$Delta" "layers" "[I", Cond.methodLink RX1 67 yX0_of, Cond.methodLink RX4 182 yX4_tellToAll, Cond.instanceMethod yX4_tellToAll, Cond.selects RX4 yX4_tellToAll yX4_tellToAll, Cond.code yX4_tellToAll cX4_tellToAll 5 none, Cond.methodLink RX4 226 yX1_tell]
def wsX4_rumour_r3 : List Cond := [Cond.instanceMethod yX1_tell, Cond.selects RX1 yX1_tell yX1_tell, Cond.code yX1_tell cX1_tell 6 (some .boolean), Cond.fieldLink RX1 24 "LieBridges$Delta" "trusted" "[I", Cond.fieldLink RX1 27 "LieBridges$Delta" "known" "[I", Cond.fieldLink RX1 43 "LieBridges$Delta" "fadeDays" "I", Cond.methodLink RX1 71 yX1_mayTell, Cond.static yX4_hasBit, Cond.code yX4_hasBit cX4_hasBit 3 (some .boolean), Cond.methodLink RX1 55 yX0_set, Cond.instanceMethod yX0_set, Cond.selects RX0 yX0_set yX0_set, Cond.code yX0_set cX0_set 4 none, Cond.static yX4_put, Cond.code yX4_put cX4_put 3 none, Cond.methodLink RX4 179 yX0_fadeADay, Cond.instanceMethod yX0_fadeADay, Cond.selects RX0 yX0_fadeADay yX0_fadeADay, Cond.code yX0_fadeADay cX0_fadeADay 2 none]
def wsX4_rumour : List Cond := .code yX4_rumour cX4_rumour 4 (some .int) :: ((wsX4_rumour_r1 ++ (wsX4_rumour_r2 ++ wsX4_rumour_r3)) ++ wsX40 ++ wsX10 ++ wsX00)
def wsX4_odds_r1 : List Cond := [Cond.fieldLink RX4 37 "LieBridges" "trial" "LLieBridges$Beliefs;", Cond.fieldLink RX4 10 "LieBridges" "now" "LLieBridges$Delta;", Cond.fieldLink RX4 72 "LieBridges$Delta" "beliefs" "LLieBridges$Beliefs;", Cond.methodLink RX4 48 yX4_isPlank, Cond.static yX4_isPlank, Cond.initialized RX4, Cond.code yX4_isPlank cX4_isPlank 1 (some .boolean), Cond.methodLink RX4 79 yX4_within, Cond.static yX4_within, Cond.code yX4_within cX4_within 3 (some .boolean), Cond.methodLink RX4 55 yX4_isPerson, Cond.static yX4_isPerson, Cond.code yX4_isPerson cX4_isPerson 1 (some .boolean), Cond.methodLink RX4 127 yX4_isChoice, Cond.static yX4_isChoice, Cond.code yX4_isChoice cX4_isChoice 1 (some .boolean), Cond.methodLink RX4 103 yX0_become, Cond.instanceMethod yX0_become, Cond.selects RX0 yX0_become yX0_become, Cond.initialized RX0, Cond.code yX0_become cX0_become 2 none, Cond.fieldLink RX0 9 "LieBridges$Beliefs" "days" "[I", Cond.static yX4_copy, Cond.code yX4_copy cX4_copy 3 none]
def wsX4_odds_r2 : List Cond := [Cond.methodLink RX4 134 yX4_at, Cond.static yX4_at, Cond.code yX4_at cX4_at 2 (some .int), Cond.methodLink RX4 182 yX4_tellToAll, Cond.instanceMethod yX4_tellToAll, Cond.selects RX4 yX4_tellToAll yX4_tellToAll, Cond.code yX4_tellToAll cX4_tellToAll 5 none, Cond.methodLink RX4 226 yX1_tell, Cond.instanceMethod yX1_tell, Cond.selects RX1 yX1_tell yX1_tell, Cond.initialized RX1, Cond.code yX1_tell cX1_tell 6 (some .boolean), Cond.fieldLink RX1 24 "LieBridges$Delta" "trusted" "[I", Cond.fieldLink RX1 18 "LieBridges$Delta" "layers" "[I", Cond.fieldLink RX1 27 "LieBridges$Delta" "known" "[I", Cond.fieldLink RX1 43 "LieBridges$Delta" "fadeDays" "I", Cond.methodLink RX1 71 yX1_mayTell, Cond.instanceMethod yX1_mayTell, Cond.selects RX1 yX1_mayTell yX1_mayTell, Cond.code yX1_mayTell cX1_mayTell 4 (some .boolean), Cond.methodLink RX1 67 yX0_of, Cond.instanceMethod yX0_of, Cond.selects RX0 yX0_of yX0_of, Cond.code yX0_of cX0_of 4 (some .int)]
def wsX4_odds_r3 : List Cond := [Cond.static yX4_hasBit, Cond.code yX4_hasBit cX4_hasBit 3 (some .boolean), Cond.methodLink RX1 55 yX0_set, Cond.instanceMethod yX0_set, Cond.selects RX0 yX0_set yX0_set, Cond.code yX0_set cX0_set 4 none, Cond.static yX4_put, Cond.code yX4_put cX4_put 3 none, Cond.methodLink RX4 172 yX4_denyToAll, Cond.instanceMethod yX4_denyToAll, Cond.selects RX4 yX4_denyToAll yX4_denyToAll, Cond.code yX4_denyToAll cX4_denyToAll 6 (some .int), Cond.methodLink RX4 257 yX1_deny, Cond.instanceMethod yX1_deny, Cond.selects RX1 yX1_deny yX1_deny, Cond.code yX1_deny cX1_deny 6 (some .boolean), Cond.methodLink RX4 142 yX0_load, Cond.instanceMethod yX0_load, Cond.selects RX0 yX0_load yX0_load, Cond.code yX0_load cX0_load 5 (some .int), Cond.methodLink RX0 19 yX0_of]
def wsX4_odds : List Cond := .code yX4_odds cX4_odds 5 (some .int) :: ((wsX4_odds_r1 ++ (wsX4_odds_r2 ++ wsX4_odds_r3)) ++ wsX40 ++ wsX10 ++ wsX00)
def wsX4_tenths : List Cond := .code yX4_tenths cX4_tenths 4 (some .int) :: ([.fieldLink RX4 10 "LieBridges" "now" "LLieBridges$Delta;", .fieldLink RX4 186 "LieBridges$Delta" "holds" "[I", .methodLink RX4 48 yX4_isPlank, .static yX4_isPlank, .initialized RX4, .code yX4_isPlank cX4_isPlank 1 (some .boolean), .methodLink RX4 79 yX4_within, .static yX4_within, .code yX4_within cX4_within 3 (some .boolean), .methodLink RX4 134 yX4_at, .static yX4_at, .code yX4_at cX4_at 2 (some .int), .methodLink RX4 189 yX4_put, .static yX4_put, .code yX4_put cX4_put 3 none] ++ wsX40 ++ wsX10)
def wsX4_findSafest_r1 : List Cond := [Cond.fieldLink RX4 30 "LieBridges" "ways" "LLieBridges$Ways;", Cond.fieldLink RX4 10 "LieBridges" "now" "LLieBridges$Delta;", Cond.fieldLink RX4 186 "LieBridges$Delta" "holds" "[I", Cond.methodLink RX4 134 yX4_at, Cond.static yX4_at, Cond.initialized RX4, Cond.code yX4_at cX4_at 2 (some .int), Cond.methodLink RX4 148 yX3_weigh, Cond.instanceMethod yX3_weigh, Cond.selects RX3 yX3_weigh yX3_weigh, Cond.initialized RX3, Cond.code yX3_weigh cX3_weigh 3 none, Cond.fieldLink RX3 9 "LieBridges$Ways" "weights" "[I", Cond.static yX4_put, Cond.code yX4_put cX4_put 3 none, Cond.methodLink RX4 264 yX3_findLikeliest, Cond.instanceMethod yX3_findLikeliest, Cond.selects RX3 yX3_findLikeliest yX3_findLikeliest, Cond.code yX3_findLikeliest cX3_findLikeliest 4 none, Cond.fieldLink RX3 25 "LieBridges$Ways" "likeliest" "Z", Cond.constantLong RX3 33 (1000000), Cond.methodLink RX3 29 yX3_find, Cond.instanceMethod yX3_find, Cond.selects RX3 yX3_find yX3_find]
def wsX4_findSafest_r2 : List Cond := [Cond.code yX3_find cX3_find 6 none, Cond.fieldLink RX3 43 "LieBridges$Ways" "goal" "I", Cond.fieldLink RX3 35 "LieBridges$Ways" "length" "I", Cond.fieldLink RX3 46 "LieBridges$Ways" "worth" "J", Cond.methodLink RX3 50 yX3_walk, Cond.instanceMethod yX3_walk, Cond.selects RX3 yX3_walk yX3_walk, Cond.code yX3_walk cX3_walk 8 none, Cond.methodLink RX3 54 yX3_keepIfBetter, Cond.instanceMethod yX3_keepIfBetter, Cond.selects RX3 yX3_keepIfBetter yX3_keepIfBetter, Cond.code yX3_keepIfBetter cX3_keepIfBetter 4 none, Cond.fieldLink RX3 15 "LieBridges$Ways" "trodden" "[I", Cond.fieldLink RX3 18 "LieBridges$Ways" "best" "[I", Cond.methodLink RX3 70 yX3_found, Cond.instanceMethod yX3_found, Cond.selects RX3 yX3_found yX3_found, Cond.code yX3_found cX3_found 1 (some .boolean), Cond.static yX4_copy, Cond.code yX4_copy cX4_copy 3 none, Cond.methodLink RX3 58 yX3_tread, Cond.instanceMethod yX3_tread, Cond.selects RX3 yX3_tread yX3_tread, Cond.code yX3_tread cX3_tread 12 none]
def wsX4_findSafest_r3 : List Cond := [Cond.constantLong RX3 68 (10), Cond.methodLink RX3 62 yX1_across, Cond.instanceMethod yX1_across, Cond.selects RX1 yX1_across yX1_across, Cond.initialized RX1, Cond.code yX1_across cX1_across 3 (some .int), Cond.fieldLink RX1 9 "LieBridges$Delta" "lessers" "[I", Cond.fieldLink RX1 15 "LieBridges$Delta" "greaters" "[I", Cond.static yX4_isPlank, Cond.code yX4_isPlank cX4_isPlank 1 (some .boolean), Cond.methodLink RX4 79 yX4_within, Cond.static yX4_within, Cond.code yX4_within cX4_within 3 (some .boolean)]
def wsX4_findSafest : List Cond := .code yX4_findSafest cX4_findSafest 4 none :: ((wsX4_findSafest_r1 ++ (wsX4_findSafest_r2 ++ wsX4_findSafest_r3)) ++ wsX40 ++ wsX10 ++ wsX30)
def wsX4_safe_r1 : List Cond := [Cond.fieldLink RX4 30 "LieBridges" "ways" "LLieBridges$Ways;", Cond.methodLink RX4 52 yX4_isIsland, Cond.static yX4_isIsland, Cond.initialized RX4, Cond.code yX4_isIsland cX4_isIsland 1 (some .boolean), Cond.methodLink RX4 79 yX4_within, Cond.static yX4_within, Cond.code yX4_within cX4_within 3 (some .boolean), Cond.methodLink RX4 193 yX4_findSafest, Cond.instanceMethod yX4_findSafest, Cond.selects RX4 yX4_findSafest yX4_findSafest, Cond.code yX4_findSafest cX4_findSafest 4 none, Cond.fieldLink RX4 10 "LieBridges" "now" "LLieBridges$Delta;", Cond.fieldLink RX4 186 "LieBridges$Delta" "holds" "[I", Cond.methodLink RX4 134 yX4_at, Cond.static yX4_at, Cond.code yX4_at cX4_at 2 (some .int), Cond.methodLink RX4 148 yX3_weigh, Cond.instanceMethod yX3_weigh, Cond.selects RX3 yX3_weigh yX3_weigh, Cond.initialized RX3, Cond.code yX3_weigh cX3_weigh 3 none, Cond.fieldLink RX3 9 "LieBridges$Ways" "weights" "[I", Cond.static yX4_put]
def wsX4_safe_r2 : List Cond := [Cond.code yX4_put cX4_put 3 none, Cond.methodLink RX4 264 yX3_findLikeliest, Cond.instanceMethod yX3_findLikeliest, Cond.selects RX3 yX3_findLikeliest yX3_findLikeliest, Cond.code yX3_findLikeliest cX3_findLikeliest 4 none, Cond.fieldLink RX3 25 "LieBridges$Ways" "likeliest" "Z", Cond.constantLong RX3 33 (1000000), Cond.methodLink RX3 29 yX3_find, Cond.instanceMethod yX3_find, Cond.selects RX3 yX3_find yX3_find, Cond.code yX3_find cX3_find 6 none, Cond.fieldLink RX3 43 "LieBridges$Ways" "goal" "I", Cond.fieldLink RX3 35 "LieBridges$Ways" "length" "I", Cond.fieldLink RX3 46 "LieBridges$Ways" "worth" "J", Cond.methodLink RX3 50 yX3_walk, Cond.instanceMethod yX3_walk, Cond.selects RX3 yX3_walk yX3_walk, Cond.code yX3_walk cX3_walk 8 none, Cond.methodLink RX3 54 yX3_keepIfBetter, Cond.instanceMethod yX3_keepIfBetter, Cond.selects RX3 yX3_keepIfBetter yX3_keepIfBetter, Cond.code yX3_keepIfBetter cX3_keepIfBetter 4 none, Cond.fieldLink RX3 15 "LieBridges$Ways" "trodden" "[I", Cond.fieldLink RX3 18 "LieBridges$Ways" "best" "[I"]
def wsX4_safe_r3 : List Cond := [Cond.methodLink RX3 70 yX3_found, Cond.instanceMethod yX3_found, Cond.selects RX3 yX3_found yX3_found, Cond.code yX3_found cX3_found 1 (some .boolean), Cond.static yX4_copy, Cond.code yX4_copy cX4_copy 3 none, Cond.methodLink RX3 58 yX3_tread, Cond.instanceMethod yX3_tread, Cond.selects RX3 yX3_tread yX3_tread, Cond.code yX3_tread cX3_tread 12 none, Cond.constantLong RX3 68 (10), Cond.methodLink RX3 62 yX1_across, Cond.instanceMethod yX1_across, Cond.selects RX1 yX1_across yX1_across, Cond.initialized RX1, Cond.code yX1_across cX1_across 3 (some .int), Cond.fieldLink RX1 9 "LieBridges$Delta" "lessers" "[I", Cond.fieldLink RX1 15 "LieBridges$Delta" "greaters" "[I", Cond.static yX4_isPlank, Cond.code yX4_isPlank cX4_isPlank 1 (some .boolean), Cond.methodLink RX4 164 yX3_step, Cond.instanceMethod yX3_step, Cond.selects RX3 yX3_step yX3_step, Cond.code yX3_step cX3_step 2 (some .int)]
def wsX4_safe : List Cond := .code yX4_safe cX4_safe 4 (some .int) :: ((wsX4_safe_r1 ++ (wsX4_safe_r2 ++ wsX4_safe_r3)) ++ wsX40 ++ wsX10 ++ wsX30)
def wsX4_sharedDivisor : List Cond := .code yX4_sharedDivisor cX4_sharedDivisor 11 (some .long) :: ([])
def wsX4_chance_r1 : List Cond := [Cond.constantLong RX4 196 (-1000000000000000001), Cond.constantLong RX4 198 (-1000000000000000002), Cond.fieldLink RX4 30 "LieBridges" "ways" "LLieBridges$Ways;", Cond.fieldLink RX4 160 "LieBridges$Ways" "worth" "J", Cond.constantLong RX4 200 (1000000), Cond.methodLink RX4 52 yX4_isIsland, Cond.static yX4_isIsland, Cond.initialized RX4, Cond.code yX4_isIsland cX4_isIsland 1 (some .boolean), Cond.methodLink RX4 79 yX4_within, Cond.static yX4_within, Cond.code yX4_within cX4_within 3 (some .boolean), Cond.methodLink RX4 127 yX4_isChoice, Cond.static yX4_isChoice, Cond.code yX4_isChoice cX4_isChoice 1 (some .boolean), Cond.methodLink RX4 193 yX4_findSafest, Cond.instanceMethod yX4_findSafest, Cond.selects RX4 yX4_findSafest yX4_findSafest, Cond.code yX4_findSafest cX4_findSafest 4 none, Cond.fieldLink RX4 10 "LieBridges" "now" "LLieBridges$Delta;", Cond.fieldLink RX4 186 "LieBridges$Delta" "holds" "[I", Cond.methodLink RX4 134 yX4_at, Cond.static yX4_at, Cond.code yX4_at cX4_at 2 (some .int)]
def wsX4_chance_r2 : List Cond := [Cond.methodLink RX4 148 yX3_weigh, Cond.instanceMethod yX3_weigh, Cond.selects RX3 yX3_weigh yX3_weigh, Cond.initialized RX3, Cond.code yX3_weigh cX3_weigh 3 none, Cond.fieldLink RX3 9 "LieBridges$Ways" "weights" "[I", Cond.static yX4_put, Cond.code yX4_put cX4_put 3 none, Cond.methodLink RX4 264 yX3_findLikeliest, Cond.instanceMethod yX3_findLikeliest, Cond.selects RX3 yX3_findLikeliest yX3_findLikeliest, Cond.code yX3_findLikeliest cX3_findLikeliest 4 none, Cond.fieldLink RX3 25 "LieBridges$Ways" "likeliest" "Z", Cond.constantLong RX3 33 (1000000), Cond.methodLink RX3 29 yX3_find, Cond.instanceMethod yX3_find, Cond.selects RX3 yX3_find yX3_find, Cond.code yX3_find cX3_find 6 none, Cond.fieldLink RX3 43 "LieBridges$Ways" "goal" "I", Cond.fieldLink RX3 35 "LieBridges$Ways" "length" "I", Cond.fieldLink RX3 46 "LieBridges$Ways" "worth" "J", Cond.methodLink RX3 50 yX3_walk, Cond.instanceMethod yX3_walk, Cond.selects RX3 yX3_walk yX3_walk]
def wsX4_chance_r3 : List Cond := [Cond.code yX3_walk cX3_walk 8 none, Cond.methodLink RX3 54 yX3_keepIfBetter, Cond.instanceMethod yX3_keepIfBetter, Cond.selects RX3 yX3_keepIfBetter yX3_keepIfBetter, Cond.code yX3_keepIfBetter cX3_keepIfBetter 4 none, Cond.fieldLink RX3 15 "LieBridges$Ways" "trodden" "[I", Cond.fieldLink RX3 18 "LieBridges$Ways" "best" "[I", Cond.methodLink RX3 70 yX3_found, Cond.instanceMethod yX3_found, Cond.selects RX3 yX3_found yX3_found, Cond.code yX3_found cX3_found 1 (some .boolean), Cond.static yX4_copy, Cond.code yX4_copy cX4_copy 3 none, Cond.methodLink RX3 58 yX3_tread, Cond.instanceMethod yX3_tread, Cond.selects RX3 yX3_tread yX3_tread, Cond.code yX3_tread cX3_tread 12 none, Cond.constantLong RX3 68 (10), Cond.methodLink RX3 62 yX1_across, Cond.instanceMethod yX1_across, Cond.selects RX1 yX1_across yX1_across, Cond.initialized RX1, Cond.code yX1_across cX1_across 3 (some .int), Cond.fieldLink RX1 9 "LieBridges$Delta" "lessers" "[I"]
def wsX4_chance_r4 : List Cond := [Cond.fieldLink RX1 15 "LieBridges$Delta" "greaters" "[I", Cond.static yX4_isPlank, Cond.code yX4_isPlank cX4_isPlank 1 (some .boolean), Cond.methodLink RX4 156 yX3_found, Cond.methodLink RX4 202 yX4_sharedDivisor, Cond.static yX4_sharedDivisor, Cond.code yX4_sharedDivisor cX4_sharedDivisor 11 (some .long)]
def wsX4_chance : List Cond := .code yX4_chance cX4_chance 8 (some .long) :: ((wsX4_chance_r1 ++ (wsX4_chance_r2 ++ (wsX4_chance_r3 ++ wsX4_chance_r4))) ++ wsX40 ++ wsX30 ++ wsX10)
def wsX4_seen : List Cond := .code yX4_seen cX4_seen 3 (some .int) :: ([.fieldLink RX4 10 "LieBridges" "now" "LLieBridges$Delta;", .fieldLink RX4 206 "LieBridges$Delta" "sights" "I", .fieldLink RX4 209 "LieBridges$Delta" "sightPlanks" "[I", .fieldLink RX4 212 "LieBridges$Delta" "sightLoads" "[I", .methodLink RX4 48 yX4_isPlank, .static yX4_isPlank, .initialized RX4, .code yX4_isPlank cX4_isPlank 1 (some .boolean), .methodLink RX4 79 yX4_within, .static yX4_within, .code yX4_within cX4_within 3 (some .boolean), .methodLink RX4 189 yX4_put, .static yX4_put, .code yX4_put cX4_put 3 none] ++ wsX40 ++ wsX10)
def wsX4_forget : List Cond := .code yX4_forget cX4_forget 2 (some .int) :: ([.fieldLink RX4 10 "LieBridges" "now" "LLieBridges$Delta;", .fieldLink RX4 206 "LieBridges$Delta" "sights" "I"] ++ wsX40 ++ wsX10)
def wsX4_guess : List Cond := .code yX4_guess cX4_guess 4 none :: ([.fieldLink RX4 23 "LieBridges" "pad" "LLieBridges$Pad;", .fieldLink RX4 215 "LieBridges$Pad" "asked" "I", .fieldLink RX4 41 "LieBridges" "guesses" "[I", .methodLink RX4 189 yX4_put, .static yX4_put, .initialized RX4, .code yX4_put cX4_put 3 none] ++ wsX40 ++ wsX20)
def wsX4_fits_r1 : List Cond := [Cond.fieldLink RX4 37 "LieBridges" "trial" "LLieBridges$Beliefs;", Cond.fieldLink RX4 10 "LieBridges" "now" "LLieBridges$Delta;", Cond.fieldLink RX4 72 "LieBridges$Delta" "beliefs" "LLieBridges$Beliefs;", Cond.fieldLink RX4 23 "LieBridges" "pad" "LLieBridges$Pad;", Cond.fieldLink RX4 107 "LieBridges$Pad" "parts" "I", Cond.fieldLink RX4 206 "LieBridges$Delta" "sights" "I", Cond.fieldLink RX4 209 "LieBridges$Delta" "sightPlanks" "[I", Cond.fieldLink RX4 212 "LieBridges$Delta" "sightLoads" "[I", Cond.methodLink RX4 103 yX0_become, Cond.instanceMethod yX0_become, Cond.selects RX0 yX0_become yX0_become, Cond.initialized RX0, Cond.code yX0_become cX0_become 2 none, Cond.fieldLink RX0 9 "LieBridges$Beliefs" "days" "[I", Cond.static yX4_copy, Cond.initialized RX4, Cond.code yX4_copy cX4_copy 3 none, Cond.methodLink RX4 134 yX4_at, Cond.static yX4_at, Cond.code yX4_at cX4_at 2 (some .int), Cond.methodLink RX4 110 yX4_takesEffect, Cond.instanceMethod yX4_takesEffect, Cond.selects RX4 yX4_takesEffect yX4_takesEffect, Cond.code yX4_takesEffect cX4_takesEffect 7 (some .boolean)]
def wsX4_fits_r2 : List Cond := [Cond.fieldLink RX4 245 "LieBridges$Pad" "kinds" "[I", Cond.fieldLink RX4 248 "LieBridges$Pad" "speakers" "[I", Cond.fieldLink RX4 41 "LieBridges" "guesses" "[I", Cond.fieldLink RX4 251 "LieBridges$Pad" "hearers" "[I", Cond.fieldLink RX4 254 "LieBridges$Pad" "planks" "[I", Cond.methodLink RX4 179 yX0_fadeADay, Cond.instanceMethod yX0_fadeADay, Cond.selects RX0 yX0_fadeADay yX0_fadeADay, Cond.code yX0_fadeADay cX0_fadeADay 2 none, Cond.methodLink RX4 226 yX1_tell, Cond.instanceMethod yX1_tell, Cond.selects RX1 yX1_tell yX1_tell, Cond.initialized RX1, Cond.code yX1_tell cX1_tell 6 (some .boolean), Cond.fieldLink RX1 24 "LieBridges$Delta" "trusted" "[I", Cond.fieldLink RX1 18 "LieBridges$Delta" "layers" "[I", Cond.fieldLink RX1 27 "LieBridges$Delta" "known" "[I", Cond.fieldLink RX1 43 "LieBridges$Delta" "fadeDays" "I", Cond.methodLink RX1 71 yX1_mayTell, Cond.instanceMethod yX1_mayTell, Cond.selects RX1 yX1_mayTell yX1_mayTell, Cond.code yX1_mayTell cX1_mayTell 4 (some .boolean), Cond.methodLink RX1 67 yX0_of, Cond.instanceMethod yX0_of]
def wsX4_fits_r3 : List Cond := [Cond.selects RX0 yX0_of yX0_of, Cond.code yX0_of cX0_of 4 (some .int), Cond.static yX4_hasBit, Cond.code yX4_hasBit cX4_hasBit 3 (some .boolean), Cond.methodLink RX1 55 yX0_set, Cond.instanceMethod yX0_set, Cond.selects RX0 yX0_set yX0_set, Cond.code yX0_set cX0_set 4 none, Cond.static yX4_put, Cond.code yX4_put cX4_put 3 none, Cond.methodLink RX4 257 yX1_deny, Cond.instanceMethod yX1_deny, Cond.selects RX1 yX1_deny yX1_deny, Cond.code yX1_deny cX1_deny 6 (some .boolean), Cond.methodLink RX4 142 yX0_load, Cond.instanceMethod yX0_load, Cond.selects RX0 yX0_load yX0_load, Cond.code yX0_load cX0_load 5 (some .int), Cond.methodLink RX0 19 yX0_of]
def wsX4_fits : List Cond := .code yX4_fits cX4_fits 2 (some .boolean) :: ((wsX4_fits_r1 ++ (wsX4_fits_r2 ++ wsX4_fits_r3)) ++ wsX40 ++ wsX10 ++ wsX20 ++ wsX00)
def wsX4_filled_r1 : List Cond := [Cond.fieldLink RX4 23 "LieBridges" "pad" "LLieBridges$Pad;", Cond.fieldLink RX4 215 "LieBridges$Pad" "asked" "I", Cond.fieldLink RX4 41 "LieBridges" "guesses" "[I", Cond.methodLink RX4 96 yX2_read, Cond.instanceMethod yX2_read, Cond.selects RX2 yX2_read yX2_read, Cond.initialized RX2, Cond.code yX2_read cX2_read 3 (some .int), Cond.fieldLink RX2 35 "LieBridges$Pad" "parts" "I", Cond.fieldLink RX2 38 "LieBridges$Pad" "asked" "I", Cond.fieldLink RX2 27 "LieBridges$Pad" "many" "I", Cond.fieldLink RX2 9 "LieBridges$Pad" "signs" "[I", Cond.static yX4_at, Cond.initialized RX4, Cond.code yX4_at cX4_at 2 (some .int), Cond.methodLink RX2 45 yX2_take, Cond.instanceMethod yX2_take, Cond.selects RX2 yX2_take yX2_take, Cond.code yX2_take cX2_take 3 (some .int), Cond.methodLink RX2 49 yX2_takeDay, Cond.instanceMethod yX2_takeDay, Cond.selects RX2 yX2_takeDay yX2_takeDay, Cond.code yX2_takeDay cX2_takeDay 1 (some .int), Cond.fieldLink RX2 15 "LieBridges$Pad" "kinds" "[I"]
def wsX4_filled_r2 : List Cond := [Cond.static yX4_put, Cond.code yX4_put cX4_put 3 none, Cond.methodLink RX2 53 yX2_takeSpeaker, Cond.instanceMethod yX2_takeSpeaker, Cond.selects RX2 yX2_takeSpeaker yX2_takeSpeaker, Cond.code yX2_takeSpeaker cX2_takeSpeaker 3 (some .int), Cond.fieldLink RX2 18 "LieBridges$Pad" "speakers" "[I", Cond.static yX4_isPerson, Cond.code yX4_isPerson cX4_isPerson 1 (some .boolean), Cond.methodLink RX4 79 yX4_within, Cond.static yX4_within, Cond.code yX4_within cX4_within 3 (some .boolean), Cond.methodLink RX2 57 yX2_takeHearer, Cond.instanceMethod yX2_takeHearer, Cond.selects RX2 yX2_takeHearer yX2_takeHearer, Cond.code yX2_takeHearer cX2_takeHearer 2 (some .int), Cond.fieldLink RX2 21 "LieBridges$Pad" "hearers" "[I", Cond.methodLink RX2 60 yX2_takeDenial, Cond.instanceMethod yX2_takeDenial, Cond.selects RX2 yX2_takeDenial yX2_takeDenial, Cond.code yX2_takeDenial cX2_takeDenial 1 (some .int), Cond.methodLink RX2 63 yX2_takePlank, Cond.instanceMethod yX2_takePlank, Cond.selects RX2 yX2_takePlank yX2_takePlank]
def wsX4_filled_r3 : List Cond := [Cond.code yX2_takePlank cX2_takePlank 2 (some .int), Cond.fieldLink RX2 24 "LieBridges$Pad" "planks" "[I", Cond.static yX4_isPlank, Cond.code yX4_isPlank cX4_isPlank 1 (some .boolean), Cond.methodLink RX4 218 yX4_guess, Cond.instanceMethod yX4_guess, Cond.selects RX4 yX4_guess yX4_guess, Cond.code yX4_guess cX4_guess 4 none, Cond.methodLink RX4 189 yX4_put, Cond.methodLink RX4 222 yX4_fits, Cond.instanceMethod yX4_fits, Cond.selects RX4 yX4_fits yX4_fits, Cond.code yX4_fits cX4_fits 2 (some .boolean), Cond.fieldLink RX4 37 "LieBridges" "trial" "LLieBridges$Beliefs;", Cond.fieldLink RX4 10 "LieBridges" "now" "LLieBridges$Delta;", Cond.fieldLink RX4 72 "LieBridges$Delta" "beliefs" "LLieBridges$Beliefs;", Cond.fieldLink RX4 107 "LieBridges$Pad" "parts" "I", Cond.fieldLink RX4 206 "LieBridges$Delta" "sights" "I", Cond.fieldLink RX4 209 "LieBridges$Delta" "sightPlanks" "[I", Cond.fieldLink RX4 212 "LieBridges$Delta" "sightLoads" "[I", Cond.methodLink RX4 103 yX0_become, Cond.instanceMethod yX0_become, Cond.selects RX0 yX0_become yX0_become, Cond.initialized RX0]
def wsX4_filled_r4 : List Cond := [Cond.code yX0_become cX0_become 2 none, Cond.fieldLink RX0 9 "LieBridges$Beliefs" "days" "[I", Cond.static yX4_copy, Cond.code yX4_copy cX4_copy 3 none, Cond.methodLink RX4 134 yX4_at, Cond.methodLink RX4 110 yX4_takesEffect, Cond.instanceMethod yX4_takesEffect, Cond.selects RX4 yX4_takesEffect yX4_takesEffect, Cond.code yX4_takesEffect cX4_takesEffect 7 (some .boolean), Cond.fieldLink RX4 245 "LieBridges$Pad" "kinds" "[I", Cond.fieldLink RX4 248 "LieBridges$Pad" "speakers" "[I", Cond.fieldLink RX4 251 "LieBridges$Pad" "hearers" "[I", Cond.fieldLink RX4 254 "LieBridges$Pad" "planks" "[I", Cond.methodLink RX4 179 yX0_fadeADay, Cond.instanceMethod yX0_fadeADay, Cond.selects RX0 yX0_fadeADay yX0_fadeADay, Cond.code yX0_fadeADay cX0_fadeADay 2 none, Cond.methodLink RX4 226 yX1_tell, Cond.instanceMethod yX1_tell, Cond.selects RX1 yX1_tell yX1_tell, Cond.initialized RX1, Cond.code yX1_tell cX1_tell 6 (some .boolean), Cond.fieldLink RX1 24 "LieBridges$Delta" "trusted" "[I", Cond.fieldLink RX1 18 "LieBridges$Delta" "layers" "[I"]
def wsX4_filled_r5 : List Cond := [Cond.fieldLink RX1 27 "LieBridges$Delta" "known" "[I", Cond.fieldLink RX1 43 "LieBridges$Delta" "fadeDays" "I", Cond.methodLink RX1 71 yX1_mayTell, Cond.instanceMethod yX1_mayTell, Cond.selects RX1 yX1_mayTell yX1_mayTell, Cond.code yX1_mayTell cX1_mayTell 4 (some .boolean), Cond.methodLink RX1 67 yX0_of, Cond.instanceMethod yX0_of, Cond.selects RX0 yX0_of yX0_of, Cond.code yX0_of cX0_of 4 (some .int), Cond.static yX4_hasBit, Cond.code yX4_hasBit cX4_hasBit 3 (some .boolean), Cond.methodLink RX1 55 yX0_set, Cond.instanceMethod yX0_set, Cond.selects RX0 yX0_set yX0_set, Cond.code yX0_set cX0_set 4 none, Cond.methodLink RX4 257 yX1_deny, Cond.instanceMethod yX1_deny, Cond.selects RX1 yX1_deny yX1_deny, Cond.code yX1_deny cX1_deny 6 (some .boolean), Cond.methodLink RX4 142 yX0_load, Cond.instanceMethod yX0_load, Cond.selects RX0 yX0_load yX0_load, Cond.code yX0_load cX0_load 5 (some .int)]
def wsX4_filled_r6 : List Cond := [Cond.methodLink RX0 19 yX0_of]
def wsX4_filled : List Cond := .code yX4_filled cX4_filled 6 (some .int) :: ((wsX4_filled_r1 ++ (wsX4_filled_r2 ++ (wsX4_filled_r3 ++ (wsX4_filled_r4 ++ (wsX4_filled_r5 ++ wsX4_filled_r6))))) ++ wsX40 ++ wsX20 ++ wsX10 ++ wsX00)
def wsX4_year_r1 : List Cond := [Cond.fieldLink RX4 37 "LieBridges" "trial" "LLieBridges$Beliefs;", Cond.fieldLink RX4 10 "LieBridges" "now" "LLieBridges$Delta;", Cond.fieldLink RX4 72 "LieBridges$Delta" "beliefs" "LLieBridges$Beliefs;", Cond.constant RX4 225 (65537), Cond.methodLink RX4 48 yX4_isPlank, Cond.static yX4_isPlank, Cond.initialized RX4, Cond.code yX4_isPlank cX4_isPlank 1 (some .boolean), Cond.methodLink RX4 79 yX4_within, Cond.static yX4_within, Cond.code yX4_within cX4_within 3 (some .boolean), Cond.methodLink RX4 103 yX0_become, Cond.instanceMethod yX0_become, Cond.selects RX0 yX0_become yX0_become, Cond.initialized RX0, Cond.code yX0_become cX0_become 2 none, Cond.fieldLink RX0 9 "LieBridges$Beliefs" "days" "[I", Cond.static yX4_copy, Cond.code yX4_copy cX4_copy 3 none, Cond.methodLink RX4 134 yX4_at, Cond.static yX4_at, Cond.code yX4_at cX4_at 2 (some .int), Cond.methodLink RX4 226 yX1_tell, Cond.instanceMethod yX1_tell]
def wsX4_year_r2 : List Cond := [Cond.selects RX1 yX1_tell yX1_tell, Cond.initialized RX1, Cond.code yX1_tell cX1_tell 6 (some .boolean), Cond.fieldLink RX1 24 "LieBridges$Delta" "trusted" "[I", Cond.fieldLink RX1 18 "LieBridges$Delta" "layers" "[I", Cond.fieldLink RX1 27 "LieBridges$Delta" "known" "[I", Cond.fieldLink RX1 43 "LieBridges$Delta" "fadeDays" "I", Cond.methodLink RX1 71 yX1_mayTell, Cond.instanceMethod yX1_mayTell, Cond.selects RX1 yX1_mayTell yX1_mayTell, Cond.code yX1_mayTell cX1_mayTell 4 (some .boolean), Cond.methodLink RX1 67 yX0_of, Cond.instanceMethod yX0_of, Cond.selects RX0 yX0_of yX0_of, Cond.code yX0_of cX0_of 4 (some .int), Cond.static yX4_hasBit, Cond.code yX4_hasBit cX4_hasBit 3 (some .boolean), Cond.methodLink RX1 55 yX0_set, Cond.instanceMethod yX0_set, Cond.selects RX0 yX0_set yX0_set, Cond.code yX0_set cX0_set 4 none, Cond.static yX4_put, Cond.code yX4_put cX4_put 3 none, Cond.methodLink RX4 179 yX0_fadeADay]
def wsX4_year_r3 : List Cond := [Cond.instanceMethod yX0_fadeADay, Cond.selects RX0 yX0_fadeADay yX0_fadeADay, Cond.code yX0_fadeADay cX0_fadeADay 2 none, Cond.methodLink RX4 142 yX0_load, Cond.instanceMethod yX0_load, Cond.selects RX0 yX0_load yX0_load, Cond.code yX0_load cX0_load 5 (some .int), Cond.methodLink RX0 19 yX0_of]
def wsX4_year : List Cond := .code yX4_year cX4_year 7 (some .int) :: ((wsX4_year_r1 ++ (wsX4_year_r2 ++ wsX4_year_r3)) ++ wsX40 ++ wsX10 ++ wsX00)
def wsX4_image_r1 : List Cond := [Cond.fieldLink RX4 16 "LieBridges" "images" "[LLieBridges$Delta;", Cond.classLink RX4 7 RX1, Cond.instantiable RX1 11, Cond.initialized RX1, Cond.fieldLink RX4 10 "LieBridges" "now" "LLieBridges$Delta;", Cond.methodLink RX4 9 yX1_init, Cond.instanceMethod yX1_init, Cond.code yX1_init cX1_init 2 none, Cond.methodLink RX1 3 objectInit, Cond.instanceMethod objectInit, Cond.code objectInit ⟨#[0xb1]⟩ 1 none, Cond.arrayClass .int, Cond.fieldLink RX1 9 "LieBridges$Delta" "lessers" "[I", Cond.fieldLink RX1 15 "LieBridges$Delta" "greaters" "[I", Cond.fieldLink RX1 18 "LieBridges$Delta" "layers" "[I", Cond.fieldLink RX1 21 "LieBridges$Delta" "holds" "[I", Cond.fieldLink RX1 24 "LieBridges$Delta" "trusted" "[I", Cond.fieldLink RX1 27 "LieBridges$Delta" "known" "[I", Cond.fieldLink RX1 30 "LieBridges$Delta" "sightPlanks" "[I", Cond.fieldLink RX1 33 "LieBridges$Delta" "sightLoads" "[I", Cond.classLink RX1 36 RX0, Cond.instantiable RX0 1, Cond.initialized RX0, Cond.fieldLink RX1 39 "LieBridges$Delta" "beliefs" "LLieBridges$Beliefs;"]
def wsX4_image_r2 : List Cond := [Cond.fieldLink RX1 43 "LieBridges$Delta" "fadeDays" "I", Cond.instanceMethod yX0_init, Cond.code yX0_init cX0_init 1 none, Cond.methodLink RX0 3 objectInit, Cond.fieldLink RX0 9 "LieBridges$Beliefs" "days" "[I", Cond.methodLink RX1 47 yX1_lay, Cond.instanceMethod yX1_lay, Cond.selects RX1 yX1_lay yX1_lay, Cond.code yX1_lay cX1_lay 6 none, Cond.static yX4_put, Cond.initialized RX4, Cond.code yX4_put cX4_put 3 none, Cond.methodLink RX1 55 yX0_set, Cond.instanceMethod yX0_set, Cond.selects RX0 yX0_set yX0_set, Cond.code yX0_set cX0_set 4 none, Cond.static yX4_putBit, Cond.code yX4_putBit cX4_putBit 5 none, Cond.methodLink RX4 134 yX4_at, Cond.static yX4_at, Cond.code yX4_at cX4_at 2 (some .int), Cond.methodLink RX4 189 yX4_put, Cond.methodLink RX4 230 yX1_become, Cond.instanceMethod yX1_become]
def wsX4_image_r3 : List Cond := [Cond.selects RX1 yX1_become yX1_become, Cond.code yX1_become cX1_become 2 none, Cond.fieldLink RX1 91 "LieBridges$Delta" "sights" "I", Cond.static yX4_copy, Cond.code yX4_copy cX4_copy 3 none, Cond.methodLink RX1 87 yX0_become, Cond.instanceMethod yX0_become, Cond.selects RX0 yX0_become yX0_become, Cond.code yX0_become cX0_become 2 none]
def wsX4_image : List Cond := .code yX4_image cX4_image 3 (some .int) :: ((wsX4_image_r1 ++ (wsX4_image_r2 ++ wsX4_image_r3)) ++ wsX40 ++ wsX10 ++ wsX00)
def wsX4_restore_r1 : List Cond := [Cond.fieldLink RX4 16 "LieBridges" "images" "[LLieBridges$Delta;", Cond.fieldLink RX4 10 "LieBridges" "now" "LLieBridges$Delta;", Cond.methodLink RX4 230 yX1_become, Cond.instanceMethod yX1_become, Cond.selects RX1 yX1_become yX1_become, Cond.initialized RX1, Cond.code yX1_become cX1_become 2 none, Cond.fieldLink RX1 9 "LieBridges$Delta" "lessers" "[I", Cond.fieldLink RX1 15 "LieBridges$Delta" "greaters" "[I", Cond.fieldLink RX1 18 "LieBridges$Delta" "layers" "[I", Cond.fieldLink RX1 21 "LieBridges$Delta" "holds" "[I", Cond.fieldLink RX1 24 "LieBridges$Delta" "trusted" "[I", Cond.fieldLink RX1 27 "LieBridges$Delta" "known" "[I", Cond.fieldLink RX1 30 "LieBridges$Delta" "sightPlanks" "[I", Cond.fieldLink RX1 33 "LieBridges$Delta" "sightLoads" "[I", Cond.fieldLink RX1 39 "LieBridges$Delta" "beliefs" "LLieBridges$Beliefs;", Cond.fieldLink RX1 43 "LieBridges$Delta" "fadeDays" "I", Cond.fieldLink RX1 91 "LieBridges$Delta" "sights" "I", Cond.static yX4_copy, Cond.initialized RX4, Cond.code yX4_copy cX4_copy 3 none, Cond.methodLink RX4 134 yX4_at, Cond.static yX4_at, Cond.code yX4_at cX4_at 2 (some .int)]
def wsX4_restore_r2 : List Cond := [Cond.methodLink RX1 87 yX0_become, Cond.instanceMethod yX0_become, Cond.selects RX0 yX0_become yX0_become, Cond.initialized RX0, Cond.code yX0_become cX0_become 2 none, Cond.fieldLink RX0 9 "LieBridges$Beliefs" "days" "[I"]
def wsX4_restore : List Cond := .code yX4_restore cX4_restore 3 (some .int) :: ((wsX4_restore_r1 ++ wsX4_restore_r2) ++ wsX40 ++ wsX10 ++ wsX00)
def wsX4_told : List Cond := .code yX4_told cX4_told 3 (some .int) :: ([.fieldLink RX4 23 "LieBridges" "pad" "LLieBridges$Pad;", .fieldLink RX4 90 "LieBridges$Pad" "many" "I", .fieldLink RX4 10 "LieBridges" "now" "LLieBridges$Delta;", .fieldLink RX4 83 "LieBridges$Delta" "fadeDays" "I", .fieldLink RX4 206 "LieBridges$Delta" "sights" "I", .fieldLink RX4 62 "LieBridges$Delta" "trusted" "[I", .fieldLink RX4 69 "LieBridges$Delta" "known" "[I", .fieldLink RX4 233 "LieBridges$Delta" "layers" "[I", .fieldLink RX4 236 "LieBridges$Delta" "lessers" "[I", .fieldLink RX4 239 "LieBridges$Delta" "greaters" "[I", .fieldLink RX4 186 "LieBridges$Delta" "holds" "[I", .methodLink RX4 134 yX4_at, .static yX4_at, .initialized RX4, .code yX4_at cX4_at 2 (some .int)] ++ wsX40 ++ wsX20 ++ wsX10)
def wsX5_init : List Cond := .code yX5_init cX5_init 2 none :: ([.methodLink RX5 1 objectInit, .instanceMethod objectInit, .code objectInit ⟨#[0xb1]⟩ 1 none, .arrayClass .int, .fieldLink RX5 7 "LieBridgesModel" "one" "[I", .fieldLink RX5 13 "LieBridgesModel" "two" "[I", .fieldLink RX5 16 "LieBridgesModel" "owner" "[I", .fieldLink RX5 19 "LieBridgesModel" "trusts" "[I", .fieldLink RX5 22 "LieBridgesModel" "knows" "[I", .fieldLink RX5 25 "LieBridgesModel" "days" "[I", .fieldLink RX5 28 "LieBridgesModel" "safety" "[I", .fieldLink RX5 31 "LieBridgesModel" "fade" "I", .fieldLink RX5 35 "LieBridgesModel" "sight" "[I", .fieldLink RX5 38 "LieBridgesModel" "pad" "[I", .fieldLink RX5 41 "LieBridgesModel" "now" "[I", .fieldLink RX5 44 "LieBridgesModel" "cost" "[I", .fieldLink RX5 47 "LieBridgesModel" "image" "[I", .arrayClass .boolean, .fieldLink RX5 50 "LieBridgesModel" "isKept" "[Z"] ++ wsX50)
def wsX5_in : List Cond := .code yX5_in cX5_in 3 (some .boolean) :: ([])
def wsX5_has : List Cond := .code yX5_has cX5_has 2 (some .boolean) :: ([])
def wsX5_is6 : List Cond := .code yX5_is6 cX5_is6 1 (some .boolean) :: ([.methodLink RX5 54 yX5_in, .static yX5_in, .initialized RX5, .code yX5_in cX5_in 3 (some .boolean)])
def wsX5_plank : List Cond := .code yX5_plank cX5_plank 6 (some .int) :: ([.fieldLink RX5 7 "LieBridgesModel" "one" "[I", .fieldLink RX5 13 "LieBridgesModel" "two" "[I", .fieldLink RX5 16 "LieBridgesModel" "owner" "[I", .fieldLink RX5 25 "LieBridgesModel" "days" "[I", .fieldLink RX5 22 "LieBridgesModel" "knows" "[I", .methodLink RX5 58 yX5_is6, .static yX5_is6, .initialized RX5, .code yX5_is6 cX5_is6 1 (some .boolean), .methodLink RX5 54 yX5_in, .static yX5_in, .code yX5_in cX5_in 3 (some .boolean)] ++ wsX50)
def wsX5_trust : List Cond := .code yX5_trust cX5_trust 4 (some .int) :: ([.fieldLink RX5 19 "LieBridgesModel" "trusts" "[I", .methodLink RX5 58 yX5_is6, .static yX5_is6, .initialized RX5, .code yX5_is6 cX5_is6 1 (some .boolean), .methodLink RX5 54 yX5_in, .static yX5_in, .code yX5_in cX5_in 3 (some .boolean)] ++ wsX50)
def wsX5_know : List Cond := .code yX5_know cX5_know 4 (some .int) :: ([.fieldLink RX5 22 "LieBridgesModel" "knows" "[I", .fieldLink RX5 25 "LieBridgesModel" "days" "[I", .methodLink RX5 58 yX5_is6, .static yX5_is6, .initialized RX5, .code yX5_is6 cX5_is6 1 (some .boolean), .methodLink RX5 54 yX5_in, .static yX5_in, .code yX5_in cX5_in 3 (some .boolean)] ++ wsX50)
def wsX5_fade : List Cond := .code yX5_fade cX5_fade 3 (some .int) :: ([.fieldLink RX5 31 "LieBridgesModel" "fade" "I", .methodLink RX5 54 yX5_in, .static yX5_in, .initialized RX5, .code yX5_in cX5_in 3 (some .boolean)] ++ wsX50)
def wsX5_say : List Cond := .code yX5_say cX5_say 2 (some .int) :: ([.fieldLink RX5 62 "LieBridgesModel" "signs" "I", .fieldLink RX5 38 "LieBridgesModel" "pad" "[I", .methodLink RX5 54 yX5_in, .static yX5_in, .initialized RX5, .code yX5_in cX5_in 3 (some .boolean)] ++ wsX50)
def wsX5_wipe : List Cond := .code yX5_wipe cX5_wipe 2 (some .int) :: ([.fieldLink RX5 62 "LieBridgesModel" "signs" "I"] ++ wsX50)
def wsX5_faultOf : List Cond := .code yX5_faultOf cX5_faultOf 6 (some .int) :: ([.fieldLink RX5 62 "LieBridgesModel" "signs" "I", .fieldLink RX5 38 "LieBridgesModel" "pad" "[I", .methodLink RX5 54 yX5_in, .static yX5_in, .initialized RX5, .code yX5_in cX5_in 3 (some .boolean)] ++ wsX50)
def wsX5_fault : List Cond := .code yX5_fault cX5_fault 1 (some .int) :: ([.methodLink RX5 65 yX5_faultOf, .instanceMethod yX5_faultOf, .selects RX5 yX5_faultOf yX5_faultOf, .initialized RX5, .code yX5_faultOf cX5_faultOf 6 (some .int), .fieldLink RX5 62 "LieBridgesModel" "signs" "I", .fieldLink RX5 38 "LieBridgesModel" "pad" "[I", .methodLink RX5 54 yX5_in, .static yX5_in, .code yX5_in cX5_in 3 (some .boolean)] ++ wsX50)
def wsX5_opens : List Cond := .code yX5_opens cX5_opens 3 (some .int) :: ([.fieldLink RX5 62 "LieBridgesModel" "signs" "I", .fieldLink RX5 38 "LieBridgesModel" "pad" "[I"] ++ wsX50)
def wsX5_asNow : List Cond := .code yX5_asNow cX5_asNow 2 none :: ([.fieldLink RX5 41 "LieBridgesModel" "now" "[I", .fieldLink RX5 25 "LieBridgesModel" "days" "[I"] ++ wsX50)
def wsX5_tells : List Cond := .code yX5_tells cX5_tells 5 (some .boolean) :: ([.fieldLink RX5 16 "LieBridgesModel" "owner" "[I", .fieldLink RX5 41 "LieBridgesModel" "now" "[I", .fieldLink RX5 19 "LieBridgesModel" "trusts" "[I", .fieldLink RX5 22 "LieBridgesModel" "knows" "[I", .fieldLink RX5 31 "LieBridgesModel" "fade" "I", .methodLink RX5 69 yX5_has, .static yX5_has, .initialized RX5, .code yX5_has cX5_has 2 (some .boolean)] ++ wsX50)
def wsX5_denies : List Cond := .code yX5_denies cX5_denies 5 (some .boolean) :: ([.fieldLink RX5 19 "LieBridgesModel" "trusts" "[I", .fieldLink RX5 41 "LieBridgesModel" "now" "[I", .methodLink RX5 69 yX5_has, .static yX5_has, .initialized RX5, .code yX5_has cX5_has 2 (some .boolean)] ++ wsX50)
def wsX5_pass : List Cond := .code yX5_pass cX5_pass 2 none :: ([.fieldLink RX5 41 "LieBridgesModel" "now" "[I"] ++ wsX50)
def wsX5_bornBy : List Cond := .code yX5_bornBy cX5_bornBy 4 (some .int) :: ([.fieldLink RX5 41 "LieBridgesModel" "now" "[I"] ++ wsX50)
def wsX5_goText_r1 : List Cond := [Cond.fieldLink RX5 79 "LieBridgesModel" "parts" "I", Cond.fieldLink RX5 82 "LieBridgesModel" "vainAt" "I", Cond.fieldLink RX5 62 "LieBridgesModel" "signs" "I", Cond.fieldLink RX5 38 "LieBridgesModel" "pad" "[I", Cond.methodLink RX5 73 yX5_asNow, Cond.instanceMethod yX5_asNow, Cond.selects RX5 yX5_asNow yX5_asNow, Cond.initialized RX5, Cond.code yX5_asNow cX5_asNow 2 none, Cond.fieldLink RX5 41 "LieBridgesModel" "now" "[I", Cond.fieldLink RX5 25 "LieBridgesModel" "days" "[I", Cond.methodLink RX5 76 yX5_opens, Cond.instanceMethod yX5_opens, Cond.selects RX5 yX5_opens yX5_opens, Cond.code yX5_opens cX5_opens 3 (some .int), Cond.methodLink RX5 85 yX5_pass, Cond.instanceMethod yX5_pass, Cond.selects RX5 yX5_pass yX5_pass, Cond.code yX5_pass cX5_pass 2 none, Cond.methodLink RX5 88 yX5_denies, Cond.instanceMethod yX5_denies, Cond.selects RX5 yX5_denies yX5_denies, Cond.code yX5_denies cX5_denies 5 (some .boolean), Cond.fieldLink RX5 19 "LieBridgesModel" "trusts" "[I"]
def wsX5_goText_r2 : List Cond := [Cond.methodLink RX5 69 yX5_has, Cond.static yX5_has, Cond.code yX5_has cX5_has 2 (some .boolean), Cond.methodLink RX5 91 yX5_tells, Cond.instanceMethod yX5_tells, Cond.selects RX5 yX5_tells yX5_tells, Cond.code yX5_tells cX5_tells 5 (some .boolean), Cond.fieldLink RX5 16 "LieBridgesModel" "owner" "[I", Cond.fieldLink RX5 22 "LieBridgesModel" "knows" "[I", Cond.fieldLink RX5 31 "LieBridgesModel" "fade" "I"]
def wsX5_goText : List Cond := .code yX5_goText cX5_goText 11 (some .int) :: ((wsX5_goText_r1 ++ wsX5_goText_r2) ++ wsX50)
def wsX5_barOfText : List Cond := .code yX5_barOfText cX5_barOfText 1 (some .int) :: ([.methodLink RX5 65 yX5_faultOf, .instanceMethod yX5_faultOf, .selects RX5 yX5_faultOf yX5_faultOf, .initialized RX5, .code yX5_faultOf cX5_faultOf 6 (some .int), .fieldLink RX5 62 "LieBridgesModel" "signs" "I", .fieldLink RX5 38 "LieBridgesModel" "pad" "[I", .methodLink RX5 54 yX5_in, .static yX5_in, .code yX5_in cX5_in 3 (some .boolean), .methodLink RX5 76 yX5_opens, .instanceMethod yX5_opens, .selects RX5 yX5_opens yX5_opens, .code yX5_opens cX5_opens 3 (some .int)] ++ wsX50)
def wsX5_vain_r1 : List Cond := [Cond.fieldLink RX5 82 "LieBridgesModel" "vainAt" "I", Cond.methodLink RX5 94 yX5_barOfText, Cond.instanceMethod yX5_barOfText, Cond.selects RX5 yX5_barOfText yX5_barOfText, Cond.initialized RX5, Cond.code yX5_barOfText cX5_barOfText 1 (some .int), Cond.methodLink RX5 65 yX5_faultOf, Cond.instanceMethod yX5_faultOf, Cond.selects RX5 yX5_faultOf yX5_faultOf, Cond.code yX5_faultOf cX5_faultOf 6 (some .int), Cond.fieldLink RX5 62 "LieBridgesModel" "signs" "I", Cond.fieldLink RX5 38 "LieBridgesModel" "pad" "[I", Cond.methodLink RX5 54 yX5_in, Cond.static yX5_in, Cond.code yX5_in cX5_in 3 (some .boolean), Cond.methodLink RX5 76 yX5_opens, Cond.instanceMethod yX5_opens, Cond.selects RX5 yX5_opens yX5_opens, Cond.code yX5_opens cX5_opens 3 (some .int), Cond.methodLink RX5 97 yX5_goText, Cond.instanceMethod yX5_goText, Cond.selects RX5 yX5_goText yX5_goText, Cond.code yX5_goText cX5_goText 11 (some .int), Cond.fieldLink RX5 79 "LieBridgesModel" "parts" "I"]
def wsX5_vain_r2 : List Cond := [Cond.methodLink RX5 73 yX5_asNow, Cond.instanceMethod yX5_asNow, Cond.selects RX5 yX5_asNow yX5_asNow, Cond.code yX5_asNow cX5_asNow 2 none, Cond.fieldLink RX5 41 "LieBridgesModel" "now" "[I", Cond.fieldLink RX5 25 "LieBridgesModel" "days" "[I", Cond.methodLink RX5 85 yX5_pass, Cond.instanceMethod yX5_pass, Cond.selects RX5 yX5_pass yX5_pass, Cond.code yX5_pass cX5_pass 2 none, Cond.methodLink RX5 88 yX5_denies, Cond.instanceMethod yX5_denies, Cond.selects RX5 yX5_denies yX5_denies, Cond.code yX5_denies cX5_denies 5 (some .boolean), Cond.fieldLink RX5 19 "LieBridgesModel" "trusts" "[I", Cond.methodLink RX5 69 yX5_has, Cond.static yX5_has, Cond.code yX5_has cX5_has 2 (some .boolean), Cond.methodLink RX5 91 yX5_tells, Cond.instanceMethod yX5_tells, Cond.selects RX5 yX5_tells yX5_tells, Cond.code yX5_tells cX5_tells 5 (some .boolean), Cond.fieldLink RX5 16 "LieBridgesModel" "owner" "[I", Cond.fieldLink RX5 22 "LieBridgesModel" "knows" "[I"]
def wsX5_vain_r3 : List Cond := [Cond.fieldLink RX5 31 "LieBridgesModel" "fade" "I"]
def wsX5_vain : List Cond := .code yX5_vain cX5_vain 4 (some .int) :: ((wsX5_vain_r1 ++ (wsX5_vain_r2 ++ wsX5_vain_r3)) ++ wsX50)
def wsX5_done_r1 : List Cond := [Cond.fieldLink RX5 25 "LieBridgesModel" "days" "[I", Cond.fieldLink RX5 41 "LieBridgesModel" "now" "[I", Cond.fieldLink RX5 62 "LieBridgesModel" "signs" "I", Cond.fieldLink RX5 79 "LieBridgesModel" "parts" "I", Cond.methodLink RX5 94 yX5_barOfText, Cond.instanceMethod yX5_barOfText, Cond.selects RX5 yX5_barOfText yX5_barOfText, Cond.initialized RX5, Cond.code yX5_barOfText cX5_barOfText 1 (some .int), Cond.methodLink RX5 65 yX5_faultOf, Cond.instanceMethod yX5_faultOf, Cond.selects RX5 yX5_faultOf yX5_faultOf, Cond.code yX5_faultOf cX5_faultOf 6 (some .int), Cond.fieldLink RX5 38 "LieBridgesModel" "pad" "[I", Cond.methodLink RX5 54 yX5_in, Cond.static yX5_in, Cond.code yX5_in cX5_in 3 (some .boolean), Cond.methodLink RX5 76 yX5_opens, Cond.instanceMethod yX5_opens, Cond.selects RX5 yX5_opens yX5_opens, Cond.code yX5_opens cX5_opens 3 (some .int), Cond.methodLink RX5 97 yX5_goText, Cond.instanceMethod yX5_goText, Cond.selects RX5 yX5_goText yX5_goText]
def wsX5_done_r2 : List Cond := [Cond.code yX5_goText cX5_goText 11 (some .int), Cond.fieldLink RX5 82 "LieBridgesModel" "vainAt" "I", Cond.methodLink RX5 73 yX5_asNow, Cond.instanceMethod yX5_asNow, Cond.selects RX5 yX5_asNow yX5_asNow, Cond.code yX5_asNow cX5_asNow 2 none, Cond.methodLink RX5 85 yX5_pass, Cond.instanceMethod yX5_pass, Cond.selects RX5 yX5_pass yX5_pass, Cond.code yX5_pass cX5_pass 2 none, Cond.methodLink RX5 88 yX5_denies, Cond.instanceMethod yX5_denies, Cond.selects RX5 yX5_denies yX5_denies, Cond.code yX5_denies cX5_denies 5 (some .boolean), Cond.fieldLink RX5 19 "LieBridgesModel" "trusts" "[I", Cond.methodLink RX5 69 yX5_has, Cond.static yX5_has, Cond.code yX5_has cX5_has 2 (some .boolean), Cond.methodLink RX5 91 yX5_tells, Cond.instanceMethod yX5_tells, Cond.selects RX5 yX5_tells yX5_tells, Cond.code yX5_tells cX5_tells 5 (some .boolean), Cond.fieldLink RX5 16 "LieBridgesModel" "owner" "[I", Cond.fieldLink RX5 22 "LieBridgesModel" "knows" "[I"]
def wsX5_done_r3 : List Cond := [Cond.fieldLink RX5 31 "LieBridgesModel" "fade" "I"]
def wsX5_done : List Cond := .code yX5_done cX5_done 3 (some .int) :: ((wsX5_done_r1 ++ (wsX5_done_r2 ++ wsX5_done_r3)) ++ wsX50)
def wsX5_beliefOf : List Cond := .code yX5_beliefOf cX5_beliefOf 4 (some .int) :: ([.fieldLink RX5 41 "LieBridgesModel" "now" "[I", .methodLink RX5 101 yX5_bornBy, .instanceMethod yX5_bornBy, .selects RX5 yX5_bornBy yX5_bornBy, .initialized RX5, .code yX5_bornBy cX5_bornBy 4 (some .int)] ++ wsX50)
def wsX5_bears : List Cond := .code yX5_bears cX5_bears 3 (some .int) :: ([.methodLink RX5 58 yX5_is6, .static yX5_is6, .initialized RX5, .code yX5_is6 cX5_is6 1 (some .boolean), .methodLink RX5 54 yX5_in, .static yX5_in, .code yX5_in cX5_in 3 (some .boolean), .methodLink RX5 73 yX5_asNow, .instanceMethod yX5_asNow, .selects RX5 yX5_asNow yX5_asNow, .code yX5_asNow cX5_asNow 2 none, .fieldLink RX5 41 "LieBridgesModel" "now" "[I", .fieldLink RX5 25 "LieBridgesModel" "days" "[I", .methodLink RX5 105 yX5_beliefOf, .instanceMethod yX5_beliefOf, .selects RX5 yX5_beliefOf yX5_beliefOf, .code yX5_beliefOf cX5_beliefOf 4 (some .int), .methodLink RX5 101 yX5_bornBy, .instanceMethod yX5_bornBy, .selects RX5 yX5_bornBy yX5_bornBy, .code yX5_bornBy cX5_bornBy 4 (some .int)] ++ wsX50)
def wsX5_behind_r1 : List Cond := [Cond.methodLink RX5 58 yX5_is6, Cond.static yX5_is6, Cond.initialized RX5, Cond.code yX5_is6 cX5_is6 1 (some .boolean), Cond.methodLink RX5 54 yX5_in, Cond.static yX5_in, Cond.code yX5_in cX5_in 3 (some .boolean), Cond.methodLink RX5 94 yX5_barOfText, Cond.instanceMethod yX5_barOfText, Cond.selects RX5 yX5_barOfText yX5_barOfText, Cond.code yX5_barOfText cX5_barOfText 1 (some .int), Cond.methodLink RX5 65 yX5_faultOf, Cond.instanceMethod yX5_faultOf, Cond.selects RX5 yX5_faultOf yX5_faultOf, Cond.code yX5_faultOf cX5_faultOf 6 (some .int), Cond.fieldLink RX5 62 "LieBridgesModel" "signs" "I", Cond.fieldLink RX5 38 "LieBridgesModel" "pad" "[I", Cond.methodLink RX5 76 yX5_opens, Cond.instanceMethod yX5_opens, Cond.selects RX5 yX5_opens yX5_opens, Cond.code yX5_opens cX5_opens 3 (some .int), Cond.methodLink RX5 97 yX5_goText, Cond.instanceMethod yX5_goText, Cond.selects RX5 yX5_goText yX5_goText]
def wsX5_behind_r2 : List Cond := [Cond.code yX5_goText cX5_goText 11 (some .int), Cond.fieldLink RX5 79 "LieBridgesModel" "parts" "I", Cond.fieldLink RX5 82 "LieBridgesModel" "vainAt" "I", Cond.methodLink RX5 73 yX5_asNow, Cond.instanceMethod yX5_asNow, Cond.selects RX5 yX5_asNow yX5_asNow, Cond.code yX5_asNow cX5_asNow 2 none, Cond.fieldLink RX5 41 "LieBridgesModel" "now" "[I", Cond.fieldLink RX5 25 "LieBridgesModel" "days" "[I", Cond.methodLink RX5 85 yX5_pass, Cond.instanceMethod yX5_pass, Cond.selects RX5 yX5_pass yX5_pass, Cond.code yX5_pass cX5_pass 2 none, Cond.methodLink RX5 88 yX5_denies, Cond.instanceMethod yX5_denies, Cond.selects RX5 yX5_denies yX5_denies, Cond.code yX5_denies cX5_denies 5 (some .boolean), Cond.fieldLink RX5 19 "LieBridgesModel" "trusts" "[I", Cond.methodLink RX5 69 yX5_has, Cond.static yX5_has, Cond.code yX5_has cX5_has 2 (some .boolean), Cond.methodLink RX5 91 yX5_tells, Cond.instanceMethod yX5_tells, Cond.selects RX5 yX5_tells yX5_tells]
def wsX5_behind_r3 : List Cond := [Cond.code yX5_tells cX5_tells 5 (some .boolean), Cond.fieldLink RX5 16 "LieBridgesModel" "owner" "[I", Cond.fieldLink RX5 22 "LieBridgesModel" "knows" "[I", Cond.fieldLink RX5 31 "LieBridgesModel" "fade" "I", Cond.methodLink RX5 105 yX5_beliefOf, Cond.instanceMethod yX5_beliefOf, Cond.selects RX5 yX5_beliefOf yX5_beliefOf, Cond.code yX5_beliefOf cX5_beliefOf 4 (some .int), Cond.methodLink RX5 101 yX5_bornBy, Cond.instanceMethod yX5_bornBy, Cond.selects RX5 yX5_bornBy yX5_bornBy, Cond.code yX5_bornBy cX5_bornBy 4 (some .int)]
def wsX5_behind : List Cond := .code yX5_behind cX5_behind 4 (some .int) :: ((wsX5_behind_r1 ++ (wsX5_behind_r2 ++ wsX5_behind_r3)) ++ wsX50)
def wsX5_powerOf : List Cond := .code yX5_powerOf cX5_powerOf 4 (some .int) :: ([])
def wsX5_over : List Cond := .code yX5_over cX5_over 3 (some .int) :: ([.fieldLink RX5 7 "LieBridgesModel" "one" "[I", .fieldLink RX5 13 "LieBridgesModel" "two" "[I"] ++ wsX50)
def wsX5_falls_r1 : List Cond := [Cond.methodLink RX5 58 yX5_is6, Cond.static yX5_is6, Cond.initialized RX5, Cond.code yX5_is6 cX5_is6 1 (some .boolean), Cond.methodLink RX5 54 yX5_in, Cond.static yX5_in, Cond.code yX5_in cX5_in 3 (some .boolean), Cond.methodLink RX5 109 yX5_powerOf, Cond.static yX5_powerOf, Cond.code yX5_powerOf cX5_powerOf 4 (some .int), Cond.methodLink RX5 73 yX5_asNow, Cond.instanceMethod yX5_asNow, Cond.selects RX5 yX5_asNow yX5_asNow, Cond.code yX5_asNow cX5_asNow 2 none, Cond.fieldLink RX5 41 "LieBridgesModel" "now" "[I", Cond.fieldLink RX5 25 "LieBridgesModel" "days" "[I", Cond.methodLink RX5 112 yX5_over, Cond.instanceMethod yX5_over, Cond.selects RX5 yX5_over yX5_over, Cond.code yX5_over cX5_over 3 (some .int), Cond.fieldLink RX5 7 "LieBridgesModel" "one" "[I", Cond.fieldLink RX5 13 "LieBridgesModel" "two" "[I", Cond.methodLink RX5 101 yX5_bornBy, Cond.instanceMethod yX5_bornBy]
def wsX5_falls_r2 : List Cond := [Cond.selects RX5 yX5_bornBy yX5_bornBy, Cond.code yX5_bornBy cX5_bornBy 4 (some .int)]
def wsX5_falls : List Cond := .code yX5_falls cX5_falls 11 (some .int) :: ((wsX5_falls_r1 ++ wsX5_falls_r2) ++ wsX50)
def wsX5_plankOf : List Cond := .code yX5_plankOf cX5_plankOf 4 (some .int) :: ([.methodLink RX5 109 yX5_powerOf, .static yX5_powerOf, .initialized RX5, .code yX5_powerOf cX5_powerOf 4 (some .int)])
def wsX5_layWay : List Cond := .code yX5_layWay cX5_layWay 9 (some .boolean) :: ([.constant RX5 115 (1000000), .fieldLink RX5 116 "LieBridgesModel" "bestCost" "I", .fieldLink RX5 119 "LieBridgesModel" "bestMany" "I", .fieldLink RX5 122 "LieBridgesModel" "bestCode" "I", .fieldLink RX5 44 "LieBridgesModel" "cost" "[I", .methodLink RX5 109 yX5_powerOf, .static yX5_powerOf, .initialized RX5, .code yX5_powerOf cX5_powerOf 4 (some .int), .methodLink RX5 125 yX5_plankOf, .instanceMethod yX5_plankOf, .selects RX5 yX5_plankOf yX5_plankOf, .code yX5_plankOf cX5_plankOf 4 (some .int), .methodLink RX5 112 yX5_over, .instanceMethod yX5_over, .selects RX5 yX5_over yX5_over, .code yX5_over cX5_over 3 (some .int), .fieldLink RX5 7 "LieBridgesModel" "one" "[I", .fieldLink RX5 13 "LieBridgesModel" "two" "[I"] ++ wsX50)
def wsX5_reached : List Cond := .code yX5_reached cX5_reached 6 (some .int) :: ([.fieldLink RX5 41 "LieBridgesModel" "now" "[I", .fieldLink RX5 16 "LieBridgesModel" "owner" "[I", .fieldLink RX5 22 "LieBridgesModel" "knows" "[I", .fieldLink RX5 19 "LieBridgesModel" "trusts" "[I", .methodLink RX5 69 yX5_has, .static yX5_has, .initialized RX5, .code yX5_has cX5_has 2 (some .boolean)] ++ wsX50)
def wsX5_layCosts : List Cond := .code yX5_layCosts cX5_layCosts 4 none :: ([.fieldLink RX5 44 "LieBridgesModel" "cost" "[I", .constant RX5 115 (1000000), .methodLink RX5 101 yX5_bornBy, .instanceMethod yX5_bornBy, .selects RX5 yX5_bornBy yX5_bornBy, .initialized RX5, .code yX5_bornBy cX5_bornBy 4 (some .int), .fieldLink RX5 41 "LieBridgesModel" "now" "[I", .methodLink RX5 128 yX5_reached, .instanceMethod yX5_reached, .selects RX5 yX5_reached yX5_reached, .code yX5_reached cX5_reached 6 (some .int), .fieldLink RX5 16 "LieBridgesModel" "owner" "[I", .fieldLink RX5 22 "LieBridgesModel" "knows" "[I", .fieldLink RX5 19 "LieBridgesModel" "trusts" "[I", .methodLink RX5 69 yX5_has, .static yX5_has, .code yX5_has cX5_has 2 (some .boolean)] ++ wsX50)
def wsX5_tellings_r1 : List Cond := [Cond.fieldLink RX5 116 "LieBridgesModel" "bestCost" "I", Cond.fieldLink RX5 119 "LieBridgesModel" "bestMany" "I", Cond.fieldLink RX5 122 "LieBridgesModel" "bestCode" "I", Cond.methodLink RX5 58 yX5_is6, Cond.static yX5_is6, Cond.initialized RX5, Cond.code yX5_is6 cX5_is6 1 (some .boolean), Cond.methodLink RX5 54 yX5_in, Cond.static yX5_in, Cond.code yX5_in cX5_in 3 (some .boolean), Cond.methodLink RX5 73 yX5_asNow, Cond.instanceMethod yX5_asNow, Cond.selects RX5 yX5_asNow yX5_asNow, Cond.code yX5_asNow cX5_asNow 2 none, Cond.fieldLink RX5 41 "LieBridgesModel" "now" "[I", Cond.fieldLink RX5 25 "LieBridgesModel" "days" "[I", Cond.methodLink RX5 131 yX5_layCosts, Cond.instanceMethod yX5_layCosts, Cond.selects RX5 yX5_layCosts yX5_layCosts, Cond.code yX5_layCosts cX5_layCosts 4 none, Cond.fieldLink RX5 44 "LieBridgesModel" "cost" "[I", Cond.constant RX5 115 (1000000), Cond.methodLink RX5 101 yX5_bornBy, Cond.instanceMethod yX5_bornBy]
def wsX5_tellings_r2 : List Cond := [Cond.selects RX5 yX5_bornBy yX5_bornBy, Cond.code yX5_bornBy cX5_bornBy 4 (some .int), Cond.methodLink RX5 128 yX5_reached, Cond.instanceMethod yX5_reached, Cond.selects RX5 yX5_reached yX5_reached, Cond.code yX5_reached cX5_reached 6 (some .int), Cond.fieldLink RX5 16 "LieBridgesModel" "owner" "[I", Cond.fieldLink RX5 22 "LieBridgesModel" "knows" "[I", Cond.fieldLink RX5 19 "LieBridgesModel" "trusts" "[I", Cond.methodLink RX5 69 yX5_has, Cond.static yX5_has, Cond.code yX5_has cX5_has 2 (some .boolean), Cond.methodLink RX5 135 yX5_layWay, Cond.instanceMethod yX5_layWay, Cond.selects RX5 yX5_layWay yX5_layWay, Cond.code yX5_layWay cX5_layWay 9 (some .boolean), Cond.methodLink RX5 109 yX5_powerOf, Cond.static yX5_powerOf, Cond.code yX5_powerOf cX5_powerOf 4 (some .int), Cond.methodLink RX5 125 yX5_plankOf, Cond.instanceMethod yX5_plankOf, Cond.selects RX5 yX5_plankOf yX5_plankOf, Cond.code yX5_plankOf cX5_plankOf 4 (some .int), Cond.methodLink RX5 112 yX5_over]
def wsX5_tellings_r3 : List Cond := [Cond.instanceMethod yX5_over, Cond.selects RX5 yX5_over yX5_over, Cond.code yX5_over cX5_over 3 (some .int), Cond.fieldLink RX5 7 "LieBridgesModel" "one" "[I", Cond.fieldLink RX5 13 "LieBridgesModel" "two" "[I"]
def wsX5_tellings : List Cond := .code yX5_tellings cX5_tellings 5 (some .int) :: ((wsX5_tellings_r1 ++ (wsX5_tellings_r2 ++ wsX5_tellings_r3)) ++ wsX50)
def wsX5_stands_r1 : List Cond := [Cond.fieldLink RX5 44 "LieBridgesModel" "cost" "[I", Cond.constant RX5 115 (1000000), Cond.methodLink RX5 58 yX5_is6, Cond.static yX5_is6, Cond.initialized RX5, Cond.code yX5_is6 cX5_is6 1 (some .boolean), Cond.methodLink RX5 54 yX5_in, Cond.static yX5_in, Cond.code yX5_in cX5_in 3 (some .boolean), Cond.methodLink RX5 73 yX5_asNow, Cond.instanceMethod yX5_asNow, Cond.selects RX5 yX5_asNow yX5_asNow, Cond.code yX5_asNow cX5_asNow 2 none, Cond.fieldLink RX5 41 "LieBridgesModel" "now" "[I", Cond.fieldLink RX5 25 "LieBridgesModel" "days" "[I", Cond.methodLink RX5 101 yX5_bornBy, Cond.instanceMethod yX5_bornBy, Cond.selects RX5 yX5_bornBy yX5_bornBy, Cond.code yX5_bornBy cX5_bornBy 4 (some .int), Cond.methodLink RX5 135 yX5_layWay, Cond.instanceMethod yX5_layWay, Cond.selects RX5 yX5_layWay yX5_layWay, Cond.code yX5_layWay cX5_layWay 9 (some .boolean), Cond.fieldLink RX5 116 "LieBridgesModel" "bestCost" "I"]
def wsX5_stands_r2 : List Cond := [Cond.fieldLink RX5 119 "LieBridgesModel" "bestMany" "I", Cond.fieldLink RX5 122 "LieBridgesModel" "bestCode" "I", Cond.methodLink RX5 109 yX5_powerOf, Cond.static yX5_powerOf, Cond.code yX5_powerOf cX5_powerOf 4 (some .int), Cond.methodLink RX5 125 yX5_plankOf, Cond.instanceMethod yX5_plankOf, Cond.selects RX5 yX5_plankOf yX5_plankOf, Cond.code yX5_plankOf cX5_plankOf 4 (some .int), Cond.methodLink RX5 112 yX5_over, Cond.instanceMethod yX5_over, Cond.selects RX5 yX5_over yX5_over, Cond.code yX5_over cX5_over 3 (some .int), Cond.fieldLink RX5 7 "LieBridgesModel" "one" "[I", Cond.fieldLink RX5 13 "LieBridgesModel" "two" "[I", Cond.methodLink RX5 85 yX5_pass, Cond.instanceMethod yX5_pass, Cond.selects RX5 yX5_pass yX5_pass, Cond.code yX5_pass cX5_pass 2 none]
def wsX5_stands : List Cond := .code yX5_stands cX5_stands 7 (some .int) :: ((wsX5_stands_r1 ++ wsX5_stands_r2) ++ wsX50)
def wsX5_word : List Cond := .code yX5_word cX5_word 8 (some .int) :: ([.methodLink RX5 54 yX5_in, .static yX5_in, .initialized RX5, .code yX5_in cX5_in 3 (some .boolean), .methodLink RX5 73 yX5_asNow, .instanceMethod yX5_asNow, .selects RX5 yX5_asNow yX5_asNow, .code yX5_asNow cX5_asNow 2 none, .fieldLink RX5 41 "LieBridgesModel" "now" "[I", .fieldLink RX5 25 "LieBridgesModel" "days" "[I", .methodLink RX5 88 yX5_denies, .instanceMethod yX5_denies, .selects RX5 yX5_denies yX5_denies, .code yX5_denies cX5_denies 5 (some .boolean), .fieldLink RX5 19 "LieBridgesModel" "trusts" "[I", .methodLink RX5 69 yX5_has, .static yX5_has, .code yX5_has cX5_has 2 (some .boolean)] ++ wsX50)
def wsX5_rumour_r1 : List Cond := [Cond.fieldLink RX5 16 "LieBridgesModel" "owner" "[I", Cond.fieldLink RX5 41 "LieBridgesModel" "now" "[I", Cond.fieldLink RX5 79 "LieBridgesModel" "parts" "I", Cond.methodLink RX5 58 yX5_is6, Cond.static yX5_is6, Cond.initialized RX5, Cond.code yX5_is6 cX5_is6 1 (some .boolean), Cond.methodLink RX5 54 yX5_in, Cond.static yX5_in, Cond.code yX5_in cX5_in 3 (some .boolean), Cond.methodLink RX5 73 yX5_asNow, Cond.instanceMethod yX5_asNow, Cond.selects RX5 yX5_asNow yX5_asNow, Cond.code yX5_asNow cX5_asNow 2 none, Cond.fieldLink RX5 25 "LieBridgesModel" "days" "[I", Cond.methodLink RX5 101 yX5_bornBy, Cond.instanceMethod yX5_bornBy, Cond.selects RX5 yX5_bornBy yX5_bornBy, Cond.code yX5_bornBy cX5_bornBy 4 (some .int), Cond.methodLink RX5 69 yX5_has, Cond.static yX5_has, Cond.code yX5_has cX5_has 2 (some .boolean), Cond.methodLink RX5 91 yX5_tells, Cond.instanceMethod yX5_tells]
def wsX5_rumour_r2 : List Cond := [Cond.selects RX5 yX5_tells yX5_tells, Cond.code yX5_tells cX5_tells 5 (some .boolean), Cond.fieldLink RX5 19 "LieBridgesModel" "trusts" "[I", Cond.fieldLink RX5 22 "LieBridgesModel" "knows" "[I", Cond.fieldLink RX5 31 "LieBridgesModel" "fade" "I", Cond.methodLink RX5 85 yX5_pass, Cond.instanceMethod yX5_pass, Cond.selects RX5 yX5_pass yX5_pass, Cond.code yX5_pass cX5_pass 2 none]
def wsX5_rumour : List Cond := .code yX5_rumour cX5_rumour 8 (some .int) :: ((wsX5_rumour_r1 ++ wsX5_rumour_r2) ++ wsX50)
def wsX5_toAll : List Cond := .code yX5_toAll cX5_toAll 6 none :: ([.fieldLink RX5 79 "LieBridgesModel" "parts" "I", .methodLink RX5 88 yX5_denies, .instanceMethod yX5_denies, .selects RX5 yX5_denies yX5_denies, .initialized RX5, .code yX5_denies cX5_denies 5 (some .boolean), .fieldLink RX5 19 "LieBridgesModel" "trusts" "[I", .fieldLink RX5 41 "LieBridgesModel" "now" "[I", .methodLink RX5 69 yX5_has, .static yX5_has, .code yX5_has cX5_has 2 (some .boolean), .methodLink RX5 91 yX5_tells, .instanceMethod yX5_tells, .selects RX5 yX5_tells yX5_tells, .code yX5_tells cX5_tells 5 (some .boolean), .fieldLink RX5 16 "LieBridgesModel" "owner" "[I", .fieldLink RX5 22 "LieBridgesModel" "knows" "[I", .fieldLink RX5 31 "LieBridgesModel" "fade" "I"] ++ wsX50)
def wsX5_odds_r1 : List Cond := [Cond.methodLink RX5 58 yX5_is6, Cond.static yX5_is6, Cond.initialized RX5, Cond.code yX5_is6 cX5_is6 1 (some .boolean), Cond.methodLink RX5 54 yX5_in, Cond.static yX5_in, Cond.code yX5_in cX5_in 3 (some .boolean), Cond.methodLink RX5 73 yX5_asNow, Cond.instanceMethod yX5_asNow, Cond.selects RX5 yX5_asNow yX5_asNow, Cond.code yX5_asNow cX5_asNow 2 none, Cond.fieldLink RX5 41 "LieBridgesModel" "now" "[I", Cond.fieldLink RX5 25 "LieBridgesModel" "days" "[I", Cond.methodLink RX5 138 yX5_toAll, Cond.instanceMethod yX5_toAll, Cond.selects RX5 yX5_toAll yX5_toAll, Cond.code yX5_toAll cX5_toAll 6 none, Cond.fieldLink RX5 79 "LieBridgesModel" "parts" "I", Cond.methodLink RX5 88 yX5_denies, Cond.instanceMethod yX5_denies, Cond.selects RX5 yX5_denies yX5_denies, Cond.code yX5_denies cX5_denies 5 (some .boolean), Cond.fieldLink RX5 19 "LieBridgesModel" "trusts" "[I", Cond.methodLink RX5 69 yX5_has]
def wsX5_odds_r2 : List Cond := [Cond.static yX5_has, Cond.code yX5_has cX5_has 2 (some .boolean), Cond.methodLink RX5 91 yX5_tells, Cond.instanceMethod yX5_tells, Cond.selects RX5 yX5_tells yX5_tells, Cond.code yX5_tells cX5_tells 5 (some .boolean), Cond.fieldLink RX5 16 "LieBridgesModel" "owner" "[I", Cond.fieldLink RX5 22 "LieBridgesModel" "knows" "[I", Cond.fieldLink RX5 31 "LieBridgesModel" "fade" "I", Cond.methodLink RX5 101 yX5_bornBy, Cond.instanceMethod yX5_bornBy, Cond.selects RX5 yX5_bornBy yX5_bornBy, Cond.code yX5_bornBy cX5_bornBy 4 (some .int)]
def wsX5_odds : List Cond := .code yX5_odds cX5_odds 5 (some .int) :: ((wsX5_odds_r1 ++ wsX5_odds_r2) ++ wsX50)
def wsX5_tenths : List Cond := .code yX5_tenths cX5_tenths 4 (some .int) :: ([.fieldLink RX5 28 "LieBridgesModel" "safety" "[I", .methodLink RX5 58 yX5_is6, .static yX5_is6, .initialized RX5, .code yX5_is6 cX5_is6 1 (some .boolean), .methodLink RX5 54 yX5_in, .static yX5_in, .code yX5_in cX5_in 3 (some .boolean)] ++ wsX50)
def wsX5_laySafe : List Cond := .code yX5_laySafe cX5_laySafe 10 (some .boolean) :: ([.fieldLink RX5 28 "LieBridgesModel" "safety" "[I", .fieldLink RX5 142 "LieBridgesModel" "safeUp" "I", .fieldLink RX5 119 "LieBridgesModel" "bestMany" "I", .fieldLink RX5 122 "LieBridgesModel" "bestCode" "I", .methodLink RX5 109 yX5_powerOf, .static yX5_powerOf, .initialized RX5, .code yX5_powerOf cX5_powerOf 4 (some .int), .methodLink RX5 125 yX5_plankOf, .instanceMethod yX5_plankOf, .selects RX5 yX5_plankOf yX5_plankOf, .code yX5_plankOf cX5_plankOf 4 (some .int), .methodLink RX5 112 yX5_over, .instanceMethod yX5_over, .selects RX5 yX5_over yX5_over, .code yX5_over cX5_over 3 (some .int), .fieldLink RX5 7 "LieBridgesModel" "one" "[I", .fieldLink RX5 13 "LieBridgesModel" "two" "[I"] ++ wsX50)
def wsX5_safe_r1 : List Cond := [Cond.fieldLink RX5 119 "LieBridgesModel" "bestMany" "I", Cond.fieldLink RX5 122 "LieBridgesModel" "bestCode" "I", Cond.methodLink RX5 58 yX5_is6, Cond.static yX5_is6, Cond.initialized RX5, Cond.code yX5_is6 cX5_is6 1 (some .boolean), Cond.methodLink RX5 54 yX5_in, Cond.static yX5_in, Cond.code yX5_in cX5_in 3 (some .boolean), Cond.methodLink RX5 145 yX5_laySafe, Cond.instanceMethod yX5_laySafe, Cond.selects RX5 yX5_laySafe yX5_laySafe, Cond.code yX5_laySafe cX5_laySafe 10 (some .boolean), Cond.fieldLink RX5 28 "LieBridgesModel" "safety" "[I", Cond.fieldLink RX5 142 "LieBridgesModel" "safeUp" "I", Cond.methodLink RX5 109 yX5_powerOf, Cond.static yX5_powerOf, Cond.code yX5_powerOf cX5_powerOf 4 (some .int), Cond.methodLink RX5 125 yX5_plankOf, Cond.instanceMethod yX5_plankOf, Cond.selects RX5 yX5_plankOf yX5_plankOf, Cond.code yX5_plankOf cX5_plankOf 4 (some .int), Cond.methodLink RX5 112 yX5_over, Cond.instanceMethod yX5_over]
def wsX5_safe_r2 : List Cond := [Cond.selects RX5 yX5_over yX5_over, Cond.code yX5_over cX5_over 3 (some .int), Cond.fieldLink RX5 7 "LieBridgesModel" "one" "[I", Cond.fieldLink RX5 13 "LieBridgesModel" "two" "[I"]
def wsX5_safe : List Cond := .code yX5_safe cX5_safe 4 (some .int) :: ((wsX5_safe_r1 ++ wsX5_safe_r2) ++ wsX50)
def wsX5_chance_r1 : List Cond := [Cond.constantLong RX5 148 (-1000000000000000001), Cond.constantLong RX5 150 (-1000000000000000002), Cond.fieldLink RX5 142 "LieBridgesModel" "safeUp" "I", Cond.fieldLink RX5 119 "LieBridgesModel" "bestMany" "I", Cond.methodLink RX5 58 yX5_is6, Cond.static yX5_is6, Cond.initialized RX5, Cond.code yX5_is6 cX5_is6 1 (some .boolean), Cond.methodLink RX5 54 yX5_in, Cond.static yX5_in, Cond.code yX5_in cX5_in 3 (some .boolean), Cond.methodLink RX5 145 yX5_laySafe, Cond.instanceMethod yX5_laySafe, Cond.selects RX5 yX5_laySafe yX5_laySafe, Cond.code yX5_laySafe cX5_laySafe 10 (some .boolean), Cond.fieldLink RX5 28 "LieBridgesModel" "safety" "[I", Cond.fieldLink RX5 122 "LieBridgesModel" "bestCode" "I", Cond.methodLink RX5 109 yX5_powerOf, Cond.static yX5_powerOf, Cond.code yX5_powerOf cX5_powerOf 4 (some .int), Cond.methodLink RX5 125 yX5_plankOf, Cond.instanceMethod yX5_plankOf, Cond.selects RX5 yX5_plankOf yX5_plankOf, Cond.code yX5_plankOf cX5_plankOf 4 (some .int)]
def wsX5_chance_r2 : List Cond := [Cond.methodLink RX5 112 yX5_over, Cond.instanceMethod yX5_over, Cond.selects RX5 yX5_over yX5_over, Cond.code yX5_over cX5_over 3 (some .int), Cond.fieldLink RX5 7 "LieBridgesModel" "one" "[I", Cond.fieldLink RX5 13 "LieBridgesModel" "two" "[I"]
def wsX5_chance : List Cond := .code yX5_chance cX5_chance 10 (some .long) :: ((wsX5_chance_r1 ++ wsX5_chance_r2) ++ wsX50)
def wsX5_seen : List Cond := .code yX5_seen cX5_seen 3 (some .int) :: ([.fieldLink RX5 152 "LieBridgesModel" "sights" "I", .fieldLink RX5 35 "LieBridgesModel" "sight" "[I", .methodLink RX5 58 yX5_is6, .static yX5_is6, .initialized RX5, .code yX5_is6 cX5_is6 1 (some .boolean), .methodLink RX5 54 yX5_in, .static yX5_in, .code yX5_in cX5_in 3 (some .boolean)] ++ wsX50)
def wsX5_forget : List Cond := .code yX5_forget cX5_forget 2 (some .int) :: ([.fieldLink RX5 152 "LieBridgesModel" "sights" "I"] ++ wsX50)
def wsX5_filled_r1 : List Cond := [Cond.fieldLink RX5 152 "LieBridgesModel" "sights" "I", Cond.fieldLink RX5 35 "LieBridgesModel" "sight" "[I", Cond.methodLink RX5 65 yX5_faultOf, Cond.instanceMethod yX5_faultOf, Cond.selects RX5 yX5_faultOf yX5_faultOf, Cond.initialized RX5, Cond.code yX5_faultOf cX5_faultOf 6 (some .int), Cond.fieldLink RX5 62 "LieBridgesModel" "signs" "I", Cond.fieldLink RX5 38 "LieBridgesModel" "pad" "[I", Cond.methodLink RX5 54 yX5_in, Cond.static yX5_in, Cond.code yX5_in cX5_in 3 (some .boolean), Cond.methodLink RX5 76 yX5_opens, Cond.instanceMethod yX5_opens, Cond.selects RX5 yX5_opens yX5_opens, Cond.code yX5_opens cX5_opens 3 (some .int), Cond.methodLink RX5 109 yX5_powerOf, Cond.static yX5_powerOf, Cond.code yX5_powerOf cX5_powerOf 4 (some .int), Cond.methodLink RX5 97 yX5_goText, Cond.instanceMethod yX5_goText, Cond.selects RX5 yX5_goText yX5_goText, Cond.code yX5_goText cX5_goText 11 (some .int), Cond.fieldLink RX5 79 "LieBridgesModel" "parts" "I"]
def wsX5_filled_r2 : List Cond := [Cond.fieldLink RX5 82 "LieBridgesModel" "vainAt" "I", Cond.methodLink RX5 73 yX5_asNow, Cond.instanceMethod yX5_asNow, Cond.selects RX5 yX5_asNow yX5_asNow, Cond.code yX5_asNow cX5_asNow 2 none, Cond.fieldLink RX5 41 "LieBridgesModel" "now" "[I", Cond.fieldLink RX5 25 "LieBridgesModel" "days" "[I", Cond.methodLink RX5 85 yX5_pass, Cond.instanceMethod yX5_pass, Cond.selects RX5 yX5_pass yX5_pass, Cond.code yX5_pass cX5_pass 2 none, Cond.methodLink RX5 88 yX5_denies, Cond.instanceMethod yX5_denies, Cond.selects RX5 yX5_denies yX5_denies, Cond.code yX5_denies cX5_denies 5 (some .boolean), Cond.fieldLink RX5 19 "LieBridgesModel" "trusts" "[I", Cond.methodLink RX5 69 yX5_has, Cond.static yX5_has, Cond.code yX5_has cX5_has 2 (some .boolean), Cond.methodLink RX5 91 yX5_tells, Cond.instanceMethod yX5_tells, Cond.selects RX5 yX5_tells yX5_tells, Cond.code yX5_tells cX5_tells 5 (some .boolean), Cond.fieldLink RX5 16 "LieBridgesModel" "owner" "[I"]
def wsX5_filled_r3 : List Cond := [Cond.fieldLink RX5 22 "LieBridgesModel" "knows" "[I", Cond.fieldLink RX5 31 "LieBridgesModel" "fade" "I", Cond.methodLink RX5 101 yX5_bornBy, Cond.instanceMethod yX5_bornBy, Cond.selects RX5 yX5_bornBy yX5_bornBy, Cond.code yX5_bornBy cX5_bornBy 4 (some .int)]
def wsX5_filled : List Cond := .code yX5_filled cX5_filled 8 (some .int) :: ((wsX5_filled_r1 ++ (wsX5_filled_r2 ++ wsX5_filled_r3)) ++ wsX50)
def wsX5_year_r1 : List Cond := [Cond.constant RX5 155 (65537), Cond.methodLink RX5 54 yX5_in, Cond.static yX5_in, Cond.initialized RX5, Cond.code yX5_in cX5_in 3 (some .boolean), Cond.methodLink RX5 73 yX5_asNow, Cond.instanceMethod yX5_asNow, Cond.selects RX5 yX5_asNow yX5_asNow, Cond.code yX5_asNow cX5_asNow 2 none, Cond.fieldLink RX5 41 "LieBridgesModel" "now" "[I", Cond.fieldLink RX5 25 "LieBridgesModel" "days" "[I", Cond.methodLink RX5 91 yX5_tells, Cond.instanceMethod yX5_tells, Cond.selects RX5 yX5_tells yX5_tells, Cond.code yX5_tells cX5_tells 5 (some .boolean), Cond.fieldLink RX5 16 "LieBridgesModel" "owner" "[I", Cond.fieldLink RX5 19 "LieBridgesModel" "trusts" "[I", Cond.fieldLink RX5 22 "LieBridgesModel" "knows" "[I", Cond.fieldLink RX5 31 "LieBridgesModel" "fade" "I", Cond.methodLink RX5 69 yX5_has, Cond.static yX5_has, Cond.code yX5_has cX5_has 2 (some .boolean), Cond.methodLink RX5 85 yX5_pass, Cond.instanceMethod yX5_pass]
def wsX5_year_r2 : List Cond := [Cond.selects RX5 yX5_pass yX5_pass, Cond.code yX5_pass cX5_pass 2 none, Cond.methodLink RX5 101 yX5_bornBy, Cond.instanceMethod yX5_bornBy, Cond.selects RX5 yX5_bornBy yX5_bornBy, Cond.code yX5_bornBy cX5_bornBy 4 (some .int)]
def wsX5_year : List Cond := .code yX5_year cX5_year 7 (some .int) :: ((wsX5_year_r1 ++ wsX5_year_r2) ++ wsX50)
def wsX5_image : List Cond := .code yX5_image cX5_image 4 (some .int) :: ([.fieldLink RX5 47 "LieBridgesModel" "image" "[I", .fieldLink RX5 25 "LieBridgesModel" "days" "[I", .fieldLink RX5 7 "LieBridgesModel" "one" "[I", .fieldLink RX5 13 "LieBridgesModel" "two" "[I", .fieldLink RX5 16 "LieBridgesModel" "owner" "[I", .fieldLink RX5 19 "LieBridgesModel" "trusts" "[I", .fieldLink RX5 22 "LieBridgesModel" "knows" "[I", .fieldLink RX5 28 "LieBridgesModel" "safety" "[I", .fieldLink RX5 35 "LieBridgesModel" "sight" "[I", .fieldLink RX5 31 "LieBridgesModel" "fade" "I", .fieldLink RX5 152 "LieBridgesModel" "sights" "I", .fieldLink RX5 50 "LieBridgesModel" "isKept" "[Z", .methodLink RX5 54 yX5_in, .static yX5_in, .initialized RX5, .code yX5_in cX5_in 3 (some .boolean)] ++ wsX50)
def wsX5_restore : List Cond := .code yX5_restore cX5_restore 4 (some .int) :: ([.fieldLink RX5 50 "LieBridgesModel" "isKept" "[Z", .fieldLink RX5 25 "LieBridgesModel" "days" "[I", .fieldLink RX5 47 "LieBridgesModel" "image" "[I", .fieldLink RX5 7 "LieBridgesModel" "one" "[I", .fieldLink RX5 13 "LieBridgesModel" "two" "[I", .fieldLink RX5 16 "LieBridgesModel" "owner" "[I", .fieldLink RX5 19 "LieBridgesModel" "trusts" "[I", .fieldLink RX5 22 "LieBridgesModel" "knows" "[I", .fieldLink RX5 28 "LieBridgesModel" "safety" "[I", .fieldLink RX5 35 "LieBridgesModel" "sight" "[I", .fieldLink RX5 31 "LieBridgesModel" "fade" "I", .fieldLink RX5 152 "LieBridgesModel" "sights" "I", .methodLink RX5 54 yX5_in, .static yX5_in, .initialized RX5, .code yX5_in cX5_in 3 (some .boolean)] ++ wsX50)
def wsX5_told : List Cond := .code yX5_told cX5_told 3 (some .int) :: ([.fieldLink RX5 19 "LieBridgesModel" "trusts" "[I", .fieldLink RX5 22 "LieBridgesModel" "knows" "[I", .fieldLink RX5 16 "LieBridgesModel" "owner" "[I", .fieldLink RX5 7 "LieBridgesModel" "one" "[I", .fieldLink RX5 13 "LieBridgesModel" "two" "[I", .fieldLink RX5 28 "LieBridgesModel" "safety" "[I", .fieldLink RX5 62 "LieBridgesModel" "signs" "I", .fieldLink RX5 31 "LieBridgesModel" "fade" "I", .fieldLink RX5 152 "LieBridgesModel" "sights" "I", .methodLink RX5 58 yX5_is6, .static yX5_is6, .initialized RX5, .code yX5_is6 cX5_is6 1 (some .boolean), .methodLink RX5 54 yX5_in, .static yX5_in, .code yX5_in cX5_in 3 (some .boolean)] ++ wsX50)
def wsL_law_r1 : List Cond := [Cond.classLink RL 7 RX4, Cond.instantiable RX4 7, Cond.initialized RX4, Cond.classLink RL 10 RX5, Cond.instantiable RX5 22, Cond.initialized RX5, Cond.methodLink RL 9 yX4_init, Cond.instanceMethod yX4_init, Cond.code yX4_init cX4_init 1 none, Cond.methodLink RX4 1 objectInit, Cond.instanceMethod objectInit, Cond.code objectInit ⟨#[0xb1]⟩ 1 none, Cond.classLink RX4 7 RX1, Cond.instantiable RX1 11, Cond.initialized RX1, Cond.fieldLink RX4 10 "LieBridges" "now" "LLieBridges$Delta;", Cond.fieldLink RX4 16 "LieBridges" "images" "[LLieBridges$Delta;", Cond.classLink RX4 20 RX2, Cond.instantiable RX2 8, Cond.initialized RX2, Cond.fieldLink RX4 23 "LieBridges" "pad" "LLieBridges$Pad;", Cond.classLink RX4 27 RX3, Cond.instantiable RX3 7, Cond.initialized RX3]
def wsL_law_r2 : List Cond := [Cond.fieldLink RX4 30 "LieBridges" "ways" "LLieBridges$Ways;", Cond.classLink RX4 34 RX0, Cond.instantiable RX0 1, Cond.initialized RX0, Cond.fieldLink RX4 37 "LieBridges" "trial" "LLieBridges$Beliefs;", Cond.arrayClass .int, Cond.fieldLink RX4 41 "LieBridges" "guesses" "[I", Cond.fieldLink RX4 45 "LieBridges" "route" "[I", Cond.methodLink RX4 9 yX1_init, Cond.instanceMethod yX1_init, Cond.code yX1_init cX1_init 2 none, Cond.methodLink RX1 3 objectInit, Cond.fieldLink RX1 9 "LieBridges$Delta" "lessers" "[I", Cond.fieldLink RX1 15 "LieBridges$Delta" "greaters" "[I", Cond.fieldLink RX1 18 "LieBridges$Delta" "layers" "[I", Cond.fieldLink RX1 21 "LieBridges$Delta" "holds" "[I", Cond.fieldLink RX1 24 "LieBridges$Delta" "trusted" "[I", Cond.fieldLink RX1 27 "LieBridges$Delta" "known" "[I", Cond.fieldLink RX1 30 "LieBridges$Delta" "sightPlanks" "[I", Cond.fieldLink RX1 33 "LieBridges$Delta" "sightLoads" "[I", Cond.classLink RX1 36 RX0, Cond.fieldLink RX1 39 "LieBridges$Delta" "beliefs" "LLieBridges$Beliefs;", Cond.fieldLink RX1 43 "LieBridges$Delta" "fadeDays" "I", Cond.instanceMethod yX0_init]
def wsL_law_r3 : List Cond := [Cond.code yX0_init cX0_init 1 none, Cond.methodLink RX0 3 objectInit, Cond.fieldLink RX0 9 "LieBridges$Beliefs" "days" "[I", Cond.methodLink RX1 47 yX1_lay, Cond.instanceMethod yX1_lay, Cond.selects RX1 yX1_lay yX1_lay, Cond.code yX1_lay cX1_lay 6 none, Cond.static yX4_put, Cond.code yX4_put cX4_put 3 none, Cond.methodLink RX1 55 yX0_set, Cond.instanceMethod yX0_set, Cond.selects RX0 yX0_set yX0_set, Cond.code yX0_set cX0_set 4 none, Cond.static yX4_putBit, Cond.code yX4_putBit cX4_putBit 5 none, Cond.methodLink RX4 134 yX4_at, Cond.static yX4_at, Cond.code yX4_at cX4_at 2 (some .int), Cond.methodLink RX4 189 yX4_put, Cond.instanceMethod yX2_init, Cond.code yX2_init cX2_init 1 none, Cond.methodLink RX2 3 objectInit, Cond.fieldLink RX2 9 "LieBridges$Pad" "signs" "[I", Cond.fieldLink RX2 15 "LieBridges$Pad" "kinds" "[I"]
def wsL_law_r4 : List Cond := [Cond.fieldLink RX2 18 "LieBridges$Pad" "speakers" "[I", Cond.fieldLink RX2 21 "LieBridges$Pad" "hearers" "[I", Cond.fieldLink RX2 24 "LieBridges$Pad" "planks" "[I", Cond.instanceMethod yX3_init, Cond.code yX3_init cX3_init 1 none, Cond.methodLink RX3 3 objectInit, Cond.fieldLink RX3 9 "LieBridges$Ways" "weights" "[I", Cond.fieldLink RX3 15 "LieBridges$Ways" "trodden" "[I", Cond.fieldLink RX3 18 "LieBridges$Ways" "best" "[I", Cond.methodLink RL 12 yX5_init, Cond.instanceMethod yX5_init, Cond.code yX5_init cX5_init 2 none, Cond.methodLink RX5 1 objectInit, Cond.fieldLink RX5 7 "LieBridgesModel" "one" "[I", Cond.fieldLink RX5 13 "LieBridgesModel" "two" "[I", Cond.fieldLink RX5 16 "LieBridgesModel" "owner" "[I", Cond.fieldLink RX5 19 "LieBridgesModel" "trusts" "[I", Cond.fieldLink RX5 22 "LieBridgesModel" "knows" "[I", Cond.fieldLink RX5 25 "LieBridgesModel" "days" "[I", Cond.fieldLink RX5 28 "LieBridgesModel" "safety" "[I", Cond.fieldLink RX5 31 "LieBridgesModel" "fade" "I", Cond.fieldLink RX5 35 "LieBridgesModel" "sight" "[I", Cond.fieldLink RX5 38 "LieBridgesModel" "pad" "[I", Cond.fieldLink RX5 41 "LieBridgesModel" "now" "[I"]
def wsL_law_r5 : List Cond := [Cond.fieldLink RX5 44 "LieBridgesModel" "cost" "[I", Cond.fieldLink RX5 47 "LieBridgesModel" "image" "[I", Cond.arrayClass .boolean, Cond.fieldLink RX5 50 "LieBridgesModel" "isKept" "[Z", Cond.methodLink RL 13 yX4_plank, Cond.instanceMethod yX4_plank, Cond.selects RX4 yX4_plank yX4_plank, Cond.code yX4_plank cX4_plank 5 (some .int), Cond.methodLink RX4 48 yX4_isPlank, Cond.static yX4_isPlank, Cond.code yX4_isPlank cX4_isPlank 1 (some .boolean), Cond.methodLink RX4 79 yX4_within, Cond.static yX4_within, Cond.code yX4_within cX4_within 3 (some .boolean), Cond.methodLink RX4 52 yX4_isIsland, Cond.static yX4_isIsland, Cond.code yX4_isIsland cX4_isIsland 1 (some .boolean), Cond.methodLink RX4 55 yX4_isPerson, Cond.static yX4_isPerson, Cond.code yX4_isPerson cX4_isPerson 1 (some .boolean), Cond.methodLink RX4 58 yX1_lay, Cond.methodLink RL 17 yX5_plank, Cond.instanceMethod yX5_plank, Cond.selects RX5 yX5_plank yX5_plank]
def wsL_law_r6 : List Cond := [Cond.code yX5_plank cX5_plank 6 (some .int), Cond.methodLink RX5 58 yX5_is6, Cond.static yX5_is6, Cond.code yX5_is6 cX5_is6 1 (some .boolean), Cond.methodLink RX5 54 yX5_in, Cond.static yX5_in, Cond.code yX5_in cX5_in 3 (some .boolean), Cond.methodLink RL 18 yX4_trust, Cond.instanceMethod yX4_trust, Cond.selects RX4 yX4_trust yX4_trust, Cond.code yX4_trust cX4_trust 4 (some .int), Cond.fieldLink RX4 62 "LieBridges$Delta" "trusted" "[I", Cond.methodLink RX4 65 yX4_putBit, Cond.methodLink RL 22 yX5_trust, Cond.instanceMethod yX5_trust, Cond.selects RX5 yX5_trust yX5_trust, Cond.code yX5_trust cX5_trust 4 (some .int), Cond.methodLink RL 23 yX4_know, Cond.instanceMethod yX4_know, Cond.selects RX4 yX4_know yX4_know, Cond.code yX4_know cX4_know 4 (some .int), Cond.fieldLink RX4 69 "LieBridges$Delta" "known" "[I", Cond.fieldLink RX4 72 "LieBridges$Delta" "beliefs" "LLieBridges$Beliefs;", Cond.methodLink RX4 75 yX0_set]
def wsL_law_r7 : List Cond := [Cond.methodLink RL 26 yX5_know, Cond.instanceMethod yX5_know, Cond.selects RX5 yX5_know yX5_know, Cond.code yX5_know cX5_know 4 (some .int), Cond.methodLink RL 27 yX4_fade, Cond.instanceMethod yX4_fade, Cond.selects RX4 yX4_fade yX4_fade, Cond.code yX4_fade cX4_fade 3 (some .int), Cond.fieldLink RX4 83 "LieBridges$Delta" "fadeDays" "I", Cond.methodLink RL 31 yX5_fade, Cond.instanceMethod yX5_fade, Cond.selects RX5 yX5_fade yX5_fade, Cond.code yX5_fade cX5_fade 3 (some .int), Cond.methodLink RL 32 yX4_say, Cond.instanceMethod yX4_say, Cond.selects RX4 yX4_say yX4_say, Cond.code yX4_say cX4_say 2 (some .int), Cond.fieldLink RX4 90 "LieBridges$Pad" "many" "I", Cond.methodLink RX4 87 yX2_add, Cond.instanceMethod yX2_add, Cond.selects RX2 yX2_add yX2_add, Cond.code yX2_add cX2_add 2 (some .boolean), Cond.fieldLink RX2 27 "LieBridges$Pad" "many" "I", Cond.methodLink RL 35 yX5_say]
def wsL_law_r8 : List Cond := [Cond.instanceMethod yX5_say, Cond.selects RX5 yX5_say yX5_say, Cond.code yX5_say cX5_say 2 (some .int), Cond.fieldLink RX5 62 "LieBridgesModel" "signs" "I", Cond.methodLink RL 36 yX4_wipe, Cond.instanceMethod yX4_wipe, Cond.selects RX4 yX4_wipe yX4_wipe, Cond.code yX4_wipe cX4_wipe 2 (some .int), Cond.methodLink RX4 93 yX2_clear, Cond.instanceMethod yX2_clear, Cond.selects RX2 yX2_clear yX2_clear, Cond.code yX2_clear cX2_clear 1 none, Cond.methodLink RL 40 yX5_wipe, Cond.instanceMethod yX5_wipe, Cond.selects RX5 yX5_wipe yX5_wipe, Cond.code yX5_wipe cX5_wipe 2 (some .int), Cond.methodLink RL 41 yX4_fault, Cond.instanceMethod yX4_fault, Cond.selects RX4 yX4_fault yX4_fault, Cond.code yX4_fault cX4_fault 1 (some .int), Cond.methodLink RX4 96 yX2_read, Cond.instanceMethod yX2_read, Cond.selects RX2 yX2_read yX2_read, Cond.code yX2_read cX2_read 3 (some .int)]
def wsL_law_r9 : List Cond := [Cond.fieldLink RX2 35 "LieBridges$Pad" "parts" "I", Cond.fieldLink RX2 38 "LieBridges$Pad" "asked" "I", Cond.methodLink RX2 45 yX2_take, Cond.instanceMethod yX2_take, Cond.selects RX2 yX2_take yX2_take, Cond.code yX2_take cX2_take 3 (some .int), Cond.methodLink RX2 49 yX2_takeDay, Cond.instanceMethod yX2_takeDay, Cond.selects RX2 yX2_takeDay yX2_takeDay, Cond.code yX2_takeDay cX2_takeDay 1 (some .int), Cond.methodLink RX2 53 yX2_takeSpeaker, Cond.instanceMethod yX2_takeSpeaker, Cond.selects RX2 yX2_takeSpeaker yX2_takeSpeaker, Cond.code yX2_takeSpeaker cX2_takeSpeaker 3 (some .int), Cond.methodLink RX2 57 yX2_takeHearer, Cond.instanceMethod yX2_takeHearer, Cond.selects RX2 yX2_takeHearer yX2_takeHearer, Cond.code yX2_takeHearer cX2_takeHearer 2 (some .int), Cond.methodLink RX2 60 yX2_takeDenial, Cond.instanceMethod yX2_takeDenial, Cond.selects RX2 yX2_takeDenial yX2_takeDenial, Cond.code yX2_takeDenial cX2_takeDenial 1 (some .int), Cond.methodLink RX2 63 yX2_takePlank, Cond.instanceMethod yX2_takePlank]
def wsL_law_r10 : List Cond := [Cond.selects RX2 yX2_takePlank yX2_takePlank, Cond.code yX2_takePlank cX2_takePlank 2 (some .int), Cond.methodLink RL 44 yX5_fault, Cond.instanceMethod yX5_fault, Cond.selects RX5 yX5_fault yX5_fault, Cond.code yX5_fault cX5_fault 1 (some .int), Cond.methodLink RX5 65 yX5_faultOf, Cond.instanceMethod yX5_faultOf, Cond.selects RX5 yX5_faultOf yX5_faultOf, Cond.code yX5_faultOf cX5_faultOf 6 (some .int), Cond.methodLink RL 45 yX4_vain, Cond.instanceMethod yX4_vain, Cond.selects RX4 yX4_vain yX4_vain, Cond.code yX4_vain cX4_vain 6 (some .int), Cond.fieldLink RX4 107 "LieBridges$Pad" "parts" "I", Cond.methodLink RX4 100 yX4_refusalOfText, Cond.instanceMethod yX4_refusalOfText, Cond.selects RX4 yX4_refusalOfText yX4_refusalOfText, Cond.code yX4_refusalOfText cX4_refusalOfText 1 (some .int), Cond.fieldLink RX4 215 "LieBridges$Pad" "asked" "I", Cond.methodLink RX4 103 yX0_become, Cond.instanceMethod yX0_become, Cond.selects RX0 yX0_become yX0_become, Cond.code yX0_become cX0_become 2 none]
def wsL_law_r11 : List Cond := [Cond.static yX4_copy, Cond.code yX4_copy cX4_copy 3 none, Cond.methodLink RX4 110 yX4_takesEffect, Cond.instanceMethod yX4_takesEffect, Cond.selects RX4 yX4_takesEffect yX4_takesEffect, Cond.code yX4_takesEffect cX4_takesEffect 7 (some .boolean), Cond.fieldLink RX4 245 "LieBridges$Pad" "kinds" "[I", Cond.fieldLink RX4 248 "LieBridges$Pad" "speakers" "[I", Cond.fieldLink RX4 251 "LieBridges$Pad" "hearers" "[I", Cond.fieldLink RX4 254 "LieBridges$Pad" "planks" "[I", Cond.methodLink RX4 179 yX0_fadeADay, Cond.instanceMethod yX0_fadeADay, Cond.selects RX0 yX0_fadeADay yX0_fadeADay, Cond.code yX0_fadeADay cX0_fadeADay 2 none, Cond.methodLink RX4 226 yX1_tell, Cond.instanceMethod yX1_tell, Cond.selects RX1 yX1_tell yX1_tell, Cond.code yX1_tell cX1_tell 6 (some .boolean), Cond.methodLink RX1 71 yX1_mayTell, Cond.instanceMethod yX1_mayTell, Cond.selects RX1 yX1_mayTell yX1_mayTell, Cond.code yX1_mayTell cX1_mayTell 4 (some .boolean), Cond.methodLink RX1 67 yX0_of, Cond.instanceMethod yX0_of]
def wsL_law_r12 : List Cond := [Cond.selects RX0 yX0_of yX0_of, Cond.code yX0_of cX0_of 4 (some .int), Cond.static yX4_hasBit, Cond.code yX4_hasBit cX4_hasBit 3 (some .boolean), Cond.methodLink RX4 257 yX1_deny, Cond.instanceMethod yX1_deny, Cond.selects RX1 yX1_deny yX1_deny, Cond.code yX1_deny cX1_deny 6 (some .boolean), Cond.methodLink RL 48 yX5_vain, Cond.instanceMethod yX5_vain, Cond.selects RX5 yX5_vain yX5_vain, Cond.code yX5_vain cX5_vain 4 (some .int), Cond.fieldLink RX5 82 "LieBridgesModel" "vainAt" "I", Cond.methodLink RX5 94 yX5_barOfText, Cond.instanceMethod yX5_barOfText, Cond.selects RX5 yX5_barOfText yX5_barOfText, Cond.code yX5_barOfText cX5_barOfText 1 (some .int), Cond.methodLink RX5 76 yX5_opens, Cond.instanceMethod yX5_opens, Cond.selects RX5 yX5_opens yX5_opens, Cond.code yX5_opens cX5_opens 3 (some .int), Cond.methodLink RX5 97 yX5_goText, Cond.instanceMethod yX5_goText, Cond.selects RX5 yX5_goText yX5_goText]
def wsL_law_r13 : List Cond := [Cond.code yX5_goText cX5_goText 11 (some .int), Cond.fieldLink RX5 79 "LieBridgesModel" "parts" "I", Cond.methodLink RX5 73 yX5_asNow, Cond.instanceMethod yX5_asNow, Cond.selects RX5 yX5_asNow yX5_asNow, Cond.code yX5_asNow cX5_asNow 2 none, Cond.methodLink RX5 85 yX5_pass, Cond.instanceMethod yX5_pass, Cond.selects RX5 yX5_pass yX5_pass, Cond.code yX5_pass cX5_pass 2 none, Cond.methodLink RX5 88 yX5_denies, Cond.instanceMethod yX5_denies, Cond.selects RX5 yX5_denies yX5_denies, Cond.code yX5_denies cX5_denies 5 (some .boolean), Cond.methodLink RX5 69 yX5_has, Cond.static yX5_has, Cond.code yX5_has cX5_has 2 (some .boolean), Cond.methodLink RX5 91 yX5_tells, Cond.instanceMethod yX5_tells, Cond.selects RX5 yX5_tells yX5_tells, Cond.code yX5_tells cX5_tells 5 (some .boolean), Cond.methodLink RL 49 yX4_done, Cond.instanceMethod yX4_done, Cond.selects RX4 yX4_done yX4_done]
def wsL_law_r14 : List Cond := [Cond.code yX4_done cX4_done 3 (some .int), Cond.methodLink RX4 114 yX4_play, Cond.instanceMethod yX4_play, Cond.selects RX4 yX4_play yX4_play, Cond.code yX4_play cX4_play 3 none, Cond.methodLink RL 52 yX5_done, Cond.instanceMethod yX5_done, Cond.selects RX5 yX5_done yX5_done, Cond.code yX5_done cX5_done 3 (some .int), Cond.methodLink RL 53 yX4_bears, Cond.instanceMethod yX4_bears, Cond.selects RX4 yX4_bears yX4_bears, Cond.code yX4_bears cX4_bears 3 (some .int), Cond.methodLink RX4 117 yX4_isPersonOrAll, Cond.static yX4_isPersonOrAll, Cond.code yX4_isPersonOrAll cX4_isPersonOrAll 1 (some .boolean), Cond.methodLink RX4 120 yX4_beliefOrLoad, Cond.static yX4_beliefOrLoad, Cond.code yX4_beliefOrLoad cX4_beliefOrLoad 3 (some .int), Cond.methodLink RX4 142 yX0_load, Cond.instanceMethod yX0_load, Cond.selects RX0 yX0_load yX0_load, Cond.code yX0_load cX0_load 5 (some .int), Cond.methodLink RX0 19 yX0_of]
def wsL_law_r15 : List Cond := [Cond.methodLink RX4 242 yX0_of, Cond.methodLink RL 57 yX5_bears, Cond.instanceMethod yX5_bears, Cond.selects RX5 yX5_bears yX5_bears, Cond.code yX5_bears cX5_bears 3 (some .int), Cond.methodLink RX5 105 yX5_beliefOf, Cond.instanceMethod yX5_beliefOf, Cond.selects RX5 yX5_beliefOf yX5_beliefOf, Cond.code yX5_beliefOf cX5_beliefOf 4 (some .int), Cond.methodLink RX5 101 yX5_bornBy, Cond.instanceMethod yX5_bornBy, Cond.selects RX5 yX5_bornBy yX5_bornBy, Cond.code yX5_bornBy cX5_bornBy 4 (some .int), Cond.methodLink RL 58 yX4_behind, Cond.instanceMethod yX4_behind, Cond.selects RX4 yX4_behind yX4_behind, Cond.code yX4_behind cX4_behind 4 (some .int), Cond.methodLink RL 61 yX5_behind, Cond.instanceMethod yX5_behind, Cond.selects RX5 yX5_behind yX5_behind, Cond.code yX5_behind cX5_behind 4 (some .int), Cond.methodLink RL 62 yX4_falls, Cond.instanceMethod yX4_falls, Cond.selects RX4 yX4_falls yX4_falls]
def wsL_law_r16 : List Cond := [Cond.code yX4_falls cX4_falls 12 (some .int), Cond.methodLink RX4 124 yX4_isParty, Cond.static yX4_isParty, Cond.code yX4_isParty cX4_isParty 1 (some .boolean), Cond.methodLink RX4 127 yX4_isChoice, Cond.static yX4_isChoice, Cond.code yX4_isChoice cX4_isChoice 1 (some .boolean), Cond.methodLink RX4 130 yX4_splitRoute, Cond.instanceMethod yX4_splitRoute, Cond.selects RX4 yX4_splitRoute yX4_splitRoute, Cond.code yX4_splitRoute cX4_splitRoute 5 (some .boolean), Cond.methodLink RX4 138 yX1_across, Cond.instanceMethod yX1_across, Cond.selects RX1 yX1_across yX1_across, Cond.code yX1_across cX1_across 3 (some .int), Cond.methodLink RL 66 yX5_falls, Cond.instanceMethod yX5_falls, Cond.selects RX5 yX5_falls yX5_falls, Cond.code yX5_falls cX5_falls 11 (some .int), Cond.methodLink RX5 109 yX5_powerOf, Cond.static yX5_powerOf, Cond.code yX5_powerOf cX5_powerOf 4 (some .int), Cond.methodLink RX5 112 yX5_over, Cond.instanceMethod yX5_over]
def wsL_law_r17 : List Cond := [Cond.selects RX5 yX5_over yX5_over, Cond.code yX5_over cX5_over 3 (some .int), Cond.methodLink RL 67 yX4_tellings, Cond.instanceMethod yX4_tellings, Cond.selects RX4 yX4_tellings yX4_tellings, Cond.code yX4_tellings cX4_tellings 6 (some .int), Cond.fieldLink RX4 160 "LieBridges$Ways" "worth" "J", Cond.methodLink RX4 145 yX4_tellingsFor, Cond.instanceMethod yX4_tellingsFor, Cond.selects RX4 yX4_tellingsFor yX4_tellingsFor, Cond.code yX4_tellingsFor cX4_tellingsFor 5 (some .int), Cond.methodLink RX4 175 yX4_spread, Cond.instanceMethod yX4_spread, Cond.selects RX4 yX4_spread yX4_spread, Cond.code yX4_spread cX4_spread 5 none, Cond.methodLink RX4 260 yX1_mayTell, Cond.methodLink RX4 182 yX4_tellToAll, Cond.instanceMethod yX4_tellToAll, Cond.selects RX4 yX4_tellToAll yX4_tellToAll, Cond.code yX4_tellToAll cX4_tellToAll 5 none, Cond.methodLink RX4 148 yX3_weigh, Cond.instanceMethod yX3_weigh, Cond.selects RX3 yX3_weigh yX3_weigh, Cond.code yX3_weigh cX3_weigh 3 none]
def wsL_law_r18 : List Cond := [Cond.methodLink RX4 152 yX3_findCheapest, Cond.instanceMethod yX3_findCheapest, Cond.selects RX3 yX3_findCheapest yX3_findCheapest, Cond.code yX3_findCheapest cX3_findCheapest 4 none, Cond.fieldLink RX3 25 "LieBridges$Ways" "likeliest" "Z", Cond.methodLink RX3 29 yX3_find, Cond.instanceMethod yX3_find, Cond.selects RX3 yX3_find yX3_find, Cond.code yX3_find cX3_find 6 none, Cond.fieldLink RX3 43 "LieBridges$Ways" "goal" "I", Cond.fieldLink RX3 35 "LieBridges$Ways" "length" "I", Cond.fieldLink RX3 46 "LieBridges$Ways" "worth" "J", Cond.methodLink RX3 50 yX3_walk, Cond.instanceMethod yX3_walk, Cond.selects RX3 yX3_walk yX3_walk, Cond.code yX3_walk cX3_walk 8 none, Cond.methodLink RX3 54 yX3_keepIfBetter, Cond.instanceMethod yX3_keepIfBetter, Cond.selects RX3 yX3_keepIfBetter yX3_keepIfBetter, Cond.code yX3_keepIfBetter cX3_keepIfBetter 4 none, Cond.methodLink RX3 70 yX3_found, Cond.instanceMethod yX3_found, Cond.selects RX3 yX3_found yX3_found, Cond.code yX3_found cX3_found 1 (some .boolean)]
def wsL_law_r19 : List Cond := [Cond.methodLink RX3 58 yX3_tread, Cond.instanceMethod yX3_tread, Cond.selects RX3 yX3_tread yX3_tread, Cond.code yX3_tread cX3_tread 12 none, Cond.constantLong RX3 68 (10), Cond.methodLink RX3 62 yX1_across, Cond.methodLink RX4 156 yX3_found, Cond.methodLink RX4 164 yX3_step, Cond.instanceMethod yX3_step, Cond.selects RX3 yX3_step yX3_step, Cond.code yX3_step cX3_step 2 (some .int), Cond.methodLink RL 70 yX5_tellings, Cond.instanceMethod yX5_tellings, Cond.selects RX5 yX5_tellings yX5_tellings, Cond.code yX5_tellings cX5_tellings 5 (some .int), Cond.fieldLink RX5 116 "LieBridgesModel" "bestCost" "I", Cond.fieldLink RX5 119 "LieBridgesModel" "bestMany" "I", Cond.fieldLink RX5 122 "LieBridgesModel" "bestCode" "I", Cond.methodLink RX5 131 yX5_layCosts, Cond.instanceMethod yX5_layCosts, Cond.selects RX5 yX5_layCosts yX5_layCosts, Cond.code yX5_layCosts cX5_layCosts 4 none, Cond.constant RX5 115 (1000000), Cond.methodLink RX5 128 yX5_reached]
def wsL_law_r20 : List Cond := [Cond.instanceMethod yX5_reached, Cond.selects RX5 yX5_reached yX5_reached, Cond.code yX5_reached cX5_reached 6 (some .int), Cond.methodLink RX5 135 yX5_layWay, Cond.instanceMethod yX5_layWay, Cond.selects RX5 yX5_layWay yX5_layWay, Cond.code yX5_layWay cX5_layWay 9 (some .boolean), Cond.methodLink RX5 125 yX5_plankOf, Cond.instanceMethod yX5_plankOf, Cond.selects RX5 yX5_plankOf yX5_plankOf, Cond.code yX5_plankOf cX5_plankOf 4 (some .int), Cond.methodLink RL 71 yX4_stands, Cond.instanceMethod yX4_stands, Cond.selects RX4 yX4_stands yX4_stands, Cond.code yX4_stands cX4_stands 5 (some .int), Cond.methodLink RX4 168 yX4_standsBehind, Cond.instanceMethod yX4_standsBehind, Cond.selects RX4 yX4_standsBehind yX4_standsBehind, Cond.code yX4_standsBehind cX4_standsBehind 6 (some .boolean), Cond.methodLink RL 75 yX5_stands, Cond.instanceMethod yX5_stands, Cond.selects RX5 yX5_stands yX5_stands, Cond.code yX5_stands cX5_stands 7 (some .int), Cond.methodLink RL 76 yX4_word]
def wsL_law_r21 : List Cond := [Cond.instanceMethod yX4_word, Cond.selects RX4 yX4_word yX4_word, Cond.code yX4_word cX4_word 7 (some .int), Cond.methodLink RX4 172 yX4_denyToAll, Cond.instanceMethod yX4_denyToAll, Cond.selects RX4 yX4_denyToAll yX4_denyToAll, Cond.code yX4_denyToAll cX4_denyToAll 6 (some .int), Cond.methodLink RL 79 yX5_word, Cond.instanceMethod yX5_word, Cond.selects RX5 yX5_word yX5_word, Cond.code yX5_word cX5_word 8 (some .int), Cond.methodLink RL 80 yX4_rumour, Cond.instanceMethod yX4_rumour, Cond.selects RX4 yX4_rumour yX4_rumour, Cond.code yX4_rumour cX4_rumour 4 (some .int), Cond.methodLink RL 83 yX5_rumour, Cond.instanceMethod yX5_rumour, Cond.selects RX5 yX5_rumour yX5_rumour, Cond.code yX5_rumour cX5_rumour 8 (some .int), Cond.methodLink RL 84 yX4_odds, Cond.instanceMethod yX4_odds, Cond.selects RX4 yX4_odds yX4_odds, Cond.code yX4_odds cX4_odds 5 (some .int), Cond.methodLink RL 87 yX5_odds]
def wsL_law_r22 : List Cond := [Cond.instanceMethod yX5_odds, Cond.selects RX5 yX5_odds yX5_odds, Cond.code yX5_odds cX5_odds 5 (some .int), Cond.methodLink RX5 138 yX5_toAll, Cond.instanceMethod yX5_toAll, Cond.selects RX5 yX5_toAll yX5_toAll, Cond.code yX5_toAll cX5_toAll 6 none, Cond.methodLink RL 88 yX4_tenths, Cond.instanceMethod yX4_tenths, Cond.selects RX4 yX4_tenths yX4_tenths, Cond.code yX4_tenths cX4_tenths 4 (some .int), Cond.fieldLink RX4 186 "LieBridges$Delta" "holds" "[I", Cond.methodLink RL 91 yX5_tenths, Cond.instanceMethod yX5_tenths, Cond.selects RX5 yX5_tenths yX5_tenths, Cond.code yX5_tenths cX5_tenths 4 (some .int), Cond.methodLink RL 92 yX4_safe, Cond.instanceMethod yX4_safe, Cond.selects RX4 yX4_safe yX4_safe, Cond.code yX4_safe cX4_safe 4 (some .int), Cond.methodLink RX4 193 yX4_findSafest, Cond.instanceMethod yX4_findSafest, Cond.selects RX4 yX4_findSafest yX4_findSafest, Cond.code yX4_findSafest cX4_findSafest 4 none]
def wsL_law_r23 : List Cond := [Cond.methodLink RX4 264 yX3_findLikeliest, Cond.instanceMethod yX3_findLikeliest, Cond.selects RX3 yX3_findLikeliest yX3_findLikeliest, Cond.code yX3_findLikeliest cX3_findLikeliest 4 none, Cond.constantLong RX3 33 (1000000), Cond.methodLink RL 95 yX5_safe, Cond.instanceMethod yX5_safe, Cond.selects RX5 yX5_safe yX5_safe, Cond.code yX5_safe cX5_safe 4 (some .int), Cond.methodLink RX5 145 yX5_laySafe, Cond.instanceMethod yX5_laySafe, Cond.selects RX5 yX5_laySafe yX5_laySafe, Cond.code yX5_laySafe cX5_laySafe 10 (some .boolean), Cond.fieldLink RX5 142 "LieBridgesModel" "safeUp" "I", Cond.methodLink RL 96 yX4_chance, Cond.instanceMethod yX4_chance, Cond.selects RX4 yX4_chance yX4_chance, Cond.code yX4_chance cX4_chance 8 (some .long), Cond.constantLong RX4 196 (-1000000000000000001), Cond.constantLong RX4 198 (-1000000000000000002), Cond.constantLong RX4 200 (1000000), Cond.methodLink RX4 202 yX4_sharedDivisor, Cond.static yX4_sharedDivisor, Cond.code yX4_sharedDivisor cX4_sharedDivisor 11 (some .long)]
def wsL_law_r24 : List Cond := [Cond.methodLink RL 100 yX5_chance, Cond.instanceMethod yX5_chance, Cond.selects RX5 yX5_chance yX5_chance, Cond.code yX5_chance cX5_chance 10 (some .long), Cond.constantLong RX5 148 (-1000000000000000001), Cond.constantLong RX5 150 (-1000000000000000002), Cond.methodLink RL 101 yX4_seen, Cond.instanceMethod yX4_seen, Cond.selects RX4 yX4_seen yX4_seen, Cond.code yX4_seen cX4_seen 3 (some .int), Cond.fieldLink RX4 206 "LieBridges$Delta" "sights" "I", Cond.fieldLink RX4 209 "LieBridges$Delta" "sightPlanks" "[I", Cond.fieldLink RX4 212 "LieBridges$Delta" "sightLoads" "[I", Cond.methodLink RL 104 yX5_seen, Cond.instanceMethod yX5_seen, Cond.selects RX5 yX5_seen yX5_seen, Cond.code yX5_seen cX5_seen 3 (some .int), Cond.fieldLink RX5 152 "LieBridgesModel" "sights" "I", Cond.methodLink RL 105 yX4_forget, Cond.instanceMethod yX4_forget, Cond.selects RX4 yX4_forget yX4_forget, Cond.code yX4_forget cX4_forget 2 (some .int), Cond.methodLink RL 108 yX5_forget, Cond.instanceMethod yX5_forget]
def wsL_law_r25 : List Cond := [Cond.selects RX5 yX5_forget yX5_forget, Cond.code yX5_forget cX5_forget 2 (some .int), Cond.methodLink RL 109 yX4_filled, Cond.instanceMethod yX4_filled, Cond.selects RX4 yX4_filled yX4_filled, Cond.code yX4_filled cX4_filled 6 (some .int), Cond.methodLink RX4 218 yX4_guess, Cond.instanceMethod yX4_guess, Cond.selects RX4 yX4_guess yX4_guess, Cond.code yX4_guess cX4_guess 4 none, Cond.methodLink RX4 222 yX4_fits, Cond.instanceMethod yX4_fits, Cond.selects RX4 yX4_fits yX4_fits, Cond.code yX4_fits cX4_fits 2 (some .boolean), Cond.methodLink RL 112 yX5_filled, Cond.instanceMethod yX5_filled, Cond.selects RX5 yX5_filled yX5_filled, Cond.code yX5_filled cX5_filled 8 (some .int), Cond.methodLink RL 113 yX4_year, Cond.instanceMethod yX4_year, Cond.selects RX4 yX4_year yX4_year, Cond.code yX4_year cX4_year 7 (some .int), Cond.constant RX4 225 (65537), Cond.methodLink RL 116 yX5_year]
def wsL_law_r26 : List Cond := [Cond.instanceMethod yX5_year, Cond.selects RX5 yX5_year yX5_year, Cond.code yX5_year cX5_year 7 (some .int), Cond.constant RX5 155 (65537), Cond.methodLink RL 117 yX4_image, Cond.instanceMethod yX4_image, Cond.selects RX4 yX4_image yX4_image, Cond.code yX4_image cX4_image 3 (some .int), Cond.methodLink RX4 230 yX1_become, Cond.instanceMethod yX1_become, Cond.selects RX1 yX1_become yX1_become, Cond.code yX1_become cX1_become 2 none, Cond.fieldLink RX1 91 "LieBridges$Delta" "sights" "I", Cond.methodLink RX1 87 yX0_become, Cond.methodLink RL 120 yX5_image, Cond.instanceMethod yX5_image, Cond.selects RX5 yX5_image yX5_image, Cond.code yX5_image cX5_image 4 (some .int), Cond.methodLink RL 121 yX4_restore, Cond.instanceMethod yX4_restore, Cond.selects RX4 yX4_restore yX4_restore, Cond.code yX4_restore cX4_restore 3 (some .int), Cond.methodLink RL 124 yX5_restore, Cond.instanceMethod yX5_restore]
def wsL_law_r27 : List Cond := [Cond.selects RX5 yX5_restore yX5_restore, Cond.code yX5_restore cX5_restore 4 (some .int), Cond.methodLink RL 125 yX4_told, Cond.instanceMethod yX4_told, Cond.selects RX4 yX4_told yX4_told, Cond.code yX4_told cX4_told 3 (some .int), Cond.fieldLink RX4 233 "LieBridges$Delta" "layers" "[I", Cond.fieldLink RX4 236 "LieBridges$Delta" "lessers" "[I", Cond.fieldLink RX4 239 "LieBridges$Delta" "greaters" "[I", Cond.methodLink RL 128 yX5_told, Cond.instanceMethod yX5_told, Cond.selects RX5 yX5_told yX5_told, Cond.code yX5_told cX5_told 3 (some .int)]
def wsL_law : List Cond := (wsL_law_r1 ++ (wsL_law_r2 ++ (wsL_law_r3 ++ (wsL_law_r4 ++ (wsL_law_r5 ++ (wsL_law_r6 ++ (wsL_law_r7 ++ (wsL_law_r8 ++ (wsL_law_r9 ++ (wsL_law_r10 ++ (wsL_law_r11 ++ (wsL_law_r12 ++ (wsL_law_r13 ++ (wsL_law_r14 ++ (wsL_law_r15 ++ (wsL_law_r16 ++ (wsL_law_r17 ++ (wsL_law_r18 ++ (wsL_law_r19 ++ (wsL_law_r20 ++ (wsL_law_r21 ++ (wsL_law_r22 ++ (wsL_law_r23 ++ (wsL_law_r24 ++ (wsL_law_r25 ++ (wsL_law_r26 ++ wsL_law_r27)))))))))))))))))))))))))) ++ wsX40 ++ wsX50 ++ wsX10 ++ wsX20 ++ wsX30 ++ wsX00 ++ ([] : List Cond)
abbrev vwCl : List vw_C := [(RX0, TX0, 1), (RX1, TX1, 11), (RX2, TX2, 8), (RX3, TX3, 7), (RX4, TX4, 7), (RX5, TX5, 22)]
end
section
/-- words of a list by their places in another -/
theorem memr {big : List Cond} (ws : List Cond) (ps : List Nat) (hp : ws = ps.filterMap (fun i => big[i]?)) : ∀ w ∈ ws, w ∈ big := by
  intro w hw
  rw [hp] at hw
  obtain ⟨i, -, hi⟩ := List.mem_filterMap.mp hw
  exact List.mem_of_getElem? hi
set_option maxRecDepth 20000 in
theorem wsL_law_r1_in : ∀ w ∈ wsL_law_r1, w ∈ lw_tbl := memr _ [46, 47, 40, 549, 550, 45, 48, 49, 50, 51, 52, 53, 54, 55, 41, 205, 206, 136, 137, 43, 207, 174, 175, 44] (by decide +kernel)
set_option maxRecDepth 20000 in
theorem wsL_law_r2_in : ∀ w ∈ wsL_law_r2, w ∈ lw_tbl := memr _ [208, 203, 61, 42, 209, 70, 210, 211, 56, 57, 58, 59, 90, 92, 94, 96, 98, 100, 102, 104, 60, 106, 108, 63] (by decide +kernel)
set_option maxRecDepth 20000 in
theorem wsL_law_r3_in : ∀ w ∈ wsL_law_r3, w ∈ lw_tbl := memr _ [64, 65, 66, 71, 72, 73, 74, 76, 77, 78, 79, 80, 81, 84, 85, 86, 87, 88, 89, 139, 140, 141, 142, 145] (by decide +kernel)
set_option maxRecDepth 20000 in
theorem wsL_law_r4_in : ∀ w ∈ wsL_law_r4, w ∈ lw_tbl := memr _ [147, 149, 151, 177, 178, 179, 180, 181, 182, 551, 552, 553, 554, 555, 556, 557, 558, 559, 560, 561, 562, 564, 566, 567] (by decide +kernel)
set_option maxRecDepth 20000 in
theorem wsL_law_r5_in : ∀ w ∈ wsL_law_r5, w ∈ lw_tbl := memr _ [570, 575, 622, 576, 227, 228, 229, 230, 231, 232, 233, 234, 235, 236, 237, 238, 239, 240, 241, 242, 243, 623, 624, 625] (by decide +kernel)
set_option maxRecDepth 20000 in
theorem wsL_law_r6_in : ∀ w ∈ wsL_law_r6, w ∈ lw_tbl := memr _ [626, 627, 628, 629, 630, 631, 632, 244, 245, 246, 247, 99, 248, 633, 634, 635, 636, 249, 250, 251, 252, 101, 107, 253] (by decide +kernel)
set_option maxRecDepth 20000 in
theorem wsL_law_r7_in : ∀ w ∈ wsL_law_r7, w ∈ lw_tbl := memr _ [637, 638, 639, 640, 254, 255, 256, 257, 109, 641, 642, 643, 644, 258, 259, 260, 261, 144, 262, 263, 264, 265, 143, 645] (by decide +kernel)
set_option maxRecDepth 20000 in
theorem wsL_law_r8_in : ∀ w ∈ wsL_law_r8, w ∈ lw_tbl := memr _ [646, 647, 648, 565, 267, 268, 269, 270, 271, 272, 273, 274, 649, 650, 651, 652, 275, 276, 277, 278, 279, 280, 281, 282] (by decide +kernel)
set_option maxRecDepth 20000 in
theorem wsL_law_r9_in : ∀ w ∈ wsL_law_r9, w ∈ lw_tbl := memr _ [153, 155, 284, 286, 0, 287, 288, 290, 1, 291, 292, 294, 2, 295, 297, 299, 3, 300, 301, 303, 4, 304, 305, 307] (by decide +kernel)
set_option maxRecDepth 20000 in
theorem wsL_law_r10_in : ∀ w ∈ wsL_law_r10, w ∈ lw_tbl := memr _ [5, 308, 653, 654, 655, 656, 657, 659, 22, 660, 310, 311, 312, 313, 154, 314, 316, 6, 317, 156, 318, 319, 320, 321] (by decide +kernel)
set_option maxRecDepth 20000 in
theorem wsL_law_r11_in : ∀ w ∈ wsL_law_r11, w ∈ lw_tbl := memr _ [323, 324, 325, 327, 7, 328, 146, 148, 150, 152, 329, 330, 331, 332, 333, 334, 335, 336, 337, 338, 339, 340, 342, 343] (by decide +kernel)
set_option maxRecDepth 20000 in
theorem wsL_law_r12_in : ∀ w ∈ wsL_law_r12, w ∈ lw_tbl := memr _ [344, 345, 347, 348, 349, 350, 351, 352, 661, 662, 663, 664, 569, 665, 667, 23, 668, 669, 671, 24, 672, 673, 675, 25] (by decide +kernel)
set_option maxRecDepth 20000 in
theorem wsL_law_r13_in : ∀ w ∈ wsL_law_r13, w ∈ lw_tbl := memr _ [676, 568, 677, 679, 26, 680, 681, 683, 27, 684, 685, 687, 28, 688, 689, 690, 691, 692, 694, 29, 695, 353, 354, 355] (by decide +kernel)
set_option maxRecDepth 20000 in
theorem wsL_law_r14_in : ∀ w ∈ wsL_law_r14, w ∈ lw_tbl := memr _ [356, 357, 359, 8, 360, 696, 697, 698, 699, 361, 362, 363, 364, 365, 366, 367, 368, 369, 370, 371, 372, 373, 374, 375] (by decide +kernel)
set_option maxRecDepth 20000 in
theorem wsL_law_r15_in : ∀ w ∈ wsL_law_r15, w ∈ lw_tbl := memr _ [376, 700, 701, 702, 703, 704, 706, 30, 707, 708, 710, 31, 711, 377, 378, 379, 380, 712, 713, 714, 715, 381, 382, 383] (by decide +kernel)
set_option maxRecDepth 20000 in
theorem wsL_law_r16_in : ∀ w ∈ wsL_law_r16, w ∈ lw_tbl := memr _ [384, 385, 386, 387, 388, 389, 390, 391, 393, 9, 394, 395, 396, 397, 398, 716, 717, 718, 719, 720, 721, 722, 723, 725] (by decide +kernel)
set_option maxRecDepth 20000 in
theorem wsL_law_r17_in : ∀ w ∈ wsL_law_r17, w ∈ lw_tbl := memr _ [32, 726, 400, 401, 402, 403, 187, 404, 406, 10, 407, 408, 410, 11, 411, 412, 413, 415, 12, 416, 417, 418, 419, 420] (by decide +kernel)
set_option maxRecDepth 20000 in
theorem wsL_law_r18_in : ∀ w ∈ wsL_law_r18, w ∈ lw_tbl := memr _ [422, 423, 424, 425, 183, 426, 428, 13, 429, 184, 185, 186, 430, 432, 14, 433, 434, 436, 15, 437, 438, 439, 440, 441] (by decide +kernel)
set_option maxRecDepth 20000 in
theorem wsL_law_r19_in : ∀ w ∈ wsL_law_r19, w ∈ lw_tbl := memr _ [443, 445, 16, 446, 449, 447, 450, 451, 452, 453, 454, 727, 728, 729, 730, 573, 571, 572, 731, 733, 33, 734, 739, 735] (by decide +kernel)
set_option maxRecDepth 20000 in
theorem wsL_law_r20_in : ∀ w ∈ wsL_law_r20, w ∈ lw_tbl := memr _ [737, 34, 738, 740, 742, 35, 743, 744, 746, 36, 747, 455, 456, 457, 458, 459, 461, 17, 462, 748, 749, 750, 751, 463] (by decide +kernel)
set_option maxRecDepth 20000 in
theorem wsL_law_r21_in : ∀ w ∈ wsL_law_r21, w ∈ lw_tbl := memr _ [464, 465, 466, 467, 469, 18, 470, 752, 753, 754, 755, 471, 472, 473, 474, 756, 757, 758, 759, 475, 476, 477, 478, 760] (by decide +kernel)
set_option maxRecDepth 20000 in
theorem wsL_law_r22_in : ∀ w ∈ wsL_law_r22, w ∈ lw_tbl := memr _ [761, 762, 763, 764, 766, 37, 767, 479, 480, 481, 482, 97, 768, 769, 770, 771, 483, 484, 485, 486, 487, 489, 19, 490] (by decide +kernel)
set_option maxRecDepth 20000 in
theorem wsL_law_r23_in : ∀ w ∈ wsL_law_r23, w ∈ lw_tbl := memr _ [491, 492, 493, 494, 495, 772, 773, 774, 775, 776, 778, 38, 779, 574, 496, 497, 498, 499, 500, 501, 502, 503, 504, 505] (by decide +kernel)
set_option maxRecDepth 20000 in
theorem wsL_law_r24_in : ∀ w ∈ wsL_law_r24, w ∈ lw_tbl := memr _ [780, 781, 782, 783, 784, 785, 506, 507, 508, 509, 111, 103, 105, 786, 787, 788, 789, 563, 510, 511, 512, 513, 790, 791] (by decide +kernel)
set_option maxRecDepth 20000 in
theorem wsL_law_r25_in : ∀ w ∈ wsL_law_r25, w ∈ lw_tbl := memr _ [792, 793, 514, 515, 516, 517, 518, 520, 20, 521, 522, 524, 21, 525, 794, 795, 796, 797, 526, 527, 528, 529, 530, 798] (by decide +kernel)
set_option maxRecDepth 20000 in
theorem wsL_law_r26_in : ∀ w ∈ wsL_law_r26, w ∈ lw_tbl := memr _ [799, 800, 801, 802, 531, 532, 533, 534, 535, 536, 537, 538, 110, 540, 803, 804, 805, 806, 541, 542, 543, 544, 807, 808] (by decide +kernel)
set_option maxRecDepth 20000 in
theorem wsL_law_r27_in : ∀ w ∈ wsL_law_r27, w ∈ lw_tbl := memr _ [809, 810, 545, 546, 547, 548, 95, 91, 93, 811, 812, 813, 814] (by decide +kernel)
set_option maxRecDepth 20000 in
theorem inX0 : ∀ w ∈ wsX00, w ∈ lw_tbl := memr _ [67] (by decide +kernel)
set_option maxRecDepth 20000 in
theorem inX1 : ∀ w ∈ wsX10, w ∈ lw_tbl := memr _ [112, 114, 116, 118, 120, 122, 124, 126, 128, 130, 132] (by decide +kernel)
set_option maxRecDepth 20000 in
theorem inX2 : ∀ w ∈ wsX20, w ∈ lw_tbl := memr _ [157, 159, 161, 163, 165, 167, 169, 171] (by decide +kernel)
set_option maxRecDepth 20000 in
theorem inX3 : ∀ w ∈ wsX30, w ∈ lw_tbl := memr _ [188, 190, 192, 194, 196, 198, 200] (by decide +kernel)
set_option maxRecDepth 20000 in
theorem inX4 : ∀ w ∈ wsX40, w ∈ lw_tbl := memr _ [212, 214, 216, 218, 220, 222, 224] (by decide +kernel)
set_option maxRecDepth 20000 in
theorem inX5 : ∀ w ∈ wsX50, w ∈ lw_tbl := memr _ [577, 579, 581, 583, 585, 587, 589, 591, 593, 595, 597, 599, 601, 603, 605, 607, 609, 611, 613, 615, 617, 619] (by decide +kernel)
theorem wsL_law_in : ∀ w ∈ wsL_law, w ∈ lw_tbl := List.forall_mem_append.mpr ⟨List.forall_mem_append.mpr ⟨List.forall_mem_append.mpr ⟨List.forall_mem_append.mpr ⟨List.forall_mem_append.mpr ⟨List.forall_mem_append.mpr ⟨List.forall_mem_append.mpr ⟨List.forall_mem_append.mpr ⟨wsL_law_r1_in, List.forall_mem_append.mpr ⟨wsL_law_r2_in, List.forall_mem_append.mpr ⟨wsL_law_r3_in, List.forall_mem_append.mpr ⟨wsL_law_r4_in, List.forall_mem_append.mpr ⟨wsL_law_r5_in, List.forall_mem_append.mpr ⟨wsL_law_r6_in, List.forall_mem_append.mpr ⟨wsL_law_r7_in, List.forall_mem_append.mpr ⟨wsL_law_r8_in, List.forall_mem_append.mpr ⟨wsL_law_r9_in, List.forall_mem_append.mpr ⟨wsL_law_r10_in, List.forall_mem_append.mpr ⟨wsL_law_r11_in, List.forall_mem_append.mpr ⟨wsL_law_r12_in, List.forall_mem_append.mpr ⟨wsL_law_r13_in, List.forall_mem_append.mpr ⟨wsL_law_r14_in, List.forall_mem_append.mpr ⟨wsL_law_r15_in, List.forall_mem_append.mpr ⟨wsL_law_r16_in, List.forall_mem_append.mpr ⟨wsL_law_r17_in, List.forall_mem_append.mpr ⟨wsL_law_r18_in, List.forall_mem_append.mpr ⟨wsL_law_r19_in, List.forall_mem_append.mpr ⟨wsL_law_r20_in, List.forall_mem_append.mpr ⟨wsL_law_r21_in, List.forall_mem_append.mpr ⟨wsL_law_r22_in, List.forall_mem_append.mpr ⟨wsL_law_r23_in, List.forall_mem_append.mpr ⟨wsL_law_r24_in, List.forall_mem_append.mpr ⟨wsL_law_r25_in, List.forall_mem_append.mpr ⟨wsL_law_r26_in, wsL_law_r27_in⟩⟩⟩⟩⟩⟩⟩⟩⟩⟩⟩⟩⟩⟩⟩⟩⟩⟩⟩⟩⟩⟩⟩⟩⟩⟩, inX4⟩, inX5⟩, inX1⟩, inX2⟩, inX3⟩, inX0⟩, fun _ h => absurd h List.not_mem_nil⟩
theorem inlX0 : ∀ w ∈ wsX00, w ∈ wsL_law := fun _ h => List.mem_append_left _ (List.mem_append_right _ h)
theorem inlX1 : ∀ w ∈ wsX10, w ∈ wsL_law := fun _ h => List.mem_append_left _ (List.mem_append_left _ (List.mem_append_left _ (List.mem_append_left _ (List.mem_append_right _ h))))
theorem inlX2 : ∀ w ∈ wsX20, w ∈ wsL_law := fun _ h => List.mem_append_left _ (List.mem_append_left _ (List.mem_append_left _ (List.mem_append_right _ h)))
theorem inlX3 : ∀ w ∈ wsX30, w ∈ wsL_law := fun _ h => List.mem_append_left _ (List.mem_append_left _ (List.mem_append_right _ h))
theorem inlX4 : ∀ w ∈ wsX40, w ∈ wsL_law := fun _ h => List.mem_append_left _ (List.mem_append_left _ (List.mem_append_left _ (List.mem_append_left _ (List.mem_append_left _ (List.mem_append_left _ (List.mem_append_right _ h))))))
theorem inlX5 : ∀ w ∈ wsX50, w ∈ wsL_law := fun _ h => List.mem_append_left _ (List.mem_append_left _ (List.mem_append_left _ (List.mem_append_left _ (List.mem_append_left _ (List.mem_append_right _ h)))))
end
section
theorem dX0_init_0 : decode cX0_init 0 = .ok (.aload_n 0, 1) := by decide +kernel
theorem dX0_init_1 : decode cX0_init 1 = .ok (.invokespecial 3, 3) := by decide +kernel
theorem dX0_init_4 : decode cX0_init 4 = .ok (.aload_n 0, 1) := by decide +kernel
theorem dX0_init_5 : decode cX0_init 5 = .ok (.bipush 36, 2) := by decide +kernel
theorem dX0_init_7 : decode cX0_init 7 = .ok (.newarray .int, 2) := by decide +kernel
theorem dX0_init_9 : decode cX0_init 9 = .ok (.putfield 9, 3) := by decide +kernel
theorem dX0_init_12 : decode cX0_init 12 = .ok (.return_, 1) := by decide +kernel
theorem dX0_of_0 : decode cX0_of 0 = .ok (.iload_n 1, 1) := by decide +kernel
theorem dX0_of_1 : decode cX0_of 1 = .ok (.bipush 6, 2) := by decide +kernel
theorem dX0_of_3 : decode cX0_of 3 = .ok (.imul, 1) := by decide +kernel
theorem dX0_of_4 : decode cX0_of 4 = .ok (.iload_n 2, 1) := by decide +kernel
theorem dX0_of_5 : decode cX0_of 5 = .ok (.iadd, 1) := by decide +kernel
theorem dX0_of_6 : decode cX0_of 6 = .ok (.istore_n 3, 1) := by decide +kernel
theorem dX0_of_7 : decode cX0_of 7 = .ok (.iload_n 3, 1) := by decide +kernel
theorem dX0_of_8 : decode cX0_of 8 = .ok (.ifCond .lt 21, 3) := by decide +kernel
theorem dX0_of_11 : decode cX0_of 11 = .ok (.iload_n 3, 1) := by decide +kernel
theorem dX0_of_12 : decode cX0_of 12 = .ok (.aload_n 0, 1) := by decide +kernel
theorem dX0_of_13 : decode cX0_of 13 = .ok (.getfield 9, 3) := by decide +kernel
theorem dX0_of_16 : decode cX0_of 16 = .ok (.arraylength, 1) := by decide +kernel
theorem dX0_of_17 : decode cX0_of 17 = .ok (.if_icmp .ge 12, 3) := by decide +kernel
theorem dX0_of_20 : decode cX0_of 20 = .ok (.aload_n 0, 1) := by decide +kernel
theorem dX0_of_21 : decode cX0_of 21 = .ok (.getfield 9, 3) := by decide +kernel
theorem dX0_of_24 : decode cX0_of 24 = .ok (.iload_n 3, 1) := by decide +kernel
theorem dX0_of_25 : decode cX0_of 25 = .ok (.iaload, 1) := by decide +kernel
theorem dX0_of_26 : decode cX0_of 26 = .ok (.goto 4, 3) := by decide +kernel
theorem dX0_of_29 : decode cX0_of 29 = .ok (.iconst 0, 1) := by decide +kernel
theorem dX0_of_30 : decode cX0_of 30 = .ok (.ireturn, 1) := by decide +kernel
set_option maxRecDepth 20000 in
theorem ggX0_set_X4_put : GoodIn wsX0_set wsX4_put := goodIn_r _ [4] (by decide +kernel) (by decide +kernel)
set_option maxRecDepth 20000 in
theorem gX0_set_X4_put_n15 : GoodIn wsX0_set (wsX4_put) := ggX0_set_X4_put
theorem dX0_set_0 : decode cX0_set 0 = .ok (.aload_n 0, 1) := by decide +kernel
theorem dX0_set_1 : decode cX0_set 1 = .ok (.getfield 9, 3) := by decide +kernel
theorem dX0_set_4 : decode cX0_set 4 = .ok (.iload_n 1, 1) := by decide +kernel
theorem dX0_set_5 : decode cX0_set 5 = .ok (.bipush 6, 2) := by decide +kernel
theorem dX0_set_7 : decode cX0_set 7 = .ok (.imul, 1) := by decide +kernel
theorem dX0_set_8 : decode cX0_set 8 = .ok (.iload_n 2, 1) := by decide +kernel
theorem dX0_set_9 : decode cX0_set 9 = .ok (.iadd, 1) := by decide +kernel
theorem dX0_set_10 : decode cX0_set 10 = .ok (.iload_n 3, 1) := by decide +kernel
theorem dX0_set_11 : decode cX0_set 11 = .ok (.invokestatic 15, 3) := by decide +kernel
theorem dX0_set_14 : decode cX0_set 14 = .ok (.return_, 1) := by decide +kernel
set_option maxRecDepth 20000 in
theorem ggX0_load_X0_of : GoodIn wsX0_load wsX0_of := goodIn_r _ [5, 6, 7] (by decide +kernel) (by decide +kernel)
set_option maxRecDepth 20000 in
theorem gX0_load_X0_of : GoodIn wsX0_load (wsV RX0 19 RX0 yX0_of wsX0_of) := goodIn_app (goodIn_of _ (by decide +kernel)) ggX0_load_X0_of
theorem dX0_load_0 : decode cX0_load 0 = .ok (.iconst 0, 1) := by decide +kernel
theorem dX0_load_1 : decode cX0_load 1 = .ok (.istore_n 3, 1) := by decide +kernel
theorem dX0_load_2 : decode cX0_load 2 = .ok (.iconst 0, 1) := by decide +kernel
theorem dX0_load_3 : decode cX0_load 3 = .ok (.istore 4, 2) := by decide +kernel
theorem dX0_load_5 : decode cX0_load 5 = .ok (.iload 4, 2) := by decide +kernel
theorem dX0_load_7 : decode cX0_load 7 = .ok (.bipush 6, 2) := by decide +kernel
theorem dX0_load_9 : decode cX0_load 9 = .ok (.if_icmp .ge 23, 3) := by decide +kernel
theorem dX0_load_12 : decode cX0_load 12 = .ok (.aload_n 0, 1) := by decide +kernel
theorem dX0_load_13 : decode cX0_load 13 = .ok (.iload_n 1, 1) := by decide +kernel
theorem dX0_load_14 : decode cX0_load 14 = .ok (.iload 4, 2) := by decide +kernel
theorem dX0_load_16 : decode cX0_load 16 = .ok (.invokevirtual 19, 3) := by decide +kernel
theorem dX0_load_19 : decode cX0_load 19 = .ok (.iload_n 2, 1) := by decide +kernel
theorem dX0_load_20 : decode cX0_load 20 = .ok (.if_icmp .le 6, 3) := by decide +kernel
theorem dX0_load_23 : decode cX0_load 23 = .ok (.iinc 3 1, 3) := by decide +kernel
theorem dX0_load_26 : decode cX0_load 26 = .ok (.iinc 4 1, 3) := by decide +kernel
theorem dX0_load_29 : decode cX0_load 29 = .ok (.goto (-24), 3) := by decide +kernel
theorem dX0_load_32 : decode cX0_load 32 = .ok (.iload_n 3, 1) := by decide +kernel
theorem dX0_load_33 : decode cX0_load 33 = .ok (.ireturn, 1) := by decide +kernel
theorem dX0_fadeADay_0 : decode cX0_fadeADay 0 = .ok (.iconst 0, 1) := by decide +kernel
theorem dX0_fadeADay_1 : decode cX0_fadeADay 1 = .ok (.istore_n 1, 1) := by decide +kernel
theorem dX0_fadeADay_2 : decode cX0_fadeADay 2 = .ok (.iload_n 1, 1) := by decide +kernel
theorem dX0_fadeADay_3 : decode cX0_fadeADay 3 = .ok (.aload_n 0, 1) := by decide +kernel
theorem dX0_fadeADay_4 : decode cX0_fadeADay 4 = .ok (.getfield 9, 3) := by decide +kernel
theorem dX0_fadeADay_7 : decode cX0_fadeADay 7 = .ok (.arraylength, 1) := by decide +kernel
theorem dX0_fadeADay_8 : decode cX0_fadeADay 8 = .ok (.if_icmp .ge 28, 3) := by decide +kernel
theorem dX0_fadeADay_11 : decode cX0_fadeADay 11 = .ok (.aload_n 0, 1) := by decide +kernel
theorem dX0_fadeADay_12 : decode cX0_fadeADay 12 = .ok (.getfield 9, 3) := by decide +kernel
theorem dX0_fadeADay_15 : decode cX0_fadeADay 15 = .ok (.iload_n 1, 1) := by decide +kernel
theorem dX0_fadeADay_16 : decode cX0_fadeADay 16 = .ok (.iaload, 1) := by decide +kernel
theorem dX0_fadeADay_17 : decode cX0_fadeADay 17 = .ok (.ifCond .le 13, 3) := by decide +kernel
theorem dX0_fadeADay_20 : decode cX0_fadeADay 20 = .ok (.aload_n 0, 1) := by decide +kernel
theorem dX0_fadeADay_21 : decode cX0_fadeADay 21 = .ok (.getfield 9, 3) := by decide +kernel
theorem dX0_fadeADay_24 : decode cX0_fadeADay 24 = .ok (.iload_n 1, 1) := by decide +kernel
theorem dX0_fadeADay_25 : decode cX0_fadeADay 25 = .ok (.dup2, 1) := by decide +kernel
theorem dX0_fadeADay_26 : decode cX0_fadeADay 26 = .ok (.iaload, 1) := by decide +kernel
theorem dX0_fadeADay_27 : decode cX0_fadeADay 27 = .ok (.iconst 1, 1) := by decide +kernel
theorem dX0_fadeADay_28 : decode cX0_fadeADay 28 = .ok (.isub, 1) := by decide +kernel
theorem dX0_fadeADay_29 : decode cX0_fadeADay 29 = .ok (.iastore, 1) := by decide +kernel
theorem dX0_fadeADay_30 : decode cX0_fadeADay 30 = .ok (.iinc 1 1, 3) := by decide +kernel
theorem dX0_fadeADay_33 : decode cX0_fadeADay 33 = .ok (.goto (-31), 3) := by decide +kernel
theorem dX0_fadeADay_36 : decode cX0_fadeADay 36 = .ok (.return_, 1) := by decide +kernel
set_option maxRecDepth 20000 in
theorem ggX0_become_X4_copy : GoodIn wsX0_become wsX4_copy := goodIn_r _ [4, 5, 6, 3, 7] (by decide +kernel) (by decide +kernel)
set_option maxRecDepth 20000 in
theorem gX0_become_X4_copy_n23 : GoodIn wsX0_become (wsX4_copy) := ggX0_become_X4_copy
theorem dX0_become_0 : decode cX0_become 0 = .ok (.aload_n 1, 1) := by decide +kernel
theorem dX0_become_1 : decode cX0_become 1 = .ok (.getfield 9, 3) := by decide +kernel
theorem dX0_become_4 : decode cX0_become 4 = .ok (.aload_n 0, 1) := by decide +kernel
theorem dX0_become_5 : decode cX0_become 5 = .ok (.getfield 9, 3) := by decide +kernel
theorem dX0_become_8 : decode cX0_become 8 = .ok (.invokestatic 23, 3) := by decide +kernel
theorem dX0_become_11 : decode cX0_become 11 = .ok (.return_, 1) := by decide +kernel
set_option maxRecDepth 20000 in
theorem ggX1_init_X0_init : GoodIn wsX1_init wsX0_init := goodIn_r _ [19, 20, 2, 3, 4, 21, 51] (by decide +kernel) (by decide +kernel)
set_option maxRecDepth 20000 in
theorem gX1_init_X0_init_n38 : GoodIn wsX1_init (wsX0_init) := ggX1_init_X0_init
set_option maxRecDepth 20000 in
theorem ggX1_init_X1_lay : GoodIn wsX1_init wsX1_lay := goodIn_r _ [26, 5, 6, 7, 16, 10, 27, 28, 29, 30, 31, 32, 15, 33, 21, 34, 35, 36, 37, 38, 39, 40, 41, 42, 43, 44, 45, 46, 47, 48, 49, 50, 51] (by decide +kernel) (by decide +kernel)
set_option maxRecDepth 20000 in
theorem gX1_init_X1_lay : GoodIn wsX1_init (wsV RX1 47 RX1 yX1_lay wsX1_lay) := goodIn_app (goodIn_of _ (by decide +kernel)) ggX1_init_X1_lay
set_option maxRecDepth 20000 in
theorem ggX1_init_X4_put : GoodIn wsX1_init wsX4_put := goodIn_r _ [29] (by decide +kernel) (by decide +kernel)
set_option maxRecDepth 20000 in
theorem gX1_init_X4_put_n51 : GoodIn wsX1_init (wsX4_put) := ggX1_init_X4_put
theorem dX1_init_0 : decode cX1_init 0 = .ok (.aload_n 0, 1) := by decide +kernel
theorem dX1_init_1 : decode cX1_init 1 = .ok (.invokespecial 3, 3) := by decide +kernel
theorem dX1_init_4 : decode cX1_init 4 = .ok (.aload_n 0, 1) := by decide +kernel
theorem dX1_init_5 : decode cX1_init 5 = .ok (.bipush 6, 2) := by decide +kernel
theorem dX1_init_7 : decode cX1_init 7 = .ok (.newarray .int, 2) := by decide +kernel
theorem dX1_init_9 : decode cX1_init 9 = .ok (.putfield 9, 3) := by decide +kernel
theorem dX1_init_12 : decode cX1_init 12 = .ok (.aload_n 0, 1) := by decide +kernel
theorem dX1_init_13 : decode cX1_init 13 = .ok (.bipush 6, 2) := by decide +kernel
theorem dX1_init_15 : decode cX1_init 15 = .ok (.newarray .int, 2) := by decide +kernel
theorem dX1_init_17 : decode cX1_init 17 = .ok (.putfield 15, 3) := by decide +kernel
theorem dX1_init_20 : decode cX1_init 20 = .ok (.aload_n 0, 1) := by decide +kernel
theorem dX1_init_21 : decode cX1_init 21 = .ok (.bipush 6, 2) := by decide +kernel
theorem dX1_init_23 : decode cX1_init 23 = .ok (.newarray .int, 2) := by decide +kernel
theorem dX1_init_25 : decode cX1_init 25 = .ok (.putfield 18, 3) := by decide +kernel
theorem dX1_init_28 : decode cX1_init 28 = .ok (.aload_n 0, 1) := by decide +kernel
theorem dX1_init_29 : decode cX1_init 29 = .ok (.bipush 6, 2) := by decide +kernel
theorem dX1_init_31 : decode cX1_init 31 = .ok (.newarray .int, 2) := by decide +kernel
theorem dX1_init_33 : decode cX1_init 33 = .ok (.putfield 21, 3) := by decide +kernel
theorem dX1_init_36 : decode cX1_init 36 = .ok (.aload_n 0, 1) := by decide +kernel
theorem dX1_init_37 : decode cX1_init 37 = .ok (.bipush 6, 2) := by decide +kernel
theorem dX1_init_39 : decode cX1_init 39 = .ok (.newarray .int, 2) := by decide +kernel
theorem dX1_init_41 : decode cX1_init 41 = .ok (.putfield 24, 3) := by decide +kernel
theorem dX1_init_44 : decode cX1_init 44 = .ok (.aload_n 0, 1) := by decide +kernel
theorem dX1_init_45 : decode cX1_init 45 = .ok (.bipush 6, 2) := by decide +kernel
theorem dX1_init_47 : decode cX1_init 47 = .ok (.newarray .int, 2) := by decide +kernel
theorem dX1_init_49 : decode cX1_init 49 = .ok (.putfield 27, 3) := by decide +kernel
theorem dX1_init_52 : decode cX1_init 52 = .ok (.aload_n 0, 1) := by decide +kernel
theorem dX1_init_53 : decode cX1_init 53 = .ok (.bipush 6, 2) := by decide +kernel
theorem dX1_init_55 : decode cX1_init 55 = .ok (.newarray .int, 2) := by decide +kernel
theorem dX1_init_57 : decode cX1_init 57 = .ok (.putfield 30, 3) := by decide +kernel
theorem dX1_init_60 : decode cX1_init 60 = .ok (.aload_n 0, 1) := by decide +kernel
theorem dX1_init_61 : decode cX1_init 61 = .ok (.bipush 6, 2) := by decide +kernel
theorem dX1_init_63 : decode cX1_init 63 = .ok (.newarray .int, 2) := by decide +kernel
theorem dX1_init_65 : decode cX1_init 65 = .ok (.putfield 33, 3) := by decide +kernel
theorem dX1_init_68 : decode cX1_init 68 = .ok (.aload_n 0, 1) := by decide +kernel
theorem dX1_init_69 : decode cX1_init 69 = .ok (.new 36, 3) := by decide +kernel
theorem dX1_init_72 : decode cX1_init 72 = .ok (.dup, 1) := by decide +kernel
theorem dX1_init_73 : decode cX1_init 73 = .ok (.invokespecial 38, 3) := by decide +kernel
theorem dX1_init_76 : decode cX1_init 76 = .ok (.putfield 39, 3) := by decide +kernel
theorem dX1_init_79 : decode cX1_init 79 = .ok (.aload_n 0, 1) := by decide +kernel
theorem dX1_init_80 : decode cX1_init 80 = .ok (.iconst 3, 1) := by decide +kernel
theorem dX1_init_81 : decode cX1_init 81 = .ok (.putfield 43, 3) := by decide +kernel
theorem dX1_init_84 : decode cX1_init 84 = .ok (.iconst 0, 1) := by decide +kernel
theorem dX1_init_85 : decode cX1_init 85 = .ok (.istore_n 1, 1) := by decide +kernel
theorem dX1_init_86 : decode cX1_init 86 = .ok (.iload_n 1, 1) := by decide +kernel
theorem dX1_init_87 : decode cX1_init 87 = .ok (.bipush 6, 2) := by decide +kernel
theorem dX1_init_89 : decode cX1_init 89 = .ok (.if_icmp .ge 31, 3) := by decide +kernel
theorem dX1_init_92 : decode cX1_init 92 = .ok (.aload_n 0, 1) := by decide +kernel
theorem dX1_init_93 : decode cX1_init 93 = .ok (.iload_n 1, 1) := by decide +kernel
theorem dX1_init_94 : decode cX1_init 94 = .ok (.iload_n 1, 1) := by decide +kernel
theorem dX1_init_95 : decode cX1_init 95 = .ok (.iload_n 1, 1) := by decide +kernel
theorem dX1_init_96 : decode cX1_init 96 = .ok (.iconst 1, 1) := by decide +kernel
theorem dX1_init_97 : decode cX1_init 97 = .ok (.iadd, 1) := by decide +kernel
theorem dX1_init_98 : decode cX1_init 98 = .ok (.bipush 6, 2) := by decide +kernel
theorem dX1_init_100 : decode cX1_init 100 = .ok (.irem, 1) := by decide +kernel
theorem dX1_init_101 : decode cX1_init 101 = .ok (.iload_n 1, 1) := by decide +kernel
theorem dX1_init_102 : decode cX1_init 102 = .ok (.invokevirtual 47, 3) := by decide +kernel
theorem dX1_init_105 : decode cX1_init 105 = .ok (.aload_n 0, 1) := by decide +kernel
theorem dX1_init_106 : decode cX1_init 106 = .ok (.getfield 21, 3) := by decide +kernel
theorem dX1_init_109 : decode cX1_init 109 = .ok (.iload_n 1, 1) := by decide +kernel
theorem dX1_init_110 : decode cX1_init 110 = .ok (.iconst 5, 1) := by decide +kernel
theorem dX1_init_111 : decode cX1_init 111 = .ok (.invokestatic 51, 3) := by decide +kernel
theorem dX1_init_114 : decode cX1_init 114 = .ok (.iinc 1 1, 3) := by decide +kernel
theorem dX1_init_117 : decode cX1_init 117 = .ok (.goto (-31), 3) := by decide +kernel
theorem dX1_init_120 : decode cX1_init 120 = .ok (.return_, 1) := by decide +kernel
set_option maxRecDepth 20000 in
theorem ggX1_lay_X4_put : GoodIn wsX1_lay wsX4_put := goodIn_r _ [8] (by decide +kernel) (by decide +kernel)
set_option maxRecDepth 20000 in
theorem gX1_lay_X4_put_n51 : GoodIn wsX1_lay (wsX4_put) := ggX1_lay_X4_put
set_option maxRecDepth 20000 in
theorem ggX1_lay_X0_set : GoodIn wsX1_lay wsX0_set := goodIn_r _ [13, 14, 6, 7, 8, 32] (by decide +kernel) (by decide +kernel)
set_option maxRecDepth 20000 in
theorem gX1_lay_X0_set : GoodIn wsX1_lay (wsV RX1 55 RX0 yX0_set wsX0_set) := goodIn_app (goodIn_of _ (by decide +kernel)) ggX1_lay_X0_set
set_option maxRecDepth 20000 in
theorem ggX1_lay_X4_putBit : GoodIn wsX1_lay wsX4_putBit := goodIn_r _ [16, 17, 18, 7, 19, 20, 6, 8] (by decide +kernel) (by decide +kernel)
set_option maxRecDepth 20000 in
theorem gX1_lay_X4_putBit_n59 : GoodIn wsX1_lay (wsX4_putBit) := ggX1_lay_X4_putBit
theorem dX1_lay_0 : decode cX1_lay 0 = .ok (.aload_n 0, 1) := by decide +kernel
theorem dX1_lay_1 : decode cX1_lay 1 = .ok (.getfield 9, 3) := by decide +kernel
theorem dX1_lay_4 : decode cX1_lay 4 = .ok (.iload_n 1, 1) := by decide +kernel
theorem dX1_lay_5 : decode cX1_lay 5 = .ok (.iload_n 2, 1) := by decide +kernel
theorem dX1_lay_6 : decode cX1_lay 6 = .ok (.iload_n 3, 1) := by decide +kernel
theorem dX1_lay_7 : decode cX1_lay 7 = .ok (.if_icmp .ge 7, 3) := by decide +kernel
theorem dX1_lay_10 : decode cX1_lay 10 = .ok (.iload_n 2, 1) := by decide +kernel
theorem dX1_lay_11 : decode cX1_lay 11 = .ok (.goto 4, 3) := by decide +kernel
theorem dX1_lay_14 : decode cX1_lay 14 = .ok (.iload_n 3, 1) := by decide +kernel
theorem dX1_lay_15 : decode cX1_lay 15 = .ok (.invokestatic 51, 3) := by decide +kernel
theorem dX1_lay_18 : decode cX1_lay 18 = .ok (.aload_n 0, 1) := by decide +kernel
theorem dX1_lay_19 : decode cX1_lay 19 = .ok (.getfield 15, 3) := by decide +kernel
theorem dX1_lay_22 : decode cX1_lay 22 = .ok (.iload_n 1, 1) := by decide +kernel
theorem dX1_lay_23 : decode cX1_lay 23 = .ok (.iload_n 2, 1) := by decide +kernel
theorem dX1_lay_24 : decode cX1_lay 24 = .ok (.iload_n 3, 1) := by decide +kernel
theorem dX1_lay_25 : decode cX1_lay 25 = .ok (.if_icmp .ge 7, 3) := by decide +kernel
theorem dX1_lay_28 : decode cX1_lay 28 = .ok (.iload_n 3, 1) := by decide +kernel
theorem dX1_lay_29 : decode cX1_lay 29 = .ok (.goto 4, 3) := by decide +kernel
theorem dX1_lay_32 : decode cX1_lay 32 = .ok (.iload_n 2, 1) := by decide +kernel
theorem dX1_lay_33 : decode cX1_lay 33 = .ok (.invokestatic 51, 3) := by decide +kernel
theorem dX1_lay_36 : decode cX1_lay 36 = .ok (.aload_n 0, 1) := by decide +kernel
theorem dX1_lay_37 : decode cX1_lay 37 = .ok (.getfield 18, 3) := by decide +kernel
theorem dX1_lay_40 : decode cX1_lay 40 = .ok (.iload_n 1, 1) := by decide +kernel
theorem dX1_lay_41 : decode cX1_lay 41 = .ok (.iload 4, 2) := by decide +kernel
theorem dX1_lay_43 : decode cX1_lay 43 = .ok (.invokestatic 51, 3) := by decide +kernel
theorem dX1_lay_46 : decode cX1_lay 46 = .ok (.iconst 0, 1) := by decide +kernel
theorem dX1_lay_47 : decode cX1_lay 47 = .ok (.istore 5, 2) := by decide +kernel
theorem dX1_lay_49 : decode cX1_lay 49 = .ok (.iload 5, 2) := by decide +kernel
theorem dX1_lay_51 : decode cX1_lay 51 = .ok (.bipush 6, 2) := by decide +kernel
theorem dX1_lay_53 : decode cX1_lay 53 = .ok (.if_icmp .ge 31, 3) := by decide +kernel
theorem dX1_lay_56 : decode cX1_lay 56 = .ok (.aload_n 0, 1) := by decide +kernel
theorem dX1_lay_57 : decode cX1_lay 57 = .ok (.getfield 39, 3) := by decide +kernel
theorem dX1_lay_60 : decode cX1_lay 60 = .ok (.iload_n 1, 1) := by decide +kernel
theorem dX1_lay_61 : decode cX1_lay 61 = .ok (.iload 5, 2) := by decide +kernel
theorem dX1_lay_63 : decode cX1_lay 63 = .ok (.iconst 0, 1) := by decide +kernel
theorem dX1_lay_64 : decode cX1_lay 64 = .ok (.invokevirtual 55, 3) := by decide +kernel
theorem dX1_lay_67 : decode cX1_lay 67 = .ok (.aload_n 0, 1) := by decide +kernel
theorem dX1_lay_68 : decode cX1_lay 68 = .ok (.getfield 27, 3) := by decide +kernel
theorem dX1_lay_71 : decode cX1_lay 71 = .ok (.iload 5, 2) := by decide +kernel
theorem dX1_lay_73 : decode cX1_lay 73 = .ok (.iload_n 1, 1) := by decide +kernel
theorem dX1_lay_74 : decode cX1_lay 74 = .ok (.iconst 0, 1) := by decide +kernel
theorem dX1_lay_75 : decode cX1_lay 75 = .ok (.invokestatic 59, 3) := by decide +kernel
theorem dX1_lay_78 : decode cX1_lay 78 = .ok (.iinc 5 1, 3) := by decide +kernel
theorem dX1_lay_81 : decode cX1_lay 81 = .ok (.goto (-32), 3) := by decide +kernel
theorem dX1_lay_84 : decode cX1_lay 84 = .ok (.return_, 1) := by decide +kernel
set_option maxRecDepth 20000 in
theorem ggX1_mayTell_X4_at : GoodIn wsX1_mayTell wsX4_at := goodIn_r _ [4] (by decide +kernel) (by decide +kernel)
set_option maxRecDepth 20000 in
theorem gX1_mayTell_X4_at_n63 : GoodIn wsX1_mayTell (wsX4_at) := ggX1_mayTell_X4_at
set_option maxRecDepth 20000 in
theorem ggX1_mayTell_X0_of : GoodIn wsX1_mayTell wsX0_of := goodIn_r _ [9, 10, 22] (by decide +kernel) (by decide +kernel)
set_option maxRecDepth 20000 in
theorem gX1_mayTell_X0_of : GoodIn wsX1_mayTell (wsV RX1 67 RX0 yX0_of wsX0_of) := goodIn_app (goodIn_of _ (by decide +kernel)) ggX1_mayTell_X0_of
theorem dX1_mayTell_0 : decode cX1_mayTell 0 = .ok (.aload_n 0, 1) := by decide +kernel
theorem dX1_mayTell_1 : decode cX1_mayTell 1 = .ok (.getfield 18, 3) := by decide +kernel
theorem dX1_mayTell_4 : decode cX1_mayTell 4 = .ok (.iload_n 3, 1) := by decide +kernel
theorem dX1_mayTell_5 : decode cX1_mayTell 5 = .ok (.invokestatic 63, 3) := by decide +kernel
theorem dX1_mayTell_8 : decode cX1_mayTell 8 = .ok (.iload_n 2, 1) := by decide +kernel
theorem dX1_mayTell_9 : decode cX1_mayTell 9 = .ok (.if_icmp .eq 12, 3) := by decide +kernel
theorem dX1_mayTell_12 : decode cX1_mayTell 12 = .ok (.aload_n 1, 1) := by decide +kernel
theorem dX1_mayTell_13 : decode cX1_mayTell 13 = .ok (.iload_n 3, 1) := by decide +kernel
theorem dX1_mayTell_14 : decode cX1_mayTell 14 = .ok (.iload_n 2, 1) := by decide +kernel
theorem dX1_mayTell_15 : decode cX1_mayTell 15 = .ok (.invokevirtual 67, 3) := by decide +kernel
theorem dX1_mayTell_18 : decode cX1_mayTell 18 = .ok (.ifCond .le 7, 3) := by decide +kernel
theorem dX1_mayTell_21 : decode cX1_mayTell 21 = .ok (.iconst 1, 1) := by decide +kernel
theorem dX1_mayTell_22 : decode cX1_mayTell 22 = .ok (.goto 4, 3) := by decide +kernel
theorem dX1_mayTell_25 : decode cX1_mayTell 25 = .ok (.iconst 0, 1) := by decide +kernel
theorem dX1_mayTell_26 : decode cX1_mayTell 26 = .ok (.ireturn, 1) := by decide +kernel
set_option maxRecDepth 20000 in
theorem ggX1_tell_X1_mayTell : GoodIn wsX1_tell wsX1_mayTell := goodIn_r _ [9, 2, 10, 11, 12, 13, 14, 15, 16, 17, 18, 28, 29, 30, 31, 32, 33, 34, 35, 36, 37, 38, 39] (by decide +kernel) (by decide +kernel)
set_option maxRecDepth 20000 in
theorem gX1_tell_X1_mayTell : GoodIn wsX1_tell (wsV RX1 71 RX1 yX1_mayTell wsX1_mayTell) := goodIn_app (goodIn_of _ (by decide +kernel)) ggX1_tell_X1_mayTell
set_option maxRecDepth 20000 in
theorem ggX1_tell_X4_hasBit : GoodIn wsX1_tell wsX4_hasBit := goodIn_r _ [20, 21, 10, 11, 12] (by decide +kernel) (by decide +kernel)
set_option maxRecDepth 20000 in
theorem gX1_tell_X4_hasBit_n75 : GoodIn wsX1_tell (wsX4_hasBit) := ggX1_tell_X4_hasBit
set_option maxRecDepth 20000 in
theorem ggX1_tell_X4_at : GoodIn wsX1_tell wsX4_at := goodIn_r _ [12] (by decide +kernel) (by decide +kernel)
set_option maxRecDepth 20000 in
theorem gX1_tell_X4_at_n63 : GoodIn wsX1_tell (wsX4_at) := ggX1_tell_X4_at
set_option maxRecDepth 20000 in
theorem ggX1_tell_X0_of : GoodIn wsX1_tell wsX0_of := goodIn_r _ [17, 18, 39] (by decide +kernel) (by decide +kernel)
set_option maxRecDepth 20000 in
theorem gX1_tell_X0_of : GoodIn wsX1_tell (wsV RX1 67 RX0 yX0_of wsX0_of) := goodIn_app (goodIn_of _ (by decide +kernel)) ggX1_tell_X0_of
set_option maxRecDepth 20000 in
theorem ggX1_tell_X0_set : GoodIn wsX1_tell wsX0_set := goodIn_r _ [25, 18, 26, 11, 27, 39] (by decide +kernel) (by decide +kernel)
set_option maxRecDepth 20000 in
theorem gX1_tell_X0_set : GoodIn wsX1_tell (wsV RX1 55 RX0 yX0_set wsX0_set) := goodIn_app (goodIn_of _ (by decide +kernel)) ggX1_tell_X0_set
theorem dX1_tell_0 : decode cX1_tell 0 = .ok (.aload_n 0, 1) := by decide +kernel
theorem dX1_tell_1 : decode cX1_tell 1 = .ok (.aload_n 1, 1) := by decide +kernel
theorem dX1_tell_2 : decode cX1_tell 2 = .ok (.iload_n 2, 1) := by decide +kernel
theorem dX1_tell_3 : decode cX1_tell 3 = .ok (.iload 4, 2) := by decide +kernel
theorem dX1_tell_5 : decode cX1_tell 5 = .ok (.invokevirtual 71, 3) := by decide +kernel
theorem dX1_tell_8 : decode cX1_tell 8 = .ok (.ifCond .eq 55, 3) := by decide +kernel
theorem dX1_tell_11 : decode cX1_tell 11 = .ok (.aload_n 0, 1) := by decide +kernel
theorem dX1_tell_12 : decode cX1_tell 12 = .ok (.getfield 24, 3) := by decide +kernel
theorem dX1_tell_15 : decode cX1_tell 15 = .ok (.iload_n 3, 1) := by decide +kernel
theorem dX1_tell_16 : decode cX1_tell 16 = .ok (.iload_n 2, 1) := by decide +kernel
theorem dX1_tell_17 : decode cX1_tell 17 = .ok (.invokestatic 75, 3) := by decide +kernel
theorem dX1_tell_20 : decode cX1_tell 20 = .ok (.ifCond .eq 43, 3) := by decide +kernel
theorem dX1_tell_23 : decode cX1_tell 23 = .ok (.aload_n 0, 1) := by decide +kernel
theorem dX1_tell_24 : decode cX1_tell 24 = .ok (.getfield 18, 3) := by decide +kernel
theorem dX1_tell_27 : decode cX1_tell 27 = .ok (.iload 4, 2) := by decide +kernel
theorem dX1_tell_29 : decode cX1_tell 29 = .ok (.invokestatic 63, 3) := by decide +kernel
theorem dX1_tell_32 : decode cX1_tell 32 = .ok (.iload_n 3, 1) := by decide +kernel
theorem dX1_tell_33 : decode cX1_tell 33 = .ok (.if_icmp .eq 30, 3) := by decide +kernel
theorem dX1_tell_36 : decode cX1_tell 36 = .ok (.aload_n 0, 1) := by decide +kernel
theorem dX1_tell_37 : decode cX1_tell 37 = .ok (.getfield 27, 3) := by decide +kernel
theorem dX1_tell_40 : decode cX1_tell 40 = .ok (.iload_n 3, 1) := by decide +kernel
theorem dX1_tell_41 : decode cX1_tell 41 = .ok (.iload 4, 2) := by decide +kernel
theorem dX1_tell_43 : decode cX1_tell 43 = .ok (.invokestatic 75, 3) := by decide +kernel
theorem dX1_tell_46 : decode cX1_tell 46 = .ok (.ifCond .ne 17, 3) := by decide +kernel
theorem dX1_tell_49 : decode cX1_tell 49 = .ok (.aload_n 1, 1) := by decide +kernel
theorem dX1_tell_50 : decode cX1_tell 50 = .ok (.iload 4, 2) := by decide +kernel
theorem dX1_tell_52 : decode cX1_tell 52 = .ok (.iload_n 3, 1) := by decide +kernel
theorem dX1_tell_53 : decode cX1_tell 53 = .ok (.invokevirtual 67, 3) := by decide +kernel
theorem dX1_tell_56 : decode cX1_tell 56 = .ok (.ifCond .ne 7, 3) := by decide +kernel
theorem dX1_tell_59 : decode cX1_tell 59 = .ok (.iconst 1, 1) := by decide +kernel
theorem dX1_tell_60 : decode cX1_tell 60 = .ok (.goto 4, 3) := by decide +kernel
theorem dX1_tell_63 : decode cX1_tell 63 = .ok (.iconst 0, 1) := by decide +kernel
theorem dX1_tell_64 : decode cX1_tell 64 = .ok (.istore 5, 2) := by decide +kernel
theorem dX1_tell_66 : decode cX1_tell 66 = .ok (.iload 5, 2) := by decide +kernel
theorem dX1_tell_68 : decode cX1_tell 68 = .ok (.ifCond .eq 14, 3) := by decide +kernel
theorem dX1_tell_71 : decode cX1_tell 71 = .ok (.aload_n 1, 1) := by decide +kernel
theorem dX1_tell_72 : decode cX1_tell 72 = .ok (.iload 4, 2) := by decide +kernel
theorem dX1_tell_74 : decode cX1_tell 74 = .ok (.iload_n 3, 1) := by decide +kernel
theorem dX1_tell_75 : decode cX1_tell 75 = .ok (.aload_n 0, 1) := by decide +kernel
theorem dX1_tell_76 : decode cX1_tell 76 = .ok (.getfield 43, 3) := by decide +kernel
theorem dX1_tell_79 : decode cX1_tell 79 = .ok (.invokevirtual 55, 3) := by decide +kernel
theorem dX1_tell_82 : decode cX1_tell 82 = .ok (.iload 5, 2) := by decide +kernel
theorem dX1_tell_84 : decode cX1_tell 84 = .ok (.ireturn, 1) := by decide +kernel
set_option maxRecDepth 20000 in
theorem ggX1_deny_X4_hasBit : GoodIn wsX1_deny wsX4_hasBit := goodIn_r _ [4, 5, 6, 3, 7] (by decide +kernel) (by decide +kernel)
set_option maxRecDepth 20000 in
theorem gX1_deny_X4_hasBit_n75 : GoodIn wsX1_deny (wsX4_hasBit) := ggX1_deny_X4_hasBit
set_option maxRecDepth 20000 in
theorem ggX1_deny_X0_of : GoodIn wsX1_deny wsX0_of := goodIn_r _ [12, 13, 31] (by decide +kernel) (by decide +kernel)
set_option maxRecDepth 20000 in
theorem gX1_deny_X0_of : GoodIn wsX1_deny (wsV RX1 67 RX0 yX0_of wsX0_of) := goodIn_app (goodIn_of _ (by decide +kernel)) ggX1_deny_X0_of
set_option maxRecDepth 20000 in
theorem ggX1_deny_X0_set : GoodIn wsX1_deny wsX0_set := goodIn_r _ [17, 13, 18, 3, 19, 31] (by decide +kernel) (by decide +kernel)
set_option maxRecDepth 20000 in
theorem gX1_deny_X0_set : GoodIn wsX1_deny (wsV RX1 55 RX0 yX0_set wsX0_set) := goodIn_app (goodIn_of _ (by decide +kernel)) ggX1_deny_X0_set
theorem dX1_deny_0 : decode cX1_deny 0 = .ok (.aload_n 0, 1) := by decide +kernel
theorem dX1_deny_1 : decode cX1_deny 1 = .ok (.getfield 24, 3) := by decide +kernel
theorem dX1_deny_4 : decode cX1_deny 4 = .ok (.iload_n 3, 1) := by decide +kernel
theorem dX1_deny_5 : decode cX1_deny 5 = .ok (.iload_n 2, 1) := by decide +kernel
theorem dX1_deny_6 : decode cX1_deny 6 = .ok (.invokestatic 75, 3) := by decide +kernel
theorem dX1_deny_9 : decode cX1_deny 9 = .ok (.ifCond .eq 17, 3) := by decide +kernel
theorem dX1_deny_12 : decode cX1_deny 12 = .ok (.aload_n 1, 1) := by decide +kernel
theorem dX1_deny_13 : decode cX1_deny 13 = .ok (.iload 4, 2) := by decide +kernel
theorem dX1_deny_15 : decode cX1_deny 15 = .ok (.iload_n 3, 1) := by decide +kernel
theorem dX1_deny_16 : decode cX1_deny 16 = .ok (.invokevirtual 67, 3) := by decide +kernel
theorem dX1_deny_19 : decode cX1_deny 19 = .ok (.ifCond .le 7, 3) := by decide +kernel
theorem dX1_deny_22 : decode cX1_deny 22 = .ok (.iconst 1, 1) := by decide +kernel
theorem dX1_deny_23 : decode cX1_deny 23 = .ok (.goto 4, 3) := by decide +kernel
theorem dX1_deny_26 : decode cX1_deny 26 = .ok (.iconst 0, 1) := by decide +kernel
theorem dX1_deny_27 : decode cX1_deny 27 = .ok (.istore 5, 2) := by decide +kernel
theorem dX1_deny_29 : decode cX1_deny 29 = .ok (.iload 5, 2) := by decide +kernel
theorem dX1_deny_31 : decode cX1_deny 31 = .ok (.ifCond .eq 11, 3) := by decide +kernel
theorem dX1_deny_34 : decode cX1_deny 34 = .ok (.aload_n 1, 1) := by decide +kernel
theorem dX1_deny_35 : decode cX1_deny 35 = .ok (.iload 4, 2) := by decide +kernel
theorem dX1_deny_37 : decode cX1_deny 37 = .ok (.iload_n 3, 1) := by decide +kernel
theorem dX1_deny_38 : decode cX1_deny 38 = .ok (.iconst 0, 1) := by decide +kernel
theorem dX1_deny_39 : decode cX1_deny 39 = .ok (.invokevirtual 55, 3) := by decide +kernel
theorem dX1_deny_42 : decode cX1_deny 42 = .ok (.iload 5, 2) := by decide +kernel
theorem dX1_deny_44 : decode cX1_deny 44 = .ok (.ireturn, 1) := by decide +kernel
set_option maxRecDepth 20000 in
theorem ggX1_across_X4_isPlank : GoodIn wsX1_across wsX4_isPlank := goodIn_r _ [5, 6, 7, 4, 8] (by decide +kernel) (by decide +kernel)
set_option maxRecDepth 20000 in
theorem gX1_across_X4_isPlank_n79 : GoodIn wsX1_across (wsX4_isPlank) := ggX1_across_X4_isPlank
set_option maxRecDepth 20000 in
theorem ggX1_across_X4_at : GoodIn wsX1_across wsX4_at := goodIn_r _ [10] (by decide +kernel) (by decide +kernel)
set_option maxRecDepth 20000 in
theorem gX1_across_X4_at_n63 : GoodIn wsX1_across (wsX4_at) := ggX1_across_X4_at
theorem dX1_across_0 : decode cX1_across 0 = .ok (.iload_n 1, 1) := by decide +kernel
theorem dX1_across_1 : decode cX1_across 1 = .ok (.invokestatic 79, 3) := by decide +kernel
theorem dX1_across_4 : decode cX1_across 4 = .ok (.ifCond .ne 5, 3) := by decide +kernel
theorem dX1_across_7 : decode cX1_across 7 = .ok (.iconst (-1), 1) := by decide +kernel
theorem dX1_across_8 : decode cX1_across 8 = .ok (.ireturn, 1) := by decide +kernel
theorem dX1_across_9 : decode cX1_across 9 = .ok (.aload_n 0, 1) := by decide +kernel
theorem dX1_across_10 : decode cX1_across 10 = .ok (.getfield 9, 3) := by decide +kernel
theorem dX1_across_13 : decode cX1_across 13 = .ok (.iload_n 1, 1) := by decide +kernel
theorem dX1_across_14 : decode cX1_across 14 = .ok (.invokestatic 63, 3) := by decide +kernel
theorem dX1_across_17 : decode cX1_across 17 = .ok (.iload_n 2, 1) := by decide +kernel
theorem dX1_across_18 : decode cX1_across 18 = .ok (.if_icmp .ne 12, 3) := by decide +kernel
theorem dX1_across_21 : decode cX1_across 21 = .ok (.aload_n 0, 1) := by decide +kernel
theorem dX1_across_22 : decode cX1_across 22 = .ok (.getfield 15, 3) := by decide +kernel
theorem dX1_across_25 : decode cX1_across 25 = .ok (.iload_n 1, 1) := by decide +kernel
theorem dX1_across_26 : decode cX1_across 26 = .ok (.invokestatic 63, 3) := by decide +kernel
theorem dX1_across_29 : decode cX1_across 29 = .ok (.ireturn, 1) := by decide +kernel
theorem dX1_across_30 : decode cX1_across 30 = .ok (.aload_n 0, 1) := by decide +kernel
theorem dX1_across_31 : decode cX1_across 31 = .ok (.getfield 15, 3) := by decide +kernel
theorem dX1_across_34 : decode cX1_across 34 = .ok (.iload_n 1, 1) := by decide +kernel
theorem dX1_across_35 : decode cX1_across 35 = .ok (.invokestatic 63, 3) := by decide +kernel
theorem dX1_across_38 : decode cX1_across 38 = .ok (.iload_n 2, 1) := by decide +kernel
theorem dX1_across_39 : decode cX1_across 39 = .ok (.if_icmp .ne 14, 3) := by decide +kernel
theorem dX1_across_42 : decode cX1_across 42 = .ok (.aload_n 0, 1) := by decide +kernel
theorem dX1_across_43 : decode cX1_across 43 = .ok (.getfield 9, 3) := by decide +kernel
theorem dX1_across_46 : decode cX1_across 46 = .ok (.iload_n 1, 1) := by decide +kernel
theorem dX1_across_47 : decode cX1_across 47 = .ok (.invokestatic 63, 3) := by decide +kernel
theorem dX1_across_50 : decode cX1_across 50 = .ok (.goto 4, 3) := by decide +kernel
theorem dX1_across_53 : decode cX1_across 53 = .ok (.iconst (-1), 1) := by decide +kernel
theorem dX1_across_54 : decode cX1_across 54 = .ok (.ireturn, 1) := by decide +kernel
set_option maxRecDepth 20000 in
theorem ggX1_become_X4_copy : GoodIn wsX1_become wsX4_copy := goodIn_r _ [14, 15, 16, 13, 17] (by decide +kernel) (by decide +kernel)
set_option maxRecDepth 20000 in
theorem gX1_become_X4_copy_n83 : GoodIn wsX1_become (wsX4_copy) := ggX1_become_X4_copy
set_option maxRecDepth 20000 in
theorem ggX1_become_X0_become : GoodIn wsX1_become wsX0_become := goodIn_r _ [22, 23, 12, 13, 14, 15, 16, 17, 35] (by decide +kernel) (by decide +kernel)
set_option maxRecDepth 20000 in
theorem gX1_become_X0_become : GoodIn wsX1_become (wsV RX1 87 RX0 yX0_become wsX0_become) := goodIn_app (goodIn_of _ (by decide +kernel)) ggX1_become_X0_become
theorem dX1_become_0 : decode cX1_become 0 = .ok (.aload_n 1, 1) := by decide +kernel
theorem dX1_become_1 : decode cX1_become 1 = .ok (.getfield 9, 3) := by decide +kernel
theorem dX1_become_4 : decode cX1_become 4 = .ok (.aload_n 0, 1) := by decide +kernel
theorem dX1_become_5 : decode cX1_become 5 = .ok (.getfield 9, 3) := by decide +kernel
theorem dX1_become_8 : decode cX1_become 8 = .ok (.invokestatic 83, 3) := by decide +kernel
theorem dX1_become_11 : decode cX1_become 11 = .ok (.aload_n 1, 1) := by decide +kernel
theorem dX1_become_12 : decode cX1_become 12 = .ok (.getfield 15, 3) := by decide +kernel
theorem dX1_become_15 : decode cX1_become 15 = .ok (.aload_n 0, 1) := by decide +kernel
theorem dX1_become_16 : decode cX1_become 16 = .ok (.getfield 15, 3) := by decide +kernel
theorem dX1_become_19 : decode cX1_become 19 = .ok (.invokestatic 83, 3) := by decide +kernel
theorem dX1_become_22 : decode cX1_become 22 = .ok (.aload_n 1, 1) := by decide +kernel
theorem dX1_become_23 : decode cX1_become 23 = .ok (.getfield 18, 3) := by decide +kernel
theorem dX1_become_26 : decode cX1_become 26 = .ok (.aload_n 0, 1) := by decide +kernel
theorem dX1_become_27 : decode cX1_become 27 = .ok (.getfield 18, 3) := by decide +kernel
theorem dX1_become_30 : decode cX1_become 30 = .ok (.invokestatic 83, 3) := by decide +kernel
theorem dX1_become_33 : decode cX1_become 33 = .ok (.aload_n 1, 1) := by decide +kernel
theorem dX1_become_34 : decode cX1_become 34 = .ok (.getfield 21, 3) := by decide +kernel
theorem dX1_become_37 : decode cX1_become 37 = .ok (.aload_n 0, 1) := by decide +kernel
theorem dX1_become_38 : decode cX1_become 38 = .ok (.getfield 21, 3) := by decide +kernel
theorem dX1_become_41 : decode cX1_become 41 = .ok (.invokestatic 83, 3) := by decide +kernel
theorem dX1_become_44 : decode cX1_become 44 = .ok (.aload_n 1, 1) := by decide +kernel
theorem dX1_become_45 : decode cX1_become 45 = .ok (.getfield 24, 3) := by decide +kernel
theorem dX1_become_48 : decode cX1_become 48 = .ok (.aload_n 0, 1) := by decide +kernel
theorem dX1_become_49 : decode cX1_become 49 = .ok (.getfield 24, 3) := by decide +kernel
theorem dX1_become_52 : decode cX1_become 52 = .ok (.invokestatic 83, 3) := by decide +kernel
theorem dX1_become_55 : decode cX1_become 55 = .ok (.aload_n 1, 1) := by decide +kernel
theorem dX1_become_56 : decode cX1_become 56 = .ok (.getfield 27, 3) := by decide +kernel
theorem dX1_become_59 : decode cX1_become 59 = .ok (.aload_n 0, 1) := by decide +kernel
theorem dX1_become_60 : decode cX1_become 60 = .ok (.getfield 27, 3) := by decide +kernel
theorem dX1_become_63 : decode cX1_become 63 = .ok (.invokestatic 83, 3) := by decide +kernel
theorem dX1_become_66 : decode cX1_become 66 = .ok (.aload_n 1, 1) := by decide +kernel
theorem dX1_become_67 : decode cX1_become 67 = .ok (.getfield 30, 3) := by decide +kernel
theorem dX1_become_70 : decode cX1_become 70 = .ok (.aload_n 0, 1) := by decide +kernel
theorem dX1_become_71 : decode cX1_become 71 = .ok (.getfield 30, 3) := by decide +kernel
theorem dX1_become_74 : decode cX1_become 74 = .ok (.invokestatic 83, 3) := by decide +kernel
theorem dX1_become_77 : decode cX1_become 77 = .ok (.aload_n 1, 1) := by decide +kernel
theorem dX1_become_78 : decode cX1_become 78 = .ok (.getfield 33, 3) := by decide +kernel
theorem dX1_become_81 : decode cX1_become 81 = .ok (.aload_n 0, 1) := by decide +kernel
theorem dX1_become_82 : decode cX1_become 82 = .ok (.getfield 33, 3) := by decide +kernel
theorem dX1_become_85 : decode cX1_become 85 = .ok (.invokestatic 83, 3) := by decide +kernel
theorem dX1_become_88 : decode cX1_become 88 = .ok (.aload_n 0, 1) := by decide +kernel
theorem dX1_become_89 : decode cX1_become 89 = .ok (.getfield 39, 3) := by decide +kernel
theorem dX1_become_92 : decode cX1_become 92 = .ok (.aload_n 1, 1) := by decide +kernel
theorem dX1_become_93 : decode cX1_become 93 = .ok (.getfield 39, 3) := by decide +kernel
theorem dX1_become_96 : decode cX1_become 96 = .ok (.invokevirtual 87, 3) := by decide +kernel
theorem dX1_become_99 : decode cX1_become 99 = .ok (.aload_n 0, 1) := by decide +kernel
theorem dX1_become_100 : decode cX1_become 100 = .ok (.aload_n 1, 1) := by decide +kernel
theorem dX1_become_101 : decode cX1_become 101 = .ok (.getfield 43, 3) := by decide +kernel
theorem dX1_become_104 : decode cX1_become 104 = .ok (.putfield 43, 3) := by decide +kernel
theorem dX1_become_107 : decode cX1_become 107 = .ok (.aload_n 0, 1) := by decide +kernel
theorem dX1_become_108 : decode cX1_become 108 = .ok (.aload_n 1, 1) := by decide +kernel
theorem dX1_become_109 : decode cX1_become 109 = .ok (.getfield 91, 3) := by decide +kernel
theorem dX1_become_112 : decode cX1_become 112 = .ok (.putfield 91, 3) := by decide +kernel
theorem dX1_become_115 : decode cX1_become 115 = .ok (.return_, 1) := by decide +kernel
theorem dX2_init_0 : decode cX2_init 0 = .ok (.aload_n 0, 1) := by decide +kernel
theorem dX2_init_1 : decode cX2_init 1 = .ok (.invokespecial 3, 3) := by decide +kernel
theorem dX2_init_4 : decode cX2_init 4 = .ok (.aload_n 0, 1) := by decide +kernel
theorem dX2_init_5 : decode cX2_init 5 = .ok (.bipush 60, 2) := by decide +kernel
theorem dX2_init_7 : decode cX2_init 7 = .ok (.newarray .int, 2) := by decide +kernel
theorem dX2_init_9 : decode cX2_init 9 = .ok (.putfield 9, 3) := by decide +kernel
theorem dX2_init_12 : decode cX2_init 12 = .ok (.aload_n 0, 1) := by decide +kernel
theorem dX2_init_13 : decode cX2_init 13 = .ok (.bipush 60, 2) := by decide +kernel
theorem dX2_init_15 : decode cX2_init 15 = .ok (.newarray .int, 2) := by decide +kernel
theorem dX2_init_17 : decode cX2_init 17 = .ok (.putfield 15, 3) := by decide +kernel
theorem dX2_init_20 : decode cX2_init 20 = .ok (.aload_n 0, 1) := by decide +kernel
theorem dX2_init_21 : decode cX2_init 21 = .ok (.bipush 60, 2) := by decide +kernel
theorem dX2_init_23 : decode cX2_init 23 = .ok (.newarray .int, 2) := by decide +kernel
theorem dX2_init_25 : decode cX2_init 25 = .ok (.putfield 18, 3) := by decide +kernel
theorem dX2_init_28 : decode cX2_init 28 = .ok (.aload_n 0, 1) := by decide +kernel
theorem dX2_init_29 : decode cX2_init 29 = .ok (.bipush 60, 2) := by decide +kernel
theorem dX2_init_31 : decode cX2_init 31 = .ok (.newarray .int, 2) := by decide +kernel
theorem dX2_init_33 : decode cX2_init 33 = .ok (.putfield 21, 3) := by decide +kernel
theorem dX2_init_36 : decode cX2_init 36 = .ok (.aload_n 0, 1) := by decide +kernel
theorem dX2_init_37 : decode cX2_init 37 = .ok (.bipush 60, 2) := by decide +kernel
theorem dX2_init_39 : decode cX2_init 39 = .ok (.newarray .int, 2) := by decide +kernel
theorem dX2_init_41 : decode cX2_init 41 = .ok (.putfield 24, 3) := by decide +kernel
theorem dX2_init_44 : decode cX2_init 44 = .ok (.return_, 1) := by decide +kernel
set_option maxRecDepth 20000 in
theorem ggX2_add_X4_put : GoodIn wsX2_add wsX4_put := goodIn_r _ [5] (by decide +kernel) (by decide +kernel)
set_option maxRecDepth 20000 in
theorem gX2_add_X4_put_n31 : GoodIn wsX2_add (wsX4_put) := ggX2_add_X4_put
theorem dX2_add_0 : decode cX2_add 0 = .ok (.aload_n 0, 1) := by decide +kernel
theorem dX2_add_1 : decode cX2_add 1 = .ok (.getfield 27, 3) := by decide +kernel
theorem dX2_add_4 : decode cX2_add 4 = .ok (.bipush 60, 2) := by decide +kernel
theorem dX2_add_6 : decode cX2_add 6 = .ok (.if_icmp .lt 5, 3) := by decide +kernel
theorem dX2_add_9 : decode cX2_add 9 = .ok (.iconst 0, 1) := by decide +kernel
theorem dX2_add_10 : decode cX2_add 10 = .ok (.ireturn, 1) := by decide +kernel
theorem dX2_add_11 : decode cX2_add 11 = .ok (.aload_n 0, 1) := by decide +kernel
theorem dX2_add_12 : decode cX2_add 12 = .ok (.getfield 9, 3) := by decide +kernel
theorem dX2_add_15 : decode cX2_add 15 = .ok (.aload_n 0, 1) := by decide +kernel
theorem dX2_add_16 : decode cX2_add 16 = .ok (.getfield 27, 3) := by decide +kernel
theorem dX2_add_19 : decode cX2_add 19 = .ok (.iload_n 1, 1) := by decide +kernel
theorem dX2_add_20 : decode cX2_add 20 = .ok (.invokestatic 31, 3) := by decide +kernel
theorem dX2_add_23 : decode cX2_add 23 = .ok (.aload_n 0, 1) := by decide +kernel
theorem dX2_add_24 : decode cX2_add 24 = .ok (.dup, 1) := by decide +kernel
theorem dX2_add_25 : decode cX2_add 25 = .ok (.getfield 27, 3) := by decide +kernel
theorem dX2_add_28 : decode cX2_add 28 = .ok (.iconst 1, 1) := by decide +kernel
theorem dX2_add_29 : decode cX2_add 29 = .ok (.iadd, 1) := by decide +kernel
theorem dX2_add_30 : decode cX2_add 30 = .ok (.putfield 27, 3) := by decide +kernel
theorem dX2_add_33 : decode cX2_add 33 = .ok (.iconst 1, 1) := by decide +kernel
theorem dX2_add_34 : decode cX2_add 34 = .ok (.ireturn, 1) := by decide +kernel
theorem dX2_clear_0 : decode cX2_clear 0 = .ok (.aload_n 0, 1) := by decide +kernel
theorem dX2_clear_1 : decode cX2_clear 1 = .ok (.iconst 0, 1) := by decide +kernel
theorem dX2_clear_2 : decode cX2_clear 2 = .ok (.putfield 27, 3) := by decide +kernel
theorem dX2_clear_5 : decode cX2_clear 5 = .ok (.return_, 1) := by decide +kernel
set_option maxRecDepth 20000 in
theorem ggX2_read_X4_at : GoodIn wsX2_read wsX4_at := goodIn_r _ [7] (by decide +kernel) (by decide +kernel)
set_option maxRecDepth 20000 in
theorem gX2_read_X4_at_n41 : GoodIn wsX2_read (wsX4_at) := ggX2_read_X4_at
set_option maxRecDepth 20000 in
theorem ggX2_read_X2_take : GoodIn wsX2_read wsX2_take := goodIn_r _ [12, 13, 14, 15, 11, 16, 17, 1, 18, 6, 19, 20, 21, 22, 23, 2, 24, 25, 26, 27, 28, 29, 30, 31, 32, 33, 34, 5, 7, 35, 36, 37, 38, 39, 40, 41, 42, 43, 44, 45, 46, 47, 48, 49, 50, 51, 52, 53] (by decide +kernel) (by decide +kernel)
set_option maxRecDepth 20000 in
theorem gX2_read_X2_take : GoodIn wsX2_read (wsV RX2 45 RX2 yX2_take wsX2_take) := goodIn_app (goodIn_of _ (by decide +kernel)) ggX2_read_X2_take
theorem dX2_read_0 : decode cX2_read 0 = .ok (.aload_n 0, 1) := by decide +kernel
theorem dX2_read_1 : decode cX2_read 1 = .ok (.iconst 0, 1) := by decide +kernel
theorem dX2_read_2 : decode cX2_read 2 = .ok (.putfield 35, 3) := by decide +kernel
theorem dX2_read_5 : decode cX2_read 5 = .ok (.aload_n 0, 1) := by decide +kernel
theorem dX2_read_6 : decode cX2_read 6 = .ok (.iconst 0, 1) := by decide +kernel
theorem dX2_read_7 : decode cX2_read 7 = .ok (.putfield 38, 3) := by decide +kernel
theorem dX2_read_10 : decode cX2_read 10 = .ok (.iconst 0, 1) := by decide +kernel
theorem dX2_read_11 : decode cX2_read 11 = .ok (.istore_n 1, 1) := by decide +kernel
theorem dX2_read_12 : decode cX2_read 12 = .ok (.iconst 0, 1) := by decide +kernel
theorem dX2_read_13 : decode cX2_read 13 = .ok (.istore_n 2, 1) := by decide +kernel
theorem dX2_read_14 : decode cX2_read 14 = .ok (.iload_n 2, 1) := by decide +kernel
theorem dX2_read_15 : decode cX2_read 15 = .ok (.aload_n 0, 1) := by decide +kernel
theorem dX2_read_16 : decode cX2_read 16 = .ok (.getfield 27, 3) := by decide +kernel
theorem dX2_read_19 : decode cX2_read 19 = .ok (.if_icmp .ge 30, 3) := by decide +kernel
theorem dX2_read_22 : decode cX2_read 22 = .ok (.aload_n 0, 1) := by decide +kernel
theorem dX2_read_23 : decode cX2_read 23 = .ok (.iload_n 1, 1) := by decide +kernel
theorem dX2_read_24 : decode cX2_read 24 = .ok (.aload_n 0, 1) := by decide +kernel
theorem dX2_read_25 : decode cX2_read 25 = .ok (.getfield 9, 3) := by decide +kernel
theorem dX2_read_28 : decode cX2_read 28 = .ok (.iload_n 2, 1) := by decide +kernel
theorem dX2_read_29 : decode cX2_read 29 = .ok (.invokestatic 41, 3) := by decide +kernel
theorem dX2_read_32 : decode cX2_read 32 = .ok (.invokevirtual 45, 3) := by decide +kernel
theorem dX2_read_35 : decode cX2_read 35 = .ok (.istore_n 1, 1) := by decide +kernel
theorem dX2_read_36 : decode cX2_read 36 = .ok (.iload_n 1, 1) := by decide +kernel
theorem dX2_read_37 : decode cX2_read 37 = .ok (.iconst 4, 1) := by decide +kernel
theorem dX2_read_38 : decode cX2_read 38 = .ok (.if_icmp .ne 5, 3) := by decide +kernel
theorem dX2_read_41 : decode cX2_read 41 = .ok (.iload_n 2, 1) := by decide +kernel
theorem dX2_read_42 : decode cX2_read 42 = .ok (.ireturn, 1) := by decide +kernel
theorem dX2_read_43 : decode cX2_read 43 = .ok (.iinc 2 1, 3) := by decide +kernel
theorem dX2_read_46 : decode cX2_read 46 = .ok (.goto (-32), 3) := by decide +kernel
theorem dX2_read_49 : decode cX2_read 49 = .ok (.iload_n 1, 1) := by decide +kernel
theorem dX2_read_50 : decode cX2_read 50 = .ok (.ifCond .ne 8, 3) := by decide +kernel
theorem dX2_read_53 : decode cX2_read 53 = .ok (.bipush (-6), 2) := by decide +kernel
theorem dX2_read_55 : decode cX2_read 55 = .ok (.goto 7, 3) := by decide +kernel
theorem dX2_read_58 : decode cX2_read 58 = .ok (.aload_n 0, 1) := by decide +kernel
theorem dX2_read_59 : decode cX2_read 59 = .ok (.getfield 27, 3) := by decide +kernel
theorem dX2_read_62 : decode cX2_read 62 = .ok (.ireturn, 1) := by decide +kernel
set_option maxRecDepth 20000 in
theorem ggX2_take_X2_takeDay : GoodIn wsX2_take wsX2_takeDay := goodIn_r _ [5, 6, 7, 8, 9, 10, 40, 41, 42, 43, 44, 45, 46, 47] (by decide +kernel) (by decide +kernel)
set_option maxRecDepth 20000 in
theorem gX2_take_X2_takeDay : GoodIn wsX2_take (wsV RX2 49 RX2 yX2_takeDay wsX2_takeDay) := goodIn_app (goodIn_of _ (by decide +kernel)) ggX2_take_X2_takeDay
set_option maxRecDepth 20000 in
theorem ggX2_take_X2_takeSpeaker : GoodIn wsX2_take wsX2_takeSpeaker := goodIn_r _ [14, 15, 6, 7, 16, 17, 9, 18, 19, 20, 21, 8, 10, 40, 41, 42, 43, 44, 45, 46, 47] (by decide +kernel) (by decide +kernel)
set_option maxRecDepth 20000 in
theorem gX2_take_X2_takeSpeaker : GoodIn wsX2_take (wsV RX2 53 RX2 yX2_takeSpeaker wsX2_takeSpeaker) := goodIn_app (goodIn_of _ (by decide +kernel)) ggX2_take_X2_takeSpeaker
set_option maxRecDepth 20000 in
theorem ggX2_take_X2_takeHearer : GoodIn wsX2_take wsX2_takeHearer := goodIn_r _ [25, 16, 7, 26, 17, 9, 18, 19, 20, 21, 27, 28, 8, 10, 40, 41, 42, 43, 44, 45, 46, 47] (by decide +kernel) (by decide +kernel)
set_option maxRecDepth 20000 in
theorem gX2_take_X2_takeHearer : GoodIn wsX2_take (wsV RX2 57 RX2 yX2_takeHearer wsX2_takeHearer) := goodIn_app (goodIn_of _ (by decide +kernel)) ggX2_take_X2_takeHearer
set_option maxRecDepth 20000 in
theorem ggX2_take_X2_takeDenial : GoodIn wsX2_take wsX2_takeDenial := goodIn_r _ [32, 6, 7, 8, 9, 10, 40, 41, 42, 43, 44, 45, 46, 47] (by decide +kernel) (by decide +kernel)
set_option maxRecDepth 20000 in
theorem gX2_take_X2_takeDenial : GoodIn wsX2_take (wsV RX2 60 RX2 yX2_takeDenial wsX2_takeDenial) := goodIn_app (goodIn_of _ (by decide +kernel)) ggX2_take_X2_takeDenial
set_option maxRecDepth 20000 in
theorem ggX2_take_X2_takePlank : GoodIn wsX2_take wsX2_takePlank := goodIn_r _ [36, 37, 7, 38, 9, 39, 19, 20, 21, 8, 10, 40, 41, 42, 43, 44, 45, 46, 47] (by decide +kernel) (by decide +kernel)
set_option maxRecDepth 20000 in
theorem gX2_take_X2_takePlank : GoodIn wsX2_take (wsV RX2 63 RX2 yX2_takePlank wsX2_takePlank) := goodIn_app (goodIn_of _ (by decide +kernel)) ggX2_take_X2_takePlank
theorem dX2_take_0 : decode cX2_take 0 = .ok (.iload_n 1, 1) := by decide +kernel
theorem dX2_take_1 : decode cX2_take 1 = .ok (.tableswitch 77 0 2 #[27, 46, 55], 27) := by decide +kernel
theorem dX2_take_28 : decode cX2_take 28 = .ok (.iload_n 2, 1) := by decide +kernel
theorem dX2_take_29 : decode cX2_take 29 = .ok (.bipush 46, 2) := by decide +kernel
theorem dX2_take_31 : decode cX2_take 31 = .ok (.if_icmp .ne 10, 3) := by decide +kernel
theorem dX2_take_34 : decode cX2_take 34 = .ok (.aload_n 0, 1) := by decide +kernel
theorem dX2_take_35 : decode cX2_take 35 = .ok (.invokevirtual 49, 3) := by decide +kernel
theorem dX2_take_38 : decode cX2_take 38 = .ok (.goto 8, 3) := by decide +kernel
theorem dX2_take_41 : decode cX2_take 41 = .ok (.aload_n 0, 1) := by decide +kernel
theorem dX2_take_42 : decode cX2_take 42 = .ok (.iload_n 2, 1) := by decide +kernel
theorem dX2_take_43 : decode cX2_take 43 = .ok (.invokevirtual 53, 3) := by decide +kernel
theorem dX2_take_46 : decode cX2_take 46 = .ok (.ireturn, 1) := by decide +kernel
theorem dX2_take_47 : decode cX2_take 47 = .ok (.aload_n 0, 1) := by decide +kernel
theorem dX2_take_48 : decode cX2_take 48 = .ok (.iload_n 2, 1) := by decide +kernel
theorem dX2_take_49 : decode cX2_take 49 = .ok (.bipush 65, 2) := by decide +kernel
theorem dX2_take_51 : decode cX2_take 51 = .ok (.isub, 1) := by decide +kernel
theorem dX2_take_52 : decode cX2_take 52 = .ok (.invokevirtual 57, 3) := by decide +kernel
theorem dX2_take_55 : decode cX2_take 55 = .ok (.ireturn, 1) := by decide +kernel
theorem dX2_take_56 : decode cX2_take 56 = .ok (.iload_n 2, 1) := by decide +kernel
theorem dX2_take_57 : decode cX2_take 57 = .ok (.bipush 45, 2) := by decide +kernel
theorem dX2_take_59 : decode cX2_take 59 = .ok (.if_icmp .ne 10, 3) := by decide +kernel
theorem dX2_take_62 : decode cX2_take 62 = .ok (.aload_n 0, 1) := by decide +kernel
theorem dX2_take_63 : decode cX2_take 63 = .ok (.invokevirtual 60, 3) := by decide +kernel
theorem dX2_take_66 : decode cX2_take 66 = .ok (.goto 11, 3) := by decide +kernel
theorem dX2_take_69 : decode cX2_take 69 = .ok (.aload_n 0, 1) := by decide +kernel
theorem dX2_take_70 : decode cX2_take 70 = .ok (.iload_n 2, 1) := by decide +kernel
theorem dX2_take_71 : decode cX2_take 71 = .ok (.bipush 48, 2) := by decide +kernel
theorem dX2_take_73 : decode cX2_take 73 = .ok (.isub, 1) := by decide +kernel
theorem dX2_take_74 : decode cX2_take 74 = .ok (.invokevirtual 63, 3) := by decide +kernel
theorem dX2_take_77 : decode cX2_take 77 = .ok (.ireturn, 1) := by decide +kernel
theorem dX2_take_78 : decode cX2_take 78 = .ok (.aload_n 0, 1) := by decide +kernel
theorem dX2_take_79 : decode cX2_take 79 = .ok (.iload_n 2, 1) := by decide +kernel
theorem dX2_take_80 : decode cX2_take 80 = .ok (.bipush 48, 2) := by decide +kernel
theorem dX2_take_82 : decode cX2_take 82 = .ok (.isub, 1) := by decide +kernel
theorem dX2_take_83 : decode cX2_take 83 = .ok (.invokevirtual 63, 3) := by decide +kernel
theorem dX2_take_86 : decode cX2_take 86 = .ok (.ireturn, 1) := by decide +kernel
set_option maxRecDepth 20000 in
theorem ggX2_takeDay_X4_put : GoodIn wsX2_takeDay wsX4_put := goodIn_r _ [5] (by decide +kernel) (by decide +kernel)
set_option maxRecDepth 20000 in
theorem gX2_takeDay_X4_put_n31 : GoodIn wsX2_takeDay (wsX4_put) := ggX2_takeDay_X4_put
theorem dX2_takeDay_0 : decode cX2_takeDay 0 = .ok (.aload_n 0, 1) := by decide +kernel
theorem dX2_takeDay_1 : decode cX2_takeDay 1 = .ok (.getfield 15, 3) := by decide +kernel
theorem dX2_takeDay_4 : decode cX2_takeDay 4 = .ok (.aload_n 0, 1) := by decide +kernel
theorem dX2_takeDay_5 : decode cX2_takeDay 5 = .ok (.getfield 35, 3) := by decide +kernel
theorem dX2_takeDay_8 : decode cX2_takeDay 8 = .ok (.iconst 0, 1) := by decide +kernel
theorem dX2_takeDay_9 : decode cX2_takeDay 9 = .ok (.invokestatic 31, 3) := by decide +kernel
theorem dX2_takeDay_12 : decode cX2_takeDay 12 = .ok (.aload_n 0, 1) := by decide +kernel
theorem dX2_takeDay_13 : decode cX2_takeDay 13 = .ok (.dup, 1) := by decide +kernel
theorem dX2_takeDay_14 : decode cX2_takeDay 14 = .ok (.getfield 35, 3) := by decide +kernel
theorem dX2_takeDay_17 : decode cX2_takeDay 17 = .ok (.iconst 1, 1) := by decide +kernel
theorem dX2_takeDay_18 : decode cX2_takeDay 18 = .ok (.iadd, 1) := by decide +kernel
theorem dX2_takeDay_19 : decode cX2_takeDay 19 = .ok (.putfield 35, 3) := by decide +kernel
theorem dX2_takeDay_22 : decode cX2_takeDay 22 = .ok (.iconst 0, 1) := by decide +kernel
theorem dX2_takeDay_23 : decode cX2_takeDay 23 = .ok (.ireturn, 1) := by decide +kernel
set_option maxRecDepth 20000 in
theorem ggX2_takeSpeaker_X4_isPerson : GoodIn wsX2_takeSpeaker wsX4_isPerson := goodIn_r _ [7, 8, 9, 6, 10] (by decide +kernel) (by decide +kernel)
set_option maxRecDepth 20000 in
theorem gX2_takeSpeaker_X4_isPerson_n66 : GoodIn wsX2_takeSpeaker (wsX4_isPerson) := ggX2_takeSpeaker_X4_isPerson
set_option maxRecDepth 20000 in
theorem ggX2_takeSpeaker_X4_put : GoodIn wsX2_takeSpeaker wsX4_put := goodIn_r _ [12] (by decide +kernel) (by decide +kernel)
set_option maxRecDepth 20000 in
theorem gX2_takeSpeaker_X4_put_n31 : GoodIn wsX2_takeSpeaker (wsX4_put) := ggX2_takeSpeaker_X4_put
theorem dX2_takeSpeaker_0 : decode cX2_takeSpeaker 0 = .ok (.iload_n 1, 1) := by decide +kernel
theorem dX2_takeSpeaker_1 : decode cX2_takeSpeaker 1 = .ok (.bipush 65, 2) := by decide +kernel
theorem dX2_takeSpeaker_3 : decode cX2_takeSpeaker 3 = .ok (.isub, 1) := by decide +kernel
theorem dX2_takeSpeaker_4 : decode cX2_takeSpeaker 4 = .ok (.istore_n 2, 1) := by decide +kernel
theorem dX2_takeSpeaker_5 : decode cX2_takeSpeaker 5 = .ok (.iload_n 1, 1) := by decide +kernel
theorem dX2_takeSpeaker_6 : decode cX2_takeSpeaker 6 = .ok (.bipush 63, 2) := by decide +kernel
theorem dX2_takeSpeaker_8 : decode cX2_takeSpeaker 8 = .ok (.if_icmp .ne 32, 3) := by decide +kernel
theorem dX2_takeSpeaker_11 : decode cX2_takeSpeaker 11 = .ok (.aload_n 0, 1) := by decide +kernel
theorem dX2_takeSpeaker_12 : decode cX2_takeSpeaker 12 = .ok (.getfield 38, 3) := by decide +kernel
theorem dX2_takeSpeaker_15 : decode cX2_takeSpeaker 15 = .ok (.iconst 3, 1) := by decide +kernel
theorem dX2_takeSpeaker_16 : decode cX2_takeSpeaker 16 = .ok (.if_icmp .ge 24, 3) := by decide +kernel
theorem dX2_takeSpeaker_19 : decode cX2_takeSpeaker 19 = .ok (.bipush 6, 2) := by decide +kernel
theorem dX2_takeSpeaker_21 : decode cX2_takeSpeaker 21 = .ok (.aload_n 0, 1) := by decide +kernel
theorem dX2_takeSpeaker_22 : decode cX2_takeSpeaker 22 = .ok (.getfield 38, 3) := by decide +kernel
theorem dX2_takeSpeaker_25 : decode cX2_takeSpeaker 25 = .ok (.iadd, 1) := by decide +kernel
theorem dX2_takeSpeaker_26 : decode cX2_takeSpeaker 26 = .ok (.istore_n 2, 1) := by decide +kernel
theorem dX2_takeSpeaker_27 : decode cX2_takeSpeaker 27 = .ok (.aload_n 0, 1) := by decide +kernel
theorem dX2_takeSpeaker_28 : decode cX2_takeSpeaker 28 = .ok (.dup, 1) := by decide +kernel
theorem dX2_takeSpeaker_29 : decode cX2_takeSpeaker 29 = .ok (.getfield 38, 3) := by decide +kernel
theorem dX2_takeSpeaker_32 : decode cX2_takeSpeaker 32 = .ok (.iconst 1, 1) := by decide +kernel
theorem dX2_takeSpeaker_33 : decode cX2_takeSpeaker 33 = .ok (.iadd, 1) := by decide +kernel
theorem dX2_takeSpeaker_34 : decode cX2_takeSpeaker 34 = .ok (.putfield 38, 3) := by decide +kernel
theorem dX2_takeSpeaker_37 : decode cX2_takeSpeaker 37 = .ok (.goto 12, 3) := by decide +kernel
theorem dX2_takeSpeaker_40 : decode cX2_takeSpeaker 40 = .ok (.iload_n 2, 1) := by decide +kernel
theorem dX2_takeSpeaker_41 : decode cX2_takeSpeaker 41 = .ok (.invokestatic 66, 3) := by decide +kernel
theorem dX2_takeSpeaker_44 : decode cX2_takeSpeaker 44 = .ok (.ifCond .ne 5, 3) := by decide +kernel
theorem dX2_takeSpeaker_47 : decode cX2_takeSpeaker 47 = .ok (.iconst 4, 1) := by decide +kernel
theorem dX2_takeSpeaker_48 : decode cX2_takeSpeaker 48 = .ok (.ireturn, 1) := by decide +kernel
theorem dX2_takeSpeaker_49 : decode cX2_takeSpeaker 49 = .ok (.aload_n 0, 1) := by decide +kernel
theorem dX2_takeSpeaker_50 : decode cX2_takeSpeaker 50 = .ok (.getfield 15, 3) := by decide +kernel
theorem dX2_takeSpeaker_53 : decode cX2_takeSpeaker 53 = .ok (.aload_n 0, 1) := by decide +kernel
theorem dX2_takeSpeaker_54 : decode cX2_takeSpeaker 54 = .ok (.getfield 35, 3) := by decide +kernel
theorem dX2_takeSpeaker_57 : decode cX2_takeSpeaker 57 = .ok (.iconst 1, 1) := by decide +kernel
theorem dX2_takeSpeaker_58 : decode cX2_takeSpeaker 58 = .ok (.invokestatic 31, 3) := by decide +kernel
theorem dX2_takeSpeaker_61 : decode cX2_takeSpeaker 61 = .ok (.aload_n 0, 1) := by decide +kernel
theorem dX2_takeSpeaker_62 : decode cX2_takeSpeaker 62 = .ok (.getfield 18, 3) := by decide +kernel
theorem dX2_takeSpeaker_65 : decode cX2_takeSpeaker 65 = .ok (.aload_n 0, 1) := by decide +kernel
theorem dX2_takeSpeaker_66 : decode cX2_takeSpeaker 66 = .ok (.getfield 35, 3) := by decide +kernel
theorem dX2_takeSpeaker_69 : decode cX2_takeSpeaker 69 = .ok (.iload_n 2, 1) := by decide +kernel
theorem dX2_takeSpeaker_70 : decode cX2_takeSpeaker 70 = .ok (.invokestatic 31, 3) := by decide +kernel
theorem dX2_takeSpeaker_73 : decode cX2_takeSpeaker 73 = .ok (.iconst 1, 1) := by decide +kernel
theorem dX2_takeSpeaker_74 : decode cX2_takeSpeaker 74 = .ok (.ireturn, 1) := by decide +kernel
set_option maxRecDepth 20000 in
theorem ggX2_takeHearer_X4_isPerson : GoodIn wsX2_takeHearer wsX4_isPerson := goodIn_r _ [6, 7, 8, 5, 9] (by decide +kernel) (by decide +kernel)
set_option maxRecDepth 20000 in
theorem gX2_takeHearer_X4_isPerson_n66 : GoodIn wsX2_takeHearer (wsX4_isPerson) := ggX2_takeHearer_X4_isPerson
set_option maxRecDepth 20000 in
theorem ggX2_takeHearer_X4_at : GoodIn wsX2_takeHearer wsX4_at := goodIn_r _ [11] (by decide +kernel) (by decide +kernel)
set_option maxRecDepth 20000 in
theorem gX2_takeHearer_X4_at_n41 : GoodIn wsX2_takeHearer (wsX4_at) := ggX2_takeHearer_X4_at
set_option maxRecDepth 20000 in
theorem ggX2_takeHearer_X4_put : GoodIn wsX2_takeHearer wsX4_put := goodIn_r _ [13] (by decide +kernel) (by decide +kernel)
set_option maxRecDepth 20000 in
theorem gX2_takeHearer_X4_put_n31 : GoodIn wsX2_takeHearer (wsX4_put) := ggX2_takeHearer_X4_put
theorem dX2_takeHearer_0 : decode cX2_takeHearer 0 = .ok (.iload_n 1, 1) := by decide +kernel
theorem dX2_takeHearer_1 : decode cX2_takeHearer 1 = .ok (.invokestatic 66, 3) := by decide +kernel
theorem dX2_takeHearer_4 : decode cX2_takeHearer 4 = .ok (.ifCond .eq 18, 3) := by decide +kernel
theorem dX2_takeHearer_7 : decode cX2_takeHearer 7 = .ok (.iload_n 1, 1) := by decide +kernel
theorem dX2_takeHearer_8 : decode cX2_takeHearer 8 = .ok (.aload_n 0, 1) := by decide +kernel
theorem dX2_takeHearer_9 : decode cX2_takeHearer 9 = .ok (.getfield 18, 3) := by decide +kernel
theorem dX2_takeHearer_12 : decode cX2_takeHearer 12 = .ok (.aload_n 0, 1) := by decide +kernel
theorem dX2_takeHearer_13 : decode cX2_takeHearer 13 = .ok (.getfield 35, 3) := by decide +kernel
theorem dX2_takeHearer_16 : decode cX2_takeHearer 16 = .ok (.invokestatic 41, 3) := by decide +kernel
theorem dX2_takeHearer_19 : decode cX2_takeHearer 19 = .ok (.if_icmp .ne 5, 3) := by decide +kernel
theorem dX2_takeHearer_22 : decode cX2_takeHearer 22 = .ok (.iconst 4, 1) := by decide +kernel
theorem dX2_takeHearer_23 : decode cX2_takeHearer 23 = .ok (.ireturn, 1) := by decide +kernel
theorem dX2_takeHearer_24 : decode cX2_takeHearer 24 = .ok (.aload_n 0, 1) := by decide +kernel
theorem dX2_takeHearer_25 : decode cX2_takeHearer 25 = .ok (.getfield 21, 3) := by decide +kernel
theorem dX2_takeHearer_28 : decode cX2_takeHearer 28 = .ok (.aload_n 0, 1) := by decide +kernel
theorem dX2_takeHearer_29 : decode cX2_takeHearer 29 = .ok (.getfield 35, 3) := by decide +kernel
theorem dX2_takeHearer_32 : decode cX2_takeHearer 32 = .ok (.iload_n 1, 1) := by decide +kernel
theorem dX2_takeHearer_33 : decode cX2_takeHearer 33 = .ok (.invokestatic 31, 3) := by decide +kernel
theorem dX2_takeHearer_36 : decode cX2_takeHearer 36 = .ok (.iconst 2, 1) := by decide +kernel
theorem dX2_takeHearer_37 : decode cX2_takeHearer 37 = .ok (.ireturn, 1) := by decide +kernel
set_option maxRecDepth 20000 in
theorem ggX2_takeDenial_X4_put : GoodIn wsX2_takeDenial wsX4_put := goodIn_r _ [5] (by decide +kernel) (by decide +kernel)
set_option maxRecDepth 20000 in
theorem gX2_takeDenial_X4_put_n31 : GoodIn wsX2_takeDenial (wsX4_put) := ggX2_takeDenial_X4_put
theorem dX2_takeDenial_0 : decode cX2_takeDenial 0 = .ok (.aload_n 0, 1) := by decide +kernel
theorem dX2_takeDenial_1 : decode cX2_takeDenial 1 = .ok (.getfield 15, 3) := by decide +kernel
theorem dX2_takeDenial_4 : decode cX2_takeDenial 4 = .ok (.aload_n 0, 1) := by decide +kernel
theorem dX2_takeDenial_5 : decode cX2_takeDenial 5 = .ok (.getfield 35, 3) := by decide +kernel
theorem dX2_takeDenial_8 : decode cX2_takeDenial 8 = .ok (.iconst 2, 1) := by decide +kernel
theorem dX2_takeDenial_9 : decode cX2_takeDenial 9 = .ok (.invokestatic 31, 3) := by decide +kernel
theorem dX2_takeDenial_12 : decode cX2_takeDenial 12 = .ok (.iconst 3, 1) := by decide +kernel
theorem dX2_takeDenial_13 : decode cX2_takeDenial 13 = .ok (.ireturn, 1) := by decide +kernel
set_option maxRecDepth 20000 in
theorem ggX2_takePlank_X4_isPlank : GoodIn wsX2_takePlank wsX4_isPlank := goodIn_r _ [5, 6, 7, 4, 8] (by decide +kernel) (by decide +kernel)
set_option maxRecDepth 20000 in
theorem gX2_takePlank_X4_isPlank_n70 : GoodIn wsX2_takePlank (wsX4_isPlank) := ggX2_takePlank_X4_isPlank
set_option maxRecDepth 20000 in
theorem ggX2_takePlank_X4_put : GoodIn wsX2_takePlank wsX4_put := goodIn_r _ [10] (by decide +kernel) (by decide +kernel)
set_option maxRecDepth 20000 in
theorem gX2_takePlank_X4_put_n31 : GoodIn wsX2_takePlank (wsX4_put) := ggX2_takePlank_X4_put
theorem dX2_takePlank_0 : decode cX2_takePlank 0 = .ok (.iload_n 1, 1) := by decide +kernel
theorem dX2_takePlank_1 : decode cX2_takePlank 1 = .ok (.invokestatic 70, 3) := by decide +kernel
theorem dX2_takePlank_4 : decode cX2_takePlank 4 = .ok (.ifCond .ne 5, 3) := by decide +kernel
theorem dX2_takePlank_7 : decode cX2_takePlank 7 = .ok (.iconst 4, 1) := by decide +kernel
theorem dX2_takePlank_8 : decode cX2_takePlank 8 = .ok (.ireturn, 1) := by decide +kernel
theorem dX2_takePlank_9 : decode cX2_takePlank 9 = .ok (.aload_n 0, 1) := by decide +kernel
theorem dX2_takePlank_10 : decode cX2_takePlank 10 = .ok (.getfield 24, 3) := by decide +kernel
theorem dX2_takePlank_13 : decode cX2_takePlank 13 = .ok (.aload_n 0, 1) := by decide +kernel
theorem dX2_takePlank_14 : decode cX2_takePlank 14 = .ok (.getfield 35, 3) := by decide +kernel
theorem dX2_takePlank_17 : decode cX2_takePlank 17 = .ok (.iload_n 1, 1) := by decide +kernel
theorem dX2_takePlank_18 : decode cX2_takePlank 18 = .ok (.invokestatic 31, 3) := by decide +kernel
theorem dX2_takePlank_21 : decode cX2_takePlank 21 = .ok (.aload_n 0, 1) := by decide +kernel
theorem dX2_takePlank_22 : decode cX2_takePlank 22 = .ok (.dup, 1) := by decide +kernel
theorem dX2_takePlank_23 : decode cX2_takePlank 23 = .ok (.getfield 35, 3) := by decide +kernel
theorem dX2_takePlank_26 : decode cX2_takePlank 26 = .ok (.iconst 1, 1) := by decide +kernel
theorem dX2_takePlank_27 : decode cX2_takePlank 27 = .ok (.iadd, 1) := by decide +kernel
theorem dX2_takePlank_28 : decode cX2_takePlank 28 = .ok (.putfield 35, 3) := by decide +kernel
theorem dX2_takePlank_31 : decode cX2_takePlank 31 = .ok (.iconst 0, 1) := by decide +kernel
theorem dX2_takePlank_32 : decode cX2_takePlank 32 = .ok (.ireturn, 1) := by decide +kernel
theorem dX3_init_0 : decode cX3_init 0 = .ok (.aload_n 0, 1) := by decide +kernel
theorem dX3_init_1 : decode cX3_init 1 = .ok (.invokespecial 3, 3) := by decide +kernel
theorem dX3_init_4 : decode cX3_init 4 = .ok (.aload_n 0, 1) := by decide +kernel
theorem dX3_init_5 : decode cX3_init 5 = .ok (.bipush 6, 2) := by decide +kernel
theorem dX3_init_7 : decode cX3_init 7 = .ok (.newarray .int, 2) := by decide +kernel
theorem dX3_init_9 : decode cX3_init 9 = .ok (.putfield 9, 3) := by decide +kernel
theorem dX3_init_12 : decode cX3_init 12 = .ok (.aload_n 0, 1) := by decide +kernel
theorem dX3_init_13 : decode cX3_init 13 = .ok (.bipush 6, 2) := by decide +kernel
theorem dX3_init_15 : decode cX3_init 15 = .ok (.newarray .int, 2) := by decide +kernel
theorem dX3_init_17 : decode cX3_init 17 = .ok (.putfield 15, 3) := by decide +kernel
theorem dX3_init_20 : decode cX3_init 20 = .ok (.aload_n 0, 1) := by decide +kernel
theorem dX3_init_21 : decode cX3_init 21 = .ok (.bipush 6, 2) := by decide +kernel
theorem dX3_init_23 : decode cX3_init 23 = .ok (.newarray .int, 2) := by decide +kernel
theorem dX3_init_25 : decode cX3_init 25 = .ok (.putfield 18, 3) := by decide +kernel
theorem dX3_init_28 : decode cX3_init 28 = .ok (.return_, 1) := by decide +kernel
set_option maxRecDepth 20000 in
theorem ggX3_weigh_X4_put : GoodIn wsX3_weigh wsX4_put := goodIn_r _ [4] (by decide +kernel) (by decide +kernel)
set_option maxRecDepth 20000 in
theorem gX3_weigh_X4_put_n21 : GoodIn wsX3_weigh (wsX4_put) := ggX3_weigh_X4_put
theorem dX3_weigh_0 : decode cX3_weigh 0 = .ok (.aload_n 0, 1) := by decide +kernel
theorem dX3_weigh_1 : decode cX3_weigh 1 = .ok (.getfield 9, 3) := by decide +kernel
theorem dX3_weigh_4 : decode cX3_weigh 4 = .ok (.iload_n 1, 1) := by decide +kernel
theorem dX3_weigh_5 : decode cX3_weigh 5 = .ok (.iload_n 2, 1) := by decide +kernel
theorem dX3_weigh_6 : decode cX3_weigh 6 = .ok (.invokestatic 21, 3) := by decide +kernel
theorem dX3_weigh_9 : decode cX3_weigh 9 = .ok (.return_, 1) := by decide +kernel
set_option maxRecDepth 20000 in
theorem ggX3_findCheapest_X3_find : GoodIn wsX3_findCheapest wsX3_find := goodIn_r _ [6, 7, 8, 9, 10, 11, 12, 5, 13, 14, 15, 16, 17, 18, 19, 20, 21, 22, 23, 24, 25, 26, 27, 28, 29, 30, 31, 32, 33, 34, 1, 35, 36, 37, 38, 39, 40, 41, 42, 43, 44, 45, 46, 47, 48, 49, 50, 51, 52, 53, 54, 55, 56, 57, 58, 59, 60, 61, 62, 63, 64, 65, 66, 67] (by decide +kernel) (by decide +kernel)
set_option maxRecDepth 20000 in
theorem gX3_findCheapest_X3_find : GoodIn wsX3_findCheapest (wsV RX3 29 RX3 yX3_find wsX3_find) := goodIn_app (goodIn_of _ (by decide +kernel)) ggX3_findCheapest_X3_find
theorem dX3_findCheapest_0 : decode cX3_findCheapest 0 = .ok (.aload_n 0, 1) := by decide +kernel
theorem dX3_findCheapest_1 : decode cX3_findCheapest 1 = .ok (.iconst 0, 1) := by decide +kernel
theorem dX3_findCheapest_2 : decode cX3_findCheapest 2 = .ok (.putfield 25, 3) := by decide +kernel
theorem dX3_findCheapest_5 : decode cX3_findCheapest 5 = .ok (.aload_n 0, 1) := by decide +kernel
theorem dX3_findCheapest_6 : decode cX3_findCheapest 6 = .ok (.aload_n 1, 1) := by decide +kernel
theorem dX3_findCheapest_7 : decode cX3_findCheapest 7 = .ok (.iload_n 2, 1) := by decide +kernel
theorem dX3_findCheapest_8 : decode cX3_findCheapest 8 = .ok (.iload_n 3, 1) := by decide +kernel
theorem dX3_findCheapest_9 : decode cX3_findCheapest 9 = .ok (.lconst 0, 1) := by decide +kernel
theorem dX3_findCheapest_10 : decode cX3_findCheapest 10 = .ok (.invokevirtual 29, 3) := by decide +kernel
theorem dX3_findCheapest_13 : decode cX3_findCheapest 13 = .ok (.return_, 1) := by decide +kernel
set_option maxRecDepth 20000 in
theorem ggX3_findLikeliest_X3_find : GoodIn wsX3_findLikeliest wsX3_find := goodIn_r _ [7, 8, 9, 10, 11, 12, 13, 6, 14, 15, 16, 17, 18, 19, 20, 21, 22, 23, 24, 25, 26, 27, 28, 29, 30, 31, 32, 33, 34, 35, 1, 36, 37, 38, 39, 40, 41, 42, 43, 44, 45, 46, 47, 48, 49, 50, 51, 52, 53, 54, 55, 56, 57, 58, 59, 60, 61, 62, 63, 64, 65, 66, 67, 68] (by decide +kernel) (by decide +kernel)
set_option maxRecDepth 20000 in
theorem gX3_findLikeliest_X3_find : GoodIn wsX3_findLikeliest (wsV RX3 29 RX3 yX3_find wsX3_find) := goodIn_app (goodIn_of _ (by decide +kernel)) ggX3_findLikeliest_X3_find
theorem dX3_findLikeliest_0 : decode cX3_findLikeliest 0 = .ok (.aload_n 0, 1) := by decide +kernel
theorem dX3_findLikeliest_1 : decode cX3_findLikeliest 1 = .ok (.iconst 1, 1) := by decide +kernel
theorem dX3_findLikeliest_2 : decode cX3_findLikeliest 2 = .ok (.putfield 25, 3) := by decide +kernel
theorem dX3_findLikeliest_5 : decode cX3_findLikeliest 5 = .ok (.aload_n 0, 1) := by decide +kernel
theorem dX3_findLikeliest_6 : decode cX3_findLikeliest 6 = .ok (.aload_n 1, 1) := by decide +kernel
theorem dX3_findLikeliest_7 : decode cX3_findLikeliest 7 = .ok (.iload_n 2, 1) := by decide +kernel
theorem dX3_findLikeliest_8 : decode cX3_findLikeliest 8 = .ok (.iload_n 3, 1) := by decide +kernel
theorem dX3_findLikeliest_9 : decode cX3_findLikeliest 9 = .ok (.ldc2_w 33, 3) := by decide +kernel
theorem dX3_findLikeliest_12 : decode cX3_findLikeliest 12 = .ok (.invokevirtual 29, 3) := by decide +kernel
theorem dX3_findLikeliest_15 : decode cX3_findLikeliest 15 = .ok (.return_, 1) := by decide +kernel
theorem dX3_found_0 : decode cX3_found 0 = .ok (.aload_n 0, 1) := by decide +kernel
theorem dX3_found_1 : decode cX3_found 1 = .ok (.getfield 35, 3) := by decide +kernel
theorem dX3_found_4 : decode cX3_found 4 = .ok (.bipush (-6), 2) := by decide +kernel
theorem dX3_found_6 : decode cX3_found 6 = .ok (.if_icmp .eq 7, 3) := by decide +kernel
theorem dX3_found_9 : decode cX3_found 9 = .ok (.iconst 1, 1) := by decide +kernel
theorem dX3_found_10 : decode cX3_found 10 = .ok (.goto 4, 3) := by decide +kernel
theorem dX3_found_13 : decode cX3_found 13 = .ok (.iconst 0, 1) := by decide +kernel
theorem dX3_found_14 : decode cX3_found 14 = .ok (.ireturn, 1) := by decide +kernel
set_option maxRecDepth 20000 in
theorem ggX3_step_X4_at : GoodIn wsX3_step wsX4_at := goodIn_r _ [5] (by decide +kernel) (by decide +kernel)
set_option maxRecDepth 20000 in
theorem gX3_step_X4_at_n39 : GoodIn wsX3_step (wsX4_at) := ggX3_step_X4_at
theorem dX3_step_0 : decode cX3_step 0 = .ok (.iload_n 1, 1) := by decide +kernel
theorem dX3_step_1 : decode cX3_step 1 = .ok (.ifCond .lt 22, 3) := by decide +kernel
theorem dX3_step_4 : decode cX3_step 4 = .ok (.iload_n 1, 1) := by decide +kernel
theorem dX3_step_5 : decode cX3_step 5 = .ok (.aload_n 0, 1) := by decide +kernel
theorem dX3_step_6 : decode cX3_step 6 = .ok (.getfield 35, 3) := by decide +kernel
theorem dX3_step_9 : decode cX3_step 9 = .ok (.if_icmp .ge 14, 3) := by decide +kernel
theorem dX3_step_12 : decode cX3_step 12 = .ok (.aload_n 0, 1) := by decide +kernel
theorem dX3_step_13 : decode cX3_step 13 = .ok (.getfield 18, 3) := by decide +kernel
theorem dX3_step_16 : decode cX3_step 16 = .ok (.iload_n 1, 1) := by decide +kernel
theorem dX3_step_17 : decode cX3_step 17 = .ok (.invokestatic 39, 3) := by decide +kernel
theorem dX3_step_20 : decode cX3_step 20 = .ok (.goto 5, 3) := by decide +kernel
theorem dX3_step_23 : decode cX3_step 23 = .ok (.bipush (-6), 2) := by decide +kernel
theorem dX3_step_25 : decode cX3_step 25 = .ok (.ireturn, 1) := by decide +kernel
set_option maxRecDepth 20000 in
theorem ggX3_find_X3_walk : GoodIn wsX3_find wsX3_walk := goodIn_r _ [8, 1, 9, 10, 11, 7, 12, 3, 2, 13, 14, 15, 16, 17, 18, 19, 20, 21, 22, 23, 24, 25, 26, 27, 28, 29, 30, 31, 32, 33, 34, 35, 36, 37, 38, 39, 40, 41, 42, 43, 44, 45, 4, 5, 6, 46, 47, 48, 49, 50, 51, 52, 53, 54, 55, 56, 57, 58, 59, 60, 61, 62, 63] (by decide +kernel) (by decide +kernel)
set_option maxRecDepth 20000 in
theorem gX3_find_X3_walk : GoodIn wsX3_find (wsV RX3 50 RX3 yX3_walk wsX3_walk) := goodIn_app (goodIn_of _ (by decide +kernel)) ggX3_find_X3_walk
theorem dX3_find_0 : decode cX3_find 0 = .ok (.aload_n 0, 1) := by decide +kernel
theorem dX3_find_1 : decode cX3_find 1 = .ok (.iload_n 3, 1) := by decide +kernel
theorem dX3_find_2 : decode cX3_find 2 = .ok (.putfield 43, 3) := by decide +kernel
theorem dX3_find_5 : decode cX3_find 5 = .ok (.aload_n 0, 1) := by decide +kernel
theorem dX3_find_6 : decode cX3_find 6 = .ok (.bipush (-6), 2) := by decide +kernel
theorem dX3_find_8 : decode cX3_find 8 = .ok (.putfield 35, 3) := by decide +kernel
theorem dX3_find_11 : decode cX3_find 11 = .ok (.aload_n 0, 1) := by decide +kernel
theorem dX3_find_12 : decode cX3_find 12 = .ok (.lconst 0, 1) := by decide +kernel
theorem dX3_find_13 : decode cX3_find 13 = .ok (.putfield 46, 3) := by decide +kernel
theorem dX3_find_16 : decode cX3_find 16 = .ok (.aload_n 0, 1) := by decide +kernel
theorem dX3_find_17 : decode cX3_find 17 = .ok (.aload_n 1, 1) := by decide +kernel
theorem dX3_find_18 : decode cX3_find 18 = .ok (.iload_n 2, 1) := by decide +kernel
theorem dX3_find_19 : decode cX3_find 19 = .ok (.iconst 0, 1) := by decide +kernel
theorem dX3_find_20 : decode cX3_find 20 = .ok (.iconst 1, 1) := by decide +kernel
theorem dX3_find_21 : decode cX3_find 21 = .ok (.iload_n 2, 1) := by decide +kernel
theorem dX3_find_22 : decode cX3_find 22 = .ok (.ishl, 1) := by decide +kernel
theorem dX3_find_23 : decode cX3_find 23 = .ok (.lload 4, 2) := by decide +kernel
theorem dX3_find_25 : decode cX3_find 25 = .ok (.invokevirtual 50, 3) := by decide +kernel
theorem dX3_find_28 : decode cX3_find 28 = .ok (.return_, 1) := by decide +kernel
set_option maxRecDepth 20000 in
theorem ggX3_walk_X3_keepIfBetter : GoodIn wsX3_walk wsX3_keepIfBetter := goodIn_r _ [6, 7, 8, 9, 10, 11, 12, 13, 5, 14, 15, 16, 17, 18, 19, 20, 45, 46, 47, 48, 49, 50, 51] (by decide +kernel) (by decide +kernel)
set_option maxRecDepth 20000 in
theorem gX3_walk_X3_keepIfBetter : GoodIn wsX3_walk (wsV RX3 54 RX3 yX3_keepIfBetter wsX3_keepIfBetter) := goodIn_app (goodIn_of _ (by decide +kernel)) ggX3_walk_X3_keepIfBetter
set_option maxRecDepth 20000 in
theorem ggX3_walk_X3_tread : GoodIn wsX3_walk wsX3_tread := goodIn_r _ [24, 25, 9, 26, 27, 28, 29, 30, 31, 32, 33, 34, 35, 16, 36, 37, 38, 39, 19, 20, 40, 41, 42, 43, 44, 5, 0, 1, 2, 3, 4, 6, 7, 8, 10, 11, 12, 13, 14, 15, 17, 18, 21, 22, 23, 45, 46, 47, 48, 49, 50, 51, 52, 53, 54, 55, 56, 57, 58, 59, 60, 61, 62] (by decide +kernel) (by decide +kernel)
set_option maxRecDepth 20000 in
theorem gX3_walk_X3_tread : GoodIn wsX3_walk (wsV RX3 58 RX3 yX3_tread wsX3_tread) := goodIn_app (goodIn_of _ (by decide +kernel)) ggX3_walk_X3_tread
theorem dX3_walk_0 : decode cX3_walk 0 = .ok (.iload_n 2, 1) := by decide +kernel
theorem dX3_walk_1 : decode cX3_walk 1 = .ok (.aload_n 0, 1) := by decide +kernel
theorem dX3_walk_2 : decode cX3_walk 2 = .ok (.getfield 43, 3) := by decide +kernel
theorem dX3_walk_5 : decode cX3_walk 5 = .ok (.if_icmp .ne 11, 3) := by decide +kernel
theorem dX3_walk_8 : decode cX3_walk 8 = .ok (.aload_n 0, 1) := by decide +kernel
theorem dX3_walk_9 : decode cX3_walk 9 = .ok (.iload_n 3, 1) := by decide +kernel
theorem dX3_walk_10 : decode cX3_walk 10 = .ok (.lload 5, 2) := by decide +kernel
theorem dX3_walk_12 : decode cX3_walk 12 = .ok (.invokevirtual 54, 3) := by decide +kernel
theorem dX3_walk_15 : decode cX3_walk 15 = .ok (.return_, 1) := by decide +kernel
theorem dX3_walk_16 : decode cX3_walk 16 = .ok (.iload_n 3, 1) := by decide +kernel
theorem dX3_walk_17 : decode cX3_walk 17 = .ok (.iconst 5, 1) := by decide +kernel
theorem dX3_walk_18 : decode cX3_walk 18 = .ok (.if_icmp .lt 4, 3) := by decide +kernel
theorem dX3_walk_21 : decode cX3_walk 21 = .ok (.return_, 1) := by decide +kernel
theorem dX3_walk_22 : decode cX3_walk 22 = .ok (.iconst 0, 1) := by decide +kernel
theorem dX3_walk_23 : decode cX3_walk 23 = .ok (.istore 7, 2) := by decide +kernel
theorem dX3_walk_25 : decode cX3_walk 25 = .ok (.iload 7, 2) := by decide +kernel
theorem dX3_walk_27 : decode cX3_walk 27 = .ok (.bipush 6, 2) := by decide +kernel
theorem dX3_walk_29 : decode cX3_walk 29 = .ok (.if_icmp .ge 22, 3) := by decide +kernel
theorem dX3_walk_32 : decode cX3_walk 32 = .ok (.aload_n 0, 1) := by decide +kernel
theorem dX3_walk_33 : decode cX3_walk 33 = .ok (.aload_n 1, 1) := by decide +kernel
theorem dX3_walk_34 : decode cX3_walk 34 = .ok (.iload 7, 2) := by decide +kernel
theorem dX3_walk_36 : decode cX3_walk 36 = .ok (.iload_n 2, 1) := by decide +kernel
theorem dX3_walk_37 : decode cX3_walk 37 = .ok (.iload_n 3, 1) := by decide +kernel
theorem dX3_walk_38 : decode cX3_walk 38 = .ok (.iload 4, 2) := by decide +kernel
theorem dX3_walk_40 : decode cX3_walk 40 = .ok (.lload 5, 2) := by decide +kernel
theorem dX3_walk_42 : decode cX3_walk 42 = .ok (.invokevirtual 58, 3) := by decide +kernel
theorem dX3_walk_45 : decode cX3_walk 45 = .ok (.iinc 7 1, 3) := by decide +kernel
theorem dX3_walk_48 : decode cX3_walk 48 = .ok (.goto (-23), 3) := by decide +kernel
theorem dX3_walk_51 : decode cX3_walk 51 = .ok (.return_, 1) := by decide +kernel
set_option maxRecDepth 20000 in
theorem ggX3_tread_X1_across : GoodIn wsX3_tread wsX1_across := goodIn_r _ [9, 10, 11, 12, 13, 14, 15, 16, 17, 18, 19, 52, 53, 54, 55, 56, 57, 58, 59, 60, 61, 62] (by decide +kernel) (by decide +kernel)
set_option maxRecDepth 20000 in
theorem gX3_tread_X1_across : GoodIn wsX3_tread (wsV RX3 62 RX1 yX1_across wsX1_across) := goodIn_app (goodIn_of _ (by decide +kernel)) ggX3_tread_X1_across
set_option maxRecDepth 20000 in
theorem ggX3_tread_X4_at : GoodIn wsX3_tread wsX4_at := goodIn_r _ [19] (by decide +kernel) (by decide +kernel)
set_option maxRecDepth 20000 in
theorem gX3_tread_X4_at_n39 : GoodIn wsX3_tread (wsX4_at) := ggX3_tread_X4_at
set_option maxRecDepth 20000 in
theorem ggX3_tread_X4_put : GoodIn wsX3_tread wsX4_put := goodIn_r _ [21] (by decide +kernel) (by decide +kernel)
set_option maxRecDepth 20000 in
theorem gX3_tread_X4_put_n21 : GoodIn wsX3_tread (wsX4_put) := ggX3_tread_X4_put
set_option maxRecDepth 20000 in
theorem ggX3_tread_X3_walk : GoodIn wsX3_tread wsX3_walk := goodIn_r _ [26, 27, 28, 29, 30, 25, 31, 32, 33, 2, 34, 35, 36, 37, 38, 39, 13, 40, 41, 18, 19, 42, 43, 44, 0, 1, 3, 4, 5, 6, 7, 8, 9, 10, 11, 12, 14, 15, 16, 17, 20, 21, 22, 23, 24, 45, 46, 47, 48, 49, 50, 51, 52, 53, 54, 55, 56, 57, 58, 59, 60, 61, 62] (by decide +kernel) (by decide +kernel)
set_option maxRecDepth 20000 in
theorem gX3_tread_X3_walk : GoodIn wsX3_tread (wsV RX3 50 RX3 yX3_walk wsX3_walk) := goodIn_app (goodIn_of _ (by decide +kernel)) ggX3_tread_X3_walk
theorem dX3_tread_0 : decode cX3_tread 0 = .ok (.aload_n 1, 1) := by decide +kernel
theorem dX3_tread_1 : decode cX3_tread 1 = .ok (.iload_n 2, 1) := by decide +kernel
theorem dX3_tread_2 : decode cX3_tread 2 = .ok (.iload_n 3, 1) := by decide +kernel
theorem dX3_tread_3 : decode cX3_tread 3 = .ok (.invokevirtual 62, 3) := by decide +kernel
theorem dX3_tread_6 : decode cX3_tread 6 = .ok (.istore 8, 2) := by decide +kernel
theorem dX3_tread_8 : decode cX3_tread 8 = .ok (.aload_n 0, 1) := by decide +kernel
theorem dX3_tread_9 : decode cX3_tread 9 = .ok (.getfield 9, 3) := by decide +kernel
theorem dX3_tread_12 : decode cX3_tread 12 = .ok (.iload_n 2, 1) := by decide +kernel
theorem dX3_tread_13 : decode cX3_tread 13 = .ok (.invokestatic 39, 3) := by decide +kernel
theorem dX3_tread_16 : decode cX3_tread 16 = .ok (.istore 9, 2) := by decide +kernel
theorem dX3_tread_18 : decode cX3_tread 18 = .ok (.iload 8, 2) := by decide +kernel
theorem dX3_tread_20 : decode cX3_tread 20 = .ok (.iconst (-1), 1) := by decide +kernel
theorem dX3_tread_21 : decode cX3_tread 21 = .ok (.if_icmp .eq 20, 3) := by decide +kernel
theorem dX3_tread_24 : decode cX3_tread 24 = .ok (.iload 9, 2) := by decide +kernel
theorem dX3_tread_26 : decode cX3_tread 26 = .ok (.iconst (-1), 1) := by decide +kernel
theorem dX3_tread_27 : decode cX3_tread 27 = .ok (.if_icmp .eq 14, 3) := by decide +kernel
theorem dX3_tread_30 : decode cX3_tread 30 = .ok (.iload 5, 2) := by decide +kernel
theorem dX3_tread_32 : decode cX3_tread 32 = .ok (.iload 8, 2) := by decide +kernel
theorem dX3_tread_34 : decode cX3_tread 34 = .ok (.ishr, 1) := by decide +kernel
theorem dX3_tread_35 : decode cX3_tread 35 = .ok (.iconst 1, 1) := by decide +kernel
theorem dX3_tread_36 : decode cX3_tread 36 = .ok (.iand, 1) := by decide +kernel
theorem dX3_tread_37 : decode cX3_tread 37 = .ok (.iconst 1, 1) := by decide +kernel
theorem dX3_tread_38 : decode cX3_tread 38 = .ok (.if_icmp .ne 4, 3) := by decide +kernel
theorem dX3_tread_41 : decode cX3_tread 41 = .ok (.return_, 1) := by decide +kernel
theorem dX3_tread_42 : decode cX3_tread 42 = .ok (.aload_n 0, 1) := by decide +kernel
theorem dX3_tread_43 : decode cX3_tread 43 = .ok (.getfield 15, 3) := by decide +kernel
theorem dX3_tread_46 : decode cX3_tread 46 = .ok (.iload 4, 2) := by decide +kernel
theorem dX3_tread_48 : decode cX3_tread 48 = .ok (.iload_n 2, 1) := by decide +kernel
theorem dX3_tread_49 : decode cX3_tread 49 = .ok (.invokestatic 21, 3) := by decide +kernel
theorem dX3_tread_52 : decode cX3_tread 52 = .ok (.aload_n 0, 1) := by decide +kernel
theorem dX3_tread_53 : decode cX3_tread 53 = .ok (.getfield 25, 3) := by decide +kernel
theorem dX3_tread_56 : decode cX3_tread 56 = .ok (.ifCond .eq 16, 3) := by decide +kernel
theorem dX3_tread_59 : decode cX3_tread 59 = .ok (.lload 6, 2) := by decide +kernel
theorem dX3_tread_61 : decode cX3_tread 61 = .ok (.iload 9, 2) := by decide +kernel
theorem dX3_tread_63 : decode cX3_tread 63 = .ok (.i2l, 1) := by decide +kernel
theorem dX3_tread_64 : decode cX3_tread 64 = .ok (.lmul, 1) := by decide +kernel
theorem dX3_tread_65 : decode cX3_tread 65 = .ok (.ldc2_w 68, 3) := by decide +kernel
theorem dX3_tread_68 : decode cX3_tread 68 = .ok (.ldiv, 1) := by decide +kernel
theorem dX3_tread_69 : decode cX3_tread 69 = .ok (.goto 9, 3) := by decide +kernel
theorem dX3_tread_72 : decode cX3_tread 72 = .ok (.lload 6, 2) := by decide +kernel
theorem dX3_tread_74 : decode cX3_tread 74 = .ok (.iload 9, 2) := by decide +kernel
theorem dX3_tread_76 : decode cX3_tread 76 = .ok (.i2l, 1) := by decide +kernel
theorem dX3_tread_77 : decode cX3_tread 77 = .ok (.lsub, 1) := by decide +kernel
theorem dX3_tread_78 : decode cX3_tread 78 = .ok (.lstore 10, 2) := by decide +kernel
theorem dX3_tread_80 : decode cX3_tread 80 = .ok (.aload_n 0, 1) := by decide +kernel
theorem dX3_tread_81 : decode cX3_tread 81 = .ok (.aload_n 1, 1) := by decide +kernel
theorem dX3_tread_82 : decode cX3_tread 82 = .ok (.iload 8, 2) := by decide +kernel
theorem dX3_tread_84 : decode cX3_tread 84 = .ok (.iload 4, 2) := by decide +kernel
theorem dX3_tread_86 : decode cX3_tread 86 = .ok (.iconst 1, 1) := by decide +kernel
theorem dX3_tread_87 : decode cX3_tread 87 = .ok (.iadd, 1) := by decide +kernel
theorem dX3_tread_88 : decode cX3_tread 88 = .ok (.iload 5, 2) := by decide +kernel
theorem dX3_tread_90 : decode cX3_tread 90 = .ok (.iconst 1, 1) := by decide +kernel
theorem dX3_tread_91 : decode cX3_tread 91 = .ok (.iload 8, 2) := by decide +kernel
theorem dX3_tread_93 : decode cX3_tread 93 = .ok (.ishl, 1) := by decide +kernel
theorem dX3_tread_94 : decode cX3_tread 94 = .ok (.ior, 1) := by decide +kernel
theorem dX3_tread_95 : decode cX3_tread 95 = .ok (.lload 10, 2) := by decide +kernel
theorem dX3_tread_97 : decode cX3_tread 97 = .ok (.invokevirtual 50, 3) := by decide +kernel
theorem dX3_tread_100 : decode cX3_tread 100 = .ok (.return_, 1) := by decide +kernel
set_option maxRecDepth 20000 in
theorem ggX3_keepIfBetter_X3_found : GoodIn wsX3_keepIfBetter wsX3_found := goodIn_r _ [9, 2, 16, 17, 18, 19, 20, 21, 22] (by decide +kernel) (by decide +kernel)
set_option maxRecDepth 20000 in
theorem gX3_keepIfBetter_X3_found : GoodIn wsX3_keepIfBetter (wsV RX3 70 RX3 yX3_found wsX3_found) := goodIn_app (goodIn_of _ (by decide +kernel)) ggX3_keepIfBetter_X3_found
set_option maxRecDepth 20000 in
theorem ggX3_keepIfBetter_X4_copy : GoodIn wsX3_keepIfBetter wsX4_copy := goodIn_r _ [12, 13, 14, 11, 15] (by decide +kernel) (by decide +kernel)
set_option maxRecDepth 20000 in
theorem gX3_keepIfBetter_X4_copy_n74 : GoodIn wsX3_keepIfBetter (wsX4_copy) := ggX3_keepIfBetter_X4_copy
theorem dX3_keepIfBetter_0 : decode cX3_keepIfBetter 0 = .ok (.aload_n 0, 1) := by decide +kernel
theorem dX3_keepIfBetter_1 : decode cX3_keepIfBetter 1 = .ok (.invokevirtual 70, 3) := by decide +kernel
theorem dX3_keepIfBetter_4 : decode cX3_keepIfBetter 4 = .ok (.ifCond .eq 30, 3) := by decide +kernel
theorem dX3_keepIfBetter_7 : decode cX3_keepIfBetter 7 = .ok (.lload_n 2, 1) := by decide +kernel
theorem dX3_keepIfBetter_8 : decode cX3_keepIfBetter 8 = .ok (.aload_n 0, 1) := by decide +kernel
theorem dX3_keepIfBetter_9 : decode cX3_keepIfBetter 9 = .ok (.getfield 46, 3) := by decide +kernel
theorem dX3_keepIfBetter_12 : decode cX3_keepIfBetter 12 = .ok (.lcmp, 1) := by decide +kernel
theorem dX3_keepIfBetter_13 : decode cX3_keepIfBetter 13 = .ok (.ifCond .lt 20, 3) := by decide +kernel
theorem dX3_keepIfBetter_16 : decode cX3_keepIfBetter 16 = .ok (.lload_n 2, 1) := by decide +kernel
theorem dX3_keepIfBetter_17 : decode cX3_keepIfBetter 17 = .ok (.aload_n 0, 1) := by decide +kernel
theorem dX3_keepIfBetter_18 : decode cX3_keepIfBetter 18 = .ok (.getfield 46, 3) := by decide +kernel
theorem dX3_keepIfBetter_21 : decode cX3_keepIfBetter 21 = .ok (.lcmp, 1) := by decide +kernel
theorem dX3_keepIfBetter_22 : decode cX3_keepIfBetter 22 = .ok (.ifCond .ne 12, 3) := by decide +kernel
theorem dX3_keepIfBetter_25 : decode cX3_keepIfBetter 25 = .ok (.iload_n 1, 1) := by decide +kernel
theorem dX3_keepIfBetter_26 : decode cX3_keepIfBetter 26 = .ok (.aload_n 0, 1) := by decide +kernel
theorem dX3_keepIfBetter_27 : decode cX3_keepIfBetter 27 = .ok (.getfield 35, 3) := by decide +kernel
theorem dX3_keepIfBetter_30 : decode cX3_keepIfBetter 30 = .ok (.if_icmp .lt 4, 3) := by decide +kernel
theorem dX3_keepIfBetter_33 : decode cX3_keepIfBetter 33 = .ok (.return_, 1) := by decide +kernel
theorem dX3_keepIfBetter_34 : decode cX3_keepIfBetter 34 = .ok (.aload_n 0, 1) := by decide +kernel
theorem dX3_keepIfBetter_35 : decode cX3_keepIfBetter 35 = .ok (.iload_n 1, 1) := by decide +kernel
theorem dX3_keepIfBetter_36 : decode cX3_keepIfBetter 36 = .ok (.putfield 35, 3) := by decide +kernel
theorem dX3_keepIfBetter_39 : decode cX3_keepIfBetter 39 = .ok (.aload_n 0, 1) := by decide +kernel
theorem dX3_keepIfBetter_40 : decode cX3_keepIfBetter 40 = .ok (.lload_n 2, 1) := by decide +kernel
theorem dX3_keepIfBetter_41 : decode cX3_keepIfBetter 41 = .ok (.putfield 46, 3) := by decide +kernel
theorem dX3_keepIfBetter_44 : decode cX3_keepIfBetter 44 = .ok (.aload_n 0, 1) := by decide +kernel
theorem dX3_keepIfBetter_45 : decode cX3_keepIfBetter 45 = .ok (.getfield 15, 3) := by decide +kernel
theorem dX3_keepIfBetter_48 : decode cX3_keepIfBetter 48 = .ok (.aload_n 0, 1) := by decide +kernel
theorem dX3_keepIfBetter_49 : decode cX3_keepIfBetter 49 = .ok (.getfield 18, 3) := by decide +kernel
theorem dX3_keepIfBetter_52 : decode cX3_keepIfBetter 52 = .ok (.invokestatic 74, 3) := by decide +kernel
theorem dX3_keepIfBetter_55 : decode cX3_keepIfBetter 55 = .ok (.return_, 1) := by decide +kernel
set_option maxRecDepth 20000 in
theorem ggX4_init_X1_init : GoodIn wsX4_init wsX1_init := goodIn_r _ [26, 27, 2, 3, 21, 28, 29, 30, 31, 32, 33, 34, 35, 36, 18, 19, 37, 38, 39, 40, 41, 42, 43, 44, 45, 6, 46, 47, 48, 49, 50, 51, 52, 53, 54, 55, 56, 57, 58, 59, 74, 75, 76, 77, 78, 79, 80, 81, 82, 83, 84, 107] (by decide +kernel) (by decide +kernel)
set_option maxRecDepth 20000 in
theorem gX4_init_X1_init : GoodIn wsX4_init (wsX1_init) := ggX4_init_X1_init
set_option maxRecDepth 20000 in
theorem ggX4_init_X2_init : GoodIn wsX4_init wsX2_init := goodIn_r _ [61, 62, 2, 3, 21, 63, 64, 65, 66, 67, 92, 93, 94, 95, 96, 97, 98, 99] (by decide +kernel) (by decide +kernel)
set_option maxRecDepth 20000 in
theorem gX4_init_X2_init_n22 : GoodIn wsX4_init (wsX2_init) := ggX4_init_X2_init
set_option maxRecDepth 20000 in
theorem ggX4_init_X3_init : GoodIn wsX4_init wsX3_init := goodIn_r _ [69, 70, 2, 3, 21, 71, 72, 73, 100, 101, 102, 103, 104, 105, 106] (by decide +kernel) (by decide +kernel)
set_option maxRecDepth 20000 in
theorem gX4_init_X3_init_n29 : GoodIn wsX4_init (wsX3_init) := ggX4_init_X3_init
set_option maxRecDepth 20000 in
theorem ggX4_init_X0_init : GoodIn wsX4_init wsX0_init := goodIn_r _ [40, 41, 2, 3, 21, 42, 107] (by decide +kernel) (by decide +kernel)
set_option maxRecDepth 20000 in
theorem gX4_init_X0_init_n36 : GoodIn wsX4_init (wsX0_init) := ggX4_init_X0_init
theorem dX4_init_0 : decode cX4_init 0 = .ok (.aload_n 0, 1) := by decide +kernel
theorem dX4_init_1 : decode cX4_init 1 = .ok (.invokespecial 1, 3) := by decide +kernel
theorem dX4_init_4 : decode cX4_init 4 = .ok (.aload_n 0, 1) := by decide +kernel
theorem dX4_init_5 : decode cX4_init 5 = .ok (.new 7, 3) := by decide +kernel
theorem dX4_init_8 : decode cX4_init 8 = .ok (.dup, 1) := by decide +kernel
theorem dX4_init_9 : decode cX4_init 9 = .ok (.invokespecial 9, 3) := by decide +kernel
theorem dX4_init_12 : decode cX4_init 12 = .ok (.putfield 10, 3) := by decide +kernel
end
section
/-! V: the kit's W with heap, locals and frame facts inside: a world ws (a list of cells), locals lv, a stack st. -/
abbrev Gx : Type := va_G × ClassId × ClassId × ClassId
abbrev tyL (G : Gx) : List (ClassId × FieldType) := [(G.2.1, .int), (G.2.2.1, .boolean), (G.2.2.2, .object "LieBridges$Delta")]
def nestL : List (String × Nat × MethodName) := [("LieBridges", 22, yX2_init), ("LieBridges", 29, yX3_init), ("LieBridges", 36, yX0_init), ("LieBridges$Beliefs", 15, yX4_put), ("LieBridges$Beliefs", 23, yX4_copy), ("LieBridges$Delta", 38, yX0_init), ("LieBridges$Delta", 51, yX4_put), ("LieBridges$Delta", 59, yX4_putBit), ("LieBridges$Delta", 63, yX4_at), ("LieBridges$Delta", 75, yX4_hasBit), ("LieBridges$Delta", 79, yX4_isPlank), ("LieBridges$Delta", 83, yX4_copy), ("LieBridges$Pad", 31, yX4_put), ("LieBridges$Pad", 41, yX4_at), ("LieBridges$Pad", 66, yX4_isPerson), ("LieBridges$Pad", 70, yX4_isPlank), ("LieBridges$Ways", 21, yX4_put), ("LieBridges$Ways", 39, yX4_at), ("LieBridges$Ways", 74, yX4_copy)]
def KS (G : Gx) (U : State) : Prop := va_K G.1 vwCl (tyL G) U ∧ (∀ q ∈ nestL, va_Nw (.methodLinkNest q.1 q.2.1 q.2.2 "LieBridges") U) ∧ va_AO "LieBridges$Delta" U
theorem KS.warm {G : Gx} {s U : State} (hW : s.WarmedH U.vm) (h : KS G s) : KS G U :=
  ⟨va_K.moved hW.alike h.1, fun q hq => va_Nw.warmM hW (h.2.1 q hq), va_AO.moved hW.alike h.2.2⟩
theorem KS.calling {G : Gx} {U : State} {g : JFrame} {mk : MethodId} {a : Array Value} (h : KS G U) : KS G (U.calling g mk a) :=
  ⟨va_K.moved (u := U) (U := U.calling g mk a) (Vm.Alike.refl U.vm) h.1, fun q hq => va_Nw.same rfl rfl (h.2.1 q hq), va_AO.moved (u := U) (U := U.calling g mk a) (Vm.Alike.refl U.vm) h.2.2⟩
abbrev cI (G : Gx) (n : Nat) (f : Nat → Int32) : va_E := .inl (G.2.1, n, .inl f)
abbrev cZ (G : Gx) (n : Nat) (f : Nat → Int32) : va_E := .inl (G.2.2.1, n, .inl f)
abbrev cQ (G : Gx) (n : Nat) (f : Nat → Option Nat) : va_E := .inl (G.2.2.2, n, .inr (.inr (.inr (.inr f))))
abbrev cO (k : Nat) (fs : List Value) : va_E := .inr (k, fs)
abbrev Cx : Type := Program × Launch × Env × Room × State × MethodId × Array Value × List Frame × Method × Code × (State → Prop) × (Nat → Prop)
def V : Cx → Gx → Nat → Nat → Nat → Nat → List (Nat × Value) → List Value → va_W → Prop
  | (p, l, e, R, s, m, args, below, meth, c, Q, A), G, nL, n1, n2, pc, lv, st, ws =>
    ∀ (H : Heap) (locs : List Loc) (ls : Array Slot), va_P G.1 vwCl ws H → va_D A ws → va_S A s.heap H locs → lv_has ls nL lv → W p l e R s m args below meth c H locs n1 n2 Q (F0 m pc ls st)
def Okx : Cx → Gx → Nat → ByteArray → List Cond → MethodName → Room → Prop
  | (p, l, e, R, s, m, args, below, meth, c, Q, A), G, nL, cc, Ts, y, rm =>
    p.tables.exec = Jvm.exec ∧ c.code = cc ∧ c.maxLocals = nL ∧ (∀ w ∈ Ts, w.before args s = true) ∧ s.vm.findClass y.cls = some m.cls ∧ KS G s ∧ (∀ q : Nat, s.heap.size ≤ q → A q) ∧ R = rm ∧ meth.name = y.name
def QxN (G : Gx) (wc : va_W) (post : Option Value → va_W → va_W → Prop) (A : Nat → Prop) : Array Value → State → Outcome → State → Prop := fun _ st oc t =>
  (∃ (r : Option Value) (wa wb : va_W), oc = .returned r ∧ post r wa wb ∧ wa.map (fun q => q.1) = wc.map (fun q => q.1) ∧ va_P G.1 vwCl (wa ++ wb) t.heap ∧ va_D A (wa ++ wb)) ∧ va_F A st t
def Rtx : Cx → Gx → va_W → (Option Value → va_W → va_W → Prop) → Nat → Nat → Option FieldType → Prop
  | (p, l, e, R, s, m, args, below, meth, c, Q, A), G, wc, post, mc, ms, ret =>
    Q = MQ below (QxN G wc post A) args s mc ms A ∧ meth.sig.returnType = ret ∧ meth.locks = false
def CtN (G : Gx) (y : MethodName) (ws : List Cond) (rm : Room) (args : List Value) (wc : va_W) (post : Option Value → va_W → va_W → Prop) (mc ms : Nat) : Prop :=
  ∀ (l : Launch) (sz : Nat), Met l y ws rm (va_Pc args (fun U => U.heap.size = sz ∧ va_P G.1 vwCl wc U.heap ∧ KS G U ∧ va_D (fun _ => True) wc)) (QxN G wc post (va_A wc sz)) mc ms (va_A wc sz)
abbrev Ct (G : Gx) (y : MethodName) (ws : List Cond) (rm : Room) (args : List Value) (wc : va_W) (post : Option Value → va_W → Prop) : Prop :=
  CtN G y ws rm args wc (fun r wa wb => post r wa ∧ wb = []) 0 0
theorem CtN.of {G : Gx} {y : MethodName} {ws ws' : List Cond} {rm : Room} {cc : ByteArray} {nL : Nat} {ret : Option FieldType} {args : List Value} {wc : va_W} {post : Option Value → va_W → va_W → Prop} {mc ms : Nat} (lv : List (Nat × Value))
    (hy : plainName y.cls = true) (hw : ws = Cond.code y cc nL ret :: ws') (hn : Nat.ble (lg_sl args).length nL = true) (hlv : lv_args 0 args = lv) (hrm : (headSpec ws rm).room = rm := by rfl)
    (body : ∀ x : Cx, Okx x G nL cc ws y rm → Rtx x G wc post mc ms ret → V x G nL 0 0 0 lv [] wc) : CtN G y ws rm args wc post mc ms := by
  intro l sz
  refine Met.ofW (cc := cc) (maxL := nL) (ret := ret) hy hw ?_
  intro p e s m args2 below meth c s₁ B hml hv
  obtain ⟨rfl, hsz, hP, hK, hD0⟩ := hv
  have hts := atoms_spec (ws := ws) B.pre
  have hD := hD0.self (sz := sz)
  subst hsz
  have hl := lv_entry args (n := nL) (Nat.le_of_ble_eq_true hn)
  rw [lg_entry_eq]
  rw [hlv] at hl
  exact body (p, l, e, (headSpec ws rm).room, s, m, args.toArray, below, meth, c, MQ below (QxN G wc post (va_A wc s.heap.size)) args.toArray s mc ms (va_A wc s.heap.size), va_A wc s.heap.size)
    ⟨B.exec, B.bytes, hml, hts, findClass_of_methodNamed B.named, hK, fun q h => Or.inr h, hrm, (name_of_methodNamed B.named B.method).1⟩ ⟨rfl, B.returns, B.notSynchronized⟩ s.heap [] _ hP hD va_S.rf hl
/-- a run of cells set at places -/
def repl : va_W → List Nat → va_W → va_W
  | ws, i :: is, q :: qs => repl (ws.set i q) is qs
  | ws, _, _ => ws
theorem repl_get : ∀ (is : List Nat) (qs ws : va_W) (k : Nat) (q : Nat × va_E), (repl ws is qs)[k]? = some q → (∃ j : Nat, is[j]? = some k ∧ qs[j]? = some q) ∨ (ws[k]? = some q ∧ ∀ j : Nat, is[j]? = some k → qs.length ≤ j) := by
  intro is
  induction is with
  | nil =>
    intro qs ws k q h
    exact Or.inr ⟨by simpa [repl] using h, fun j hj => by simp at hj⟩
  | cons i is ih =>
    intro qs ws k q h
    cases qs with
    | nil => exact Or.inr ⟨by simpa [repl] using h, fun j _ => Nat.zero_le _⟩
    | cons q0 qs =>
      rcases ih qs (ws.set i q0) k q h with ⟨j, h1, h2⟩ | ⟨h1, h2⟩
      · exact Or.inl ⟨j + 1, by simpa using h1, by simpa using h2⟩
      · by_cases hk : i = k
        · subst hk
          have hl : i < ws.length := by
            have := (List.getElem?_eq_some_iff.mp h1).1
            simpa using this
          rw [List.getElem?_set_self hl] at h1
          exact Or.inl ⟨0, by simp, by simpa using h1⟩
        · rw [List.getElem?_set_ne hk] at h1
          refine Or.inr ⟨h1, fun j hj => ?_⟩
          cases j with
          | zero => simp at hj; exact absurd hj hk
          | succ j => have := h2 j (by simpa using hj); simp only [List.length_cons]; omega
theorem repl_fst : ∀ (is : List Nat) (qs ws : va_W), (∀ (j i : Nat) (q : Nat × va_E), is[j]? = some i → qs[j]? = some q → (ws.map (fun q => q.1))[i]? = some q.1) → (repl ws is qs).map (fun q => q.1) = ws.map (fun q => q.1) := by
  intro is
  induction is with
  | nil => intro qs ws h; simp [repl]
  | cons i is ih =>
    intro qs ws h
    cases qs with
    | nil => simp [repl]
    | cons q0 qs =>
      have h0 := h 0 i q0 (by simp) (by simp)
      have e : (ws.set i q0).map (fun q => q.1) = ws.map (fun q => q.1) := by
        rw [List.map_set]
        apply List.ext_getElem?
        intro k
        by_cases hk : i = k
        · subst hk
          have hl := (List.getElem?_eq_some_iff.mp h0).1
          rw [List.getElem?_set_self hl, h0]
        · rw [List.getElem?_set_ne hk]
      show (repl (ws.set i q0) is qs).map _ = _
      rw [ih qs (ws.set i q0) (fun j i' q h1 h2 => by rw [e]; exact h (j + 1) i' q (by simpa using h1) (by simpa using h2)), e]
theorem va_D.fst {A : Nat → Prop} {w1 w2 : va_W} (h : va_D A w1) (e : w2.map (fun q => q.1) = w1.map (fun q => q.1)) : va_D A w2 := by
  have key : ∀ (k : Nat) (q : Nat × va_E), w2[k]? = some q → ∃ q0 : Nat × va_E, w1[k]? = some q0 ∧ q0.1 = q.1 := by
    intro k q hk
    have h1 : (w2.map (fun q => q.1))[k]? = some q.1 := by rw [List.getElem?_map, hk]; rfl
    rw [e, List.getElem?_map] at h1
    cases h2 : w1[k]? with
    | none => rw [h2] at h1; cases h1
    | some q0 => rw [h2] at h1; exact ⟨q0, rfl, Option.some.inj h1⟩
  refine ⟨fun i j a b hi hj hab => ?_, fun k q hk => ?_⟩
  · obtain ⟨a0, e1, e2⟩ := key i a hi
    obtain ⟨b0, e3, e4⟩ := key j b hj
    exact h.1 i j a0 b0 e1 e3 (by rw [e2, e4, hab])
  · obtain ⟨q0, e1, e2⟩ := key k q hk
    rw [← e2]
    exact h.2 k q0 e1
section RUN
variable {p : Program} {l : Launch} {e : Env} {R : Room} {s : State} {m : MethodId} {args : Array Value} {below : List Frame} {meth : Method} {c : Code} {H : Heap} {locs : List Loc} {cells slots : Nat} {Q : State → Prop}
variable {pc : Nat} {ls : Array Slot} {rest st0 : List Value} {a : Array Value} {A0 A1 : Nat → Prop} {H0 : Heap} {mc ms : Nat} {free : Addr → Prop}
theorem va_useN {G : Gx} {wc : va_W} {post : Option Value → va_W → va_W → Prop} (hr : va_Run p l e R s m args below meth c H locs cells slots mc ms (F0 m pc ls st0) rest (QxN G wc post A1 a) free) (hS : va_S A0 H0 H locs) (hA : ∀ q, q < H.size → A1 q → A0 q) (hf : ∀ q, free q → A0 q)
    (kk : ∀ (r : Option Value) (wa wb : va_W) (H1 : Heap) (locs1 : List Loc), post r wa wb → wa.map (fun q => q.1) = wc.map (fun q => q.1) → va_P G.1 vwCl (wa ++ wb) H1 → va_D A1 (wa ++ wb) → H.size ≤ H1.size → (∀ q : Nat, q < H.size → ¬ A1 q → H1[q]? = H[q]?) → va_S A0 H0 H1 locs1 → W p l e R s m args below meth c H1 locs1 (cells + mc) (slots + ms) Q (F0 m (pc + 3) ls (r.toList ++ rest))) : W p l e R s m args below meth c H locs cells slots Q (F0 m pc ls st0) := by
  intro T hT X
  obtain ⟨v, st₀, t, T', L, h0, X', hL, e1, e2, ⟨⟨r, wa, wb, hv, hp, hm, hPP, hDD⟩, hz, hk⟩, st⟩ := hr T hT X
  cases hv
  rw [h0] at hz hk
  obtain ⟨t2, a1, b1⟩ := kk v wa wb T'.heap (locs ++ L) hp hm (by rw [e1]; exact hPP) hDD (by rw [e1]; exact hz) (fun q h1 h2 => by rw [e1]; exact hk q h1 h2)
    ⟨Nat.le_trans hS.1 (by rw [e1]; exact hz), fun q h1 h2 => by rw [e1, hk q (Nat.lt_of_lt_of_le h1 hS.1) (fun z => h2 (hA q (Nat.lt_of_lt_of_le h1 hS.1) z))]; exact hS.2.1 q h1 h2, fun q hq => by
      rcases List.mem_append.mp hq with h | h
      · exact hS.2.2 q h
      · exact hf _ (hL q h)⟩ T' rfl X'
  exact ⟨t2, st t2 a1, b1⟩
end RUN
/-- the worlds behind a call, in the caller's order -/
theorem va_back {A0 : Nat → Prop} {D : va_G} {cl : List vw_C} {ws wc wa wb : va_W} {H H1 : Heap} (hP : va_P D cl ws H) (hD : va_D A0 ws) (isC : List Nat) (hC : isC.map (fun i => ws[i]?) = wc.map some)
    (hm : wa.map (fun q => q.1) = wc.map (fun q => q.1)) (hk : ∀ q : Nat, q < H.size → ¬ va_A wc H.size q → H1[q]? = H[q]?) (hF : ∀ q, va_A wc H.size q → A0 q) (hP1 : va_P D cl (wa ++ wb) H1) (hD1 : va_D (va_A wc H.size) (wa ++ wb)) : va_P D cl (repl ws isC wa ++ wb) H1 ∧ va_D A0 (repl ws isC wa ++ wb) := by
  have hlen : isC.length = wa.length := by
    have h1 := congrArg List.length hC
    have h2 := congrArg List.length hm
    simp only [List.length_map] at h1 h2
    omega
  have hat : ∀ (j i : Nat), isC[j]? = some i → ∃ q : Nat × va_E, ws[i]? = some q ∧ wc[j]? = some q := by
    intro j i hj
    have h1 : (isC.map (fun i => ws[i]?))[j]? = some (ws[i]?) := by rw [List.getElem?_map, hj]; rfl
    rw [hC, List.getElem?_map] at h1
    cases h2 : wc[j]? with
    | none => rw [h2] at h1; cases h1
    | some q => rw [h2] at h1; exact ⟨q, (Option.some.inj h1).symm, rfl⟩
  have hfst : (repl ws isC wa).map (fun q => q.1) = ws.map (fun q => q.1) := by
    refine repl_fst isC wa ws (fun j i q h1 h2 => ?_)
    obtain ⟨q0, h3, h4⟩ := hat j i h1
    have h5 : (wa.map (fun q => q.1))[j]? = some q.1 := by rw [List.getElem?_map, h2]; rfl
    rw [hm, List.getElem?_map, h4] at h5
    rw [List.getElem?_map, h3]
    exact h5
  have hwaP : va_P D cl wa H1 := fun k q hq => hP1 k q (by rw [List.getElem?_append_left (List.getElem?_eq_some_iff.mp hq).1]; exact hq)
  have hwbP : va_P D cl wb H1 := fun k q hq => hP1 (wa.length + k) q (by rw [List.getElem?_append_right (by omega), Nat.add_sub_cancel_left]; exact hq)
  have hrP : va_P D cl (repl ws isC wa) H1 := by
    intro k q hq
    rcases repl_get isC wa ws k q hq with ⟨j, h1, h2⟩ | ⟨h1, h2⟩
    · exact hwaP j q h2
    · have hni : ∀ j : Nat, isC[j]? = some k → False := by
        intro j hj
        have h3 := h2 j hj
        have h4 := (List.getElem?_eq_some_iff.mp hj).1
        omega
      have hl := (hP k q h1).lt
      refine (hP k q h1).kept (hk q.1 hl (fun h => ?_))
      rcases h with ⟨k2, e, h⟩ | h
      · have hk2 : k2 < isC.length := by
          have h5 := (List.getElem?_eq_some_iff.mp h).1
          have h6 := congrArg List.length hC
          simp only [List.length_map] at h6
          omega
        have h7 : isC[k2]? = some (isC[k2]'hk2) := List.getElem?_eq_getElem hk2
        obtain ⟨q2, h8, h9⟩ := hat k2 _ h7
        have h10 : q2 = (q.1, e) := Option.some.inj (h9.symm.trans h)
        have h11 := hD.1 k _ q q2 h1 h8 (by rw [h10])
        rw [← h11] at h7
        exact hni k2 h7
      · omega
  refine ⟨hrP.app hwbP, (hD.fst hfst).app ?_ ?_⟩
  · refine ⟨fun i j a b hi hj hab => ?_, fun k q hq => ?_⟩
    · have := hD1.1 (wa.length + i) (wa.length + j) a b (by rw [List.getElem?_append_right (by omega), Nat.add_sub_cancel_left]; exact hi) (by rw [List.getElem?_append_right (by omega), Nat.add_sub_cancel_left]; exact hj) hab
      omega
    · exact hF q.1 (hD1.2 (wa.length + k) q (by rw [List.getElem?_append_right (by omega), Nat.add_sub_cancel_left]; exact hq))
  · intro i j a b hi hj hab
    have hb := hD1.2 (wa.length + j) b (by rw [List.getElem?_append_right (by omega), Nat.add_sub_cancel_left]; exact hj)
    have ha : a.1 < H.size := by
      have h1 : ((repl ws isC wa).map (fun q => q.1))[i]? = some a.1 := by rw [List.getElem?_map, hi]; rfl
      rw [hfst, List.getElem?_map] at h1
      cases h2 : ws[i]? with
      | none => rw [h2] at h1; cases h1
      | some q0 => rw [h2] at h1; have := (hP i q0 h2).lt; have h3 : q0.1 = a.1 := Option.some.inj h1; omega
    rcases hb with ⟨k, e, h⟩ | h
    · have h1 : (wc.map (fun q => q.1))[k]? = some b.1 := by rw [List.getElem?_map, h]; rfl
      rw [← hm, List.getElem?_map] at h1
      cases h2 : wa[k]? with
      | none => rw [h2] at h1; cases h1
      | some q0 =>
        rw [h2] at h1
        have hkl := (List.getElem?_eq_some_iff.mp h2).1
        have := hD1.1 k (wa.length + j) q0 b (by rw [List.getElem?_append_left hkl]; exact h2) (by rw [List.getElem?_append_right (by omega), Nat.add_sub_cancel_left]; exact hj) (Option.some.inj h1)
        omega
    · omega
theorem va_freeC {A0 : Nat → Prop} {ws wc : va_W} {H0 H : Heap} {locs : List Loc} (hD : va_D A0 ws) (hS : va_S A0 H0 H locs) (hA : ∀ q, H0.size ≤ q → A0 q) (isC : List Nat) (hC : isC.map (fun i => ws[i]?) = wc.map some) : ∀ q, va_A wc H.size q → A0 q := va_free hD hS hA isC hC
theorem va_PC {D : va_G} {cl : List vw_C} {ws wc : va_W} {H : Heap} (hP : va_P D cl ws H) (isC : List Nat) (hC : isC.map (fun i => ws[i]?) = wc.map some) : va_P D cl wc H := by
  intro k q hk
  have h1 : (isC.map (fun i => ws[i]?))[k]? = some (some q) := by rw [hC, List.getElem?_map, hk]; rfl
  rw [List.getElem?_map] at h1
  cases hi : isC[k]? with
  | none => rw [hi] at h1; cases h1
  | some i => rw [hi] at h1; exact hP i q (Option.some.inj h1)

theorem k_iconst {x : Cx} {G : Gx} {nL : Nat} {cc : ByteArray} {Ts : List Cond} {y0 : MethodName} {rm : Room} (O : Okx x G nL cc Ts y0 rm) {n1 n2 pc : Nat} {lv : List (Nat × Value)} {st : List Value} {ws : va_W} {n : Int} {v : Int32} (hd : decode cc pc = .ok (.iconst n, 1)) (hv : Int32.ofInt n = v) (g : V x G nL n1 n2 (pc + 1) lv (.int v :: st) ws) : V x G nL n1 n2 pc lv st ws := by
  obtain ⟨p, l, e, R, s, m, args, below, meth, c, Q, A⟩ := x
  obtain ⟨hx, hb, hml, hts, hown, hKS, hA, hR, hnm⟩ := O
  intro H locs ls hP hD hS hl
  exact lv_iconst hx hb hd hv (g H locs ls hP hD hS hl)
theorem k_bipush {x : Cx} {G : Gx} {nL : Nat} {cc : ByteArray} {Ts : List Cond} {y0 : MethodName} {rm : Room} (O : Okx x G nL cc Ts y0 rm) {n1 n2 pc : Nat} {lv : List (Nat × Value)} {st : List Value} {ws : va_W} {n : Int} {v : Int32} (hd : decode cc pc = .ok (.bipush n, 2)) (hv : (Int8.ofInt n).toInt32 = v) (g : V x G nL n1 n2 (pc + 2) lv (.int v :: st) ws) : V x G nL n1 n2 pc lv st ws := by
  obtain ⟨p, l, e, R, s, m, args, below, meth, c, Q, A⟩ := x
  obtain ⟨hx, hb, hml, hts, hown, hKS, hA, hR, hnm⟩ := O
  intro H locs ls hP hD hS hl
  exact lv_bipush hx hb hd hv (g H locs ls hP hD hS hl)
theorem k_sipush {x : Cx} {G : Gx} {nL : Nat} {cc : ByteArray} {Ts : List Cond} {y0 : MethodName} {rm : Room} (O : Okx x G nL cc Ts y0 rm) {n1 n2 pc : Nat} {lv : List (Nat × Value)} {st : List Value} {ws : va_W} {n : Int} {v : Int32} (hd : decode cc pc = .ok (.sipush n, 3)) (hv : (Int16.ofInt n).toInt32 = v) (g : V x G nL n1 n2 (pc + 3) lv (.int v :: st) ws) : V x G nL n1 n2 pc lv st ws := by
  obtain ⟨p, l, e, R, s, m, args, below, meth, c, Q, A⟩ := x
  obtain ⟨hx, hb, hml, hts, hown, hKS, hA, hR, hnm⟩ := O
  intro H locs ls hP hD hS hl
  exact lv_sipush hx hb hd hv (g H locs ls hP hD hS hl)
theorem k_ldc {x : Cx} {G : Gx} {nL : Nat} {cc : ByteArray} {Ts : List Cond} {y0 : MethodName} {rm : Room} (O : Okx x G nL cc Ts y0 rm) {n1 n2 pc : Nat} {lv : List (Nat × Value)} {st : List Value} {ws : va_W} {i : Nat} (v : Int32) (hd : decode cc pc = .ok (.ldc i, 2)) (hc : (Jvm.Cond.constant y0.cls i v) ∈ Ts) (g : V x G nL n1 n2 (pc + 2) lv (.int v :: st) ws) : V x G nL n1 n2 pc lv st ws := by
  obtain ⟨p, l, e, R, s, m, args, below, meth, c, Q, A⟩ := x
  obtain ⟨hx, hb, hml, hts, hown, hKS, hA, hR, hnm⟩ := O
  intro H locs ls hP hD hS hl
  exact lv_ldc hx hb hown (hts _ hc) hd (g H locs ls hP hD hS hl)
theorem k_ldc2 {x : Cx} {G : Gx} {nL : Nat} {cc : ByteArray} {Ts : List Cond} {y0 : MethodName} {rm : Room} (O : Okx x G nL cc Ts y0 rm) {n1 n2 pc : Nat} {lv : List (Nat × Value)} {st : List Value} {ws : va_W} {i : Nat} (v : Int64) (hd : decode cc pc = .ok (.ldc2_w i, 3)) (hc : (Jvm.Cond.constantLong y0.cls i v) ∈ Ts) (g : V x G nL n1 n2 (pc + 3) lv (.long v :: st) ws) : V x G nL n1 n2 pc lv st ws := by
  obtain ⟨p, l, e, R, s, m, args, below, meth, c, Q, A⟩ := x
  obtain ⟨hx, hb, hml, hts, hown, hKS, hA, hR, hnm⟩ := O
  intro H locs ls hP hD hS hl
  exact lv_ldc2 hx hb hown (hts _ hc) hd (g H locs ls hP hD hS hl)
theorem k_lconst {x : Cx} {G : Gx} {nL : Nat} {cc : ByteArray} {Ts : List Cond} {y0 : MethodName} {rm : Room} (O : Okx x G nL cc Ts y0 rm) {n1 n2 pc : Nat} {lv : List (Nat × Value)} {st : List Value} {ws : va_W} {n : Fin 2} {v : Int64} (hd : decode cc pc = .ok (.lconst n, 1)) (hv : Int64.ofNat (n : Nat) = v) (g : V x G nL n1 n2 (pc + 1) lv (.long v :: st) ws) : V x G nL n1 n2 pc lv st ws := by
  obtain ⟨p, l, e, R, s, m, args, below, meth, c, Q, A⟩ := x
  obtain ⟨hx, hb, hml, hts, hown, hKS, hA, hR, hnm⟩ := O
  intro H locs ls hP hD hS hl
  exact lv_lconst hx hb hd hv (g H locs ls hP hD hS hl)
theorem k_iload {x : Cx} {G : Gx} {nL : Nat} {cc : ByteArray} {Ts : List Cond} {y0 : MethodName} {rm : Room} (O : Okx x G nL cc Ts y0 rm) {n1 n2 pc : Nat} {lv : List (Nat × Value)} {st : List Value} {ws : va_W} {i : Nat} {v : Int32} (hd : decode cc pc = .ok (.iload i, 2)) (k : Nat) (hk : lv[k]? = some (i, .int v)) (g : V x G nL n1 n2 (pc + 2) lv (.int v :: st) ws) : V x G nL n1 n2 pc lv st ws := by
  obtain ⟨p, l, e, R, s, m, args, below, meth, c, Q, A⟩ := x
  obtain ⟨hx, hb, hml, hts, hown, hKS, hA, hR, hnm⟩ := O
  intro H locs ls hP hD hS hl
  exact lv_iload hx hb hd (lv_at hl k hk) (g H locs ls hP hD hS hl)
theorem k_iload_n {x : Cx} {G : Gx} {nL : Nat} {cc : ByteArray} {Ts : List Cond} {y0 : MethodName} {rm : Room} (O : Okx x G nL cc Ts y0 rm) {n1 n2 pc : Nat} {lv : List (Nat × Value)} {st : List Value} {ws : va_W} {f : Fin 4} {i : Nat} {v : Int32} (hd : decode cc pc = .ok (.iload_n f, 1)) (hi : (f : Nat) = i) (k : Nat) (hk : lv[k]? = some (i, .int v)) (g : V x G nL n1 n2 (pc + 1) lv (.int v :: st) ws) : V x G nL n1 n2 pc lv st ws := by
  obtain ⟨p, l, e, R, s, m, args, below, meth, c, Q, A⟩ := x
  obtain ⟨hx, hb, hml, hts, hown, hKS, hA, hR, hnm⟩ := O
  intro H locs ls hP hD hS hl
  exact lv_iload_n hx hb hd hi (lv_at hl k hk) (g H locs ls hP hD hS hl)
theorem k_aload {x : Cx} {G : Gx} {nL : Nat} {cc : ByteArray} {Ts : List Cond} {y0 : MethodName} {rm : Room} (O : Okx x G nL cc Ts y0 rm) {n1 n2 pc : Nat} {lv : List (Nat × Value)} {st : List Value} {ws : va_W} {i : Nat} {v : Nat} (hd : decode cc pc = .ok (.aload i, 2)) (k : Nat) (hk : lv[k]? = some (i, .ref v)) (g : V x G nL n1 n2 (pc + 2) lv (.ref v :: st) ws) : V x G nL n1 n2 pc lv st ws := by
  obtain ⟨p, l, e, R, s, m, args, below, meth, c, Q, A⟩ := x
  obtain ⟨hx, hb, hml, hts, hown, hKS, hA, hR, hnm⟩ := O
  intro H locs ls hP hD hS hl
  exact lv_aload hx hb hd (lv_at hl k hk) (g H locs ls hP hD hS hl)
theorem k_aload_n {x : Cx} {G : Gx} {nL : Nat} {cc : ByteArray} {Ts : List Cond} {y0 : MethodName} {rm : Room} (O : Okx x G nL cc Ts y0 rm) {n1 n2 pc : Nat} {lv : List (Nat × Value)} {st : List Value} {ws : va_W} {f : Fin 4} {i : Nat} {v : Nat} (hd : decode cc pc = .ok (.aload_n f, 1)) (hi : (f : Nat) = i) (k : Nat) (hk : lv[k]? = some (i, .ref v)) (g : V x G nL n1 n2 (pc + 1) lv (.ref v :: st) ws) : V x G nL n1 n2 pc lv st ws := by
  obtain ⟨p, l, e, R, s, m, args, below, meth, c, Q, A⟩ := x
  obtain ⟨hx, hb, hml, hts, hown, hKS, hA, hR, hnm⟩ := O
  intro H locs ls hP hD hS hl
  exact lv_aload_n hx hb hd hi (lv_at hl k hk) (g H locs ls hP hD hS hl)
theorem k_lload {x : Cx} {G : Gx} {nL : Nat} {cc : ByteArray} {Ts : List Cond} {y0 : MethodName} {rm : Room} (O : Okx x G nL cc Ts y0 rm) {n1 n2 pc : Nat} {lv : List (Nat × Value)} {st : List Value} {ws : va_W} {i : Nat} {v : Int64} (hd : decode cc pc = .ok (.lload i, 2)) (k : Nat) (hk : lv[k]? = some (i, .long v)) (g : V x G nL n1 n2 (pc + 2) lv (.long v :: st) ws) : V x G nL n1 n2 pc lv st ws := by
  obtain ⟨p, l, e, R, s, m, args, below, meth, c, Q, A⟩ := x
  obtain ⟨hx, hb, hml, hts, hown, hKS, hA, hR, hnm⟩ := O
  intro H locs ls hP hD hS hl
  exact lv_lload hx hb hd (lv_at hl k hk) (g H locs ls hP hD hS hl)
theorem k_lload_n {x : Cx} {G : Gx} {nL : Nat} {cc : ByteArray} {Ts : List Cond} {y0 : MethodName} {rm : Room} (O : Okx x G nL cc Ts y0 rm) {n1 n2 pc : Nat} {lv : List (Nat × Value)} {st : List Value} {ws : va_W} {f : Fin 4} {i : Nat} {v : Int64} (hd : decode cc pc = .ok (.lload_n f, 1)) (hi : (f : Nat) = i) (k : Nat) (hk : lv[k]? = some (i, .long v)) (g : V x G nL n1 n2 (pc + 1) lv (.long v :: st) ws) : V x G nL n1 n2 pc lv st ws := by
  obtain ⟨p, l, e, R, s, m, args, below, meth, c, Q, A⟩ := x
  obtain ⟨hx, hb, hml, hts, hown, hKS, hA, hR, hnm⟩ := O
  intro H locs ls hP hD hS hl
  exact lv_lload_n hx hb hd hi (lv_at hl k hk) (g H locs ls hP hD hS hl)
theorem k_istore {x : Cx} {G : Gx} {nL : Nat} {cc : ByteArray} {Ts : List Cond} {y0 : MethodName} {rm : Room} (O : Okx x G nL cc Ts y0 rm) {n1 n2 pc : Nat} {lv : List (Nat × Value)} {st : List Value} {ws : va_W} {i : Nat} {v : Int32} (lv' : List (Nat × Value)) (hd : decode cc pc = .ok (.istore i, 2)) (hn : i < nL) (hl' : (i, Value.int v) :: lv.filter (fun q => !(q.1 == i) && !(q.1 + 1 == i && q.2.category == 2)) = lv') (g : V x G nL n1 n2 (pc + 2) lv' st ws) : V x G nL n1 n2 pc lv (.int v :: st) ws := by
  obtain ⟨p, l, e, R, s, m, args, below, meth, c, Q, A⟩ := x
  obtain ⟨hx, hb, hml, hts, hown, hKS, hA, hR, hnm⟩ := O
  intro H locs ls hP hD hS hl
  exact lv_istore hx hb hd hl hn hl' (fun ls' h' => g H locs ls' hP hD hS h')
theorem k_istore_n {x : Cx} {G : Gx} {nL : Nat} {cc : ByteArray} {Ts : List Cond} {y0 : MethodName} {rm : Room} (O : Okx x G nL cc Ts y0 rm) {n1 n2 pc : Nat} {lv : List (Nat × Value)} {st : List Value} {ws : va_W} {f : Fin 4} {i : Nat} {v : Int32} (lv' : List (Nat × Value)) (hd : decode cc pc = .ok (.istore_n f, 1)) (hi : (f : Nat) = i) (hn : i < nL) (hl' : (i, Value.int v) :: lv.filter (fun q => !(q.1 == i) && !(q.1 + 1 == i && q.2.category == 2)) = lv') (g : V x G nL n1 n2 (pc + 1) lv' st ws) : V x G nL n1 n2 pc lv (.int v :: st) ws := by
  obtain ⟨p, l, e, R, s, m, args, below, meth, c, Q, A⟩ := x
  obtain ⟨hx, hb, hml, hts, hown, hKS, hA, hR, hnm⟩ := O
  intro H locs ls hP hD hS hl
  exact lv_istore_n hx hb hd hi hl hn hl' (fun ls' h' => g H locs ls' hP hD hS h')
theorem k_astore {x : Cx} {G : Gx} {nL : Nat} {cc : ByteArray} {Ts : List Cond} {y0 : MethodName} {rm : Room} (O : Okx x G nL cc Ts y0 rm) {n1 n2 pc : Nat} {lv : List (Nat × Value)} {st : List Value} {ws : va_W} {i : Nat} {v : Nat} (lv' : List (Nat × Value)) (hd : decode cc pc = .ok (.astore i, 2)) (hn : i < nL) (hl' : (i, Value.ref v) :: lv.filter (fun q => !(q.1 == i) && !(q.1 + 1 == i && q.2.category == 2)) = lv') (g : V x G nL n1 n2 (pc + 2) lv' st ws) : V x G nL n1 n2 pc lv (.ref v :: st) ws := by
  obtain ⟨p, l, e, R, s, m, args, below, meth, c, Q, A⟩ := x
  obtain ⟨hx, hb, hml, hts, hown, hKS, hA, hR, hnm⟩ := O
  intro H locs ls hP hD hS hl
  exact lv_astore hx hb hd hl hn hl' (fun ls' h' => g H locs ls' hP hD hS h')
theorem k_astore_n {x : Cx} {G : Gx} {nL : Nat} {cc : ByteArray} {Ts : List Cond} {y0 : MethodName} {rm : Room} (O : Okx x G nL cc Ts y0 rm) {n1 n2 pc : Nat} {lv : List (Nat × Value)} {st : List Value} {ws : va_W} {f : Fin 4} {i : Nat} {v : Nat} (lv' : List (Nat × Value)) (hd : decode cc pc = .ok (.astore_n f, 1)) (hi : (f : Nat) = i) (hn : i < nL) (hl' : (i, Value.ref v) :: lv.filter (fun q => !(q.1 == i) && !(q.1 + 1 == i && q.2.category == 2)) = lv') (g : V x G nL n1 n2 (pc + 1) lv' st ws) : V x G nL n1 n2 pc lv (.ref v :: st) ws := by
  obtain ⟨p, l, e, R, s, m, args, below, meth, c, Q, A⟩ := x
  obtain ⟨hx, hb, hml, hts, hown, hKS, hA, hR, hnm⟩ := O
  intro H locs ls hP hD hS hl
  exact lv_astore_n hx hb hd hi hl hn hl' (fun ls' h' => g H locs ls' hP hD hS h')
theorem k_lstore {x : Cx} {G : Gx} {nL : Nat} {cc : ByteArray} {Ts : List Cond} {y0 : MethodName} {rm : Room} (O : Okx x G nL cc Ts y0 rm) {n1 n2 pc : Nat} {lv : List (Nat × Value)} {st : List Value} {ws : va_W} {i : Nat} {v : Int64} (lv' : List (Nat × Value)) (hd : decode cc pc = .ok (.lstore i, 2)) (hn : i + 1 < nL) (hl' : (i, Value.long v) :: lv.filter (fun q => !(q.1 == i) && (!(q.1 == i + 1) && !(q.1 + 1 == i && q.2.category == 2))) = lv') (g : V x G nL n1 n2 (pc + 2) lv' st ws) : V x G nL n1 n2 pc lv (.long v :: st) ws := by
  obtain ⟨p, l, e, R, s, m, args, below, meth, c, Q, A⟩ := x
  obtain ⟨hx, hb, hml, hts, hown, hKS, hA, hR, hnm⟩ := O
  intro H locs ls hP hD hS hl
  exact lv_lstore hx hb hd hl hn hl' (fun ls' h' => g H locs ls' hP hD hS h')
theorem k_iinc {x : Cx} {G : Gx} {nL : Nat} {cc : ByteArray} {Ts : List Cond} {y0 : MethodName} {rm : Room} (O : Okx x G nL cc Ts y0 rm) {n1 n2 pc : Nat} {lv : List (Nat × Value)} {st : List Value} {ws : va_W} {i k : Nat} {n : Int} {v w : Int32} (lv' : List (Nat × Value)) (hd : decode cc pc = .ok (.iinc i n, 3)) (hk : lv[k]? = some (i, .int v)) (hv : v + Int32.ofInt n = w) (hn : i < nL) (hl' : (i, Value.int w) :: lv.filter (fun q => !(q.1 == i) && !(q.1 + 1 == i && q.2.category == 2)) = lv') (g : V x G nL n1 n2 (pc + 3) lv' st ws) : V x G nL n1 n2 pc lv st ws := by
  obtain ⟨p, l, e, R, s, m, args, below, meth, c, Q, A⟩ := x
  obtain ⟨hx, hb, hml, hts, hown, hKS, hA, hR, hnm⟩ := O
  intro H locs ls hP hD hS hl
  exact lv_iinc hx hb hd hl hk hv hn hl' (fun ls' h' => g H locs ls' hP hD hS h')
theorem k_sub {x : Cx} {G : Gx} {nL n1 n2 pc : Nat} {lv : List (Nat × Value)} {st : List Value} {ws : va_W} (ks : List Nat) (lv' : List (Nat × Value)) (h : lv_pick lv ks = lv') (g : V x G nL n1 n2 pc lv' st ws) : V x G nL n1 n2 pc lv st ws := by
  obtain ⟨p, l, e, R, s, m, args, below, meth, c, Q, A⟩ := x
  intro H locs ls hP hD hS hl
  exact g H locs ls hP hD hS (lv_sub hl ks h)
theorem k_widen {x : Cx} {G : Gx} {nL n1 n2 pc : Nat} {lv : List (Nat × Value)} {st : List Value} {ws : va_W} (k n : Nat) (h1 : n1 ≤ k) (h2 : n2 ≤ n) (g : V x G nL k n pc lv st ws) : V x G nL n1 n2 pc lv st ws := by
  obtain ⟨p, l, e, R, s, m, args, below, meth, c, Q, A⟩ := x
  intro H locs ls hP hD hS hl
  exact W.widen h1 h2 (g H locs ls hP hD hS hl)
theorem k_world {x : Cx} {G : Gx} {nL n1 n2 pc : Nat} {lv : List (Nat × Value)} {st : List Value} {ws : va_W} (ws' : va_W) (h : ∀ H : Heap, va_P G.1 vwCl ws H → va_P G.1 vwCl ws' H) (hf : ws'.map (fun q => q.1) = ws.map (fun q => q.1)) (g : V x G nL n1 n2 pc lv st ws') : V x G nL n1 n2 pc lv st ws := by
  obtain ⟨p, l, e, R, s, m, args, below, meth, c, Q, A⟩ := x
  intro H locs ls hP hD hS hl
  exact g H locs ls (h H hP) (hD.fst hf) hS hl
theorem k_goto {x : Cx} {G : Gx} {nL : Nat} {cc : ByteArray} {Ts : List Cond} {y0 : MethodName} {rm : Room} (O : Okx x G nL cc Ts y0 rm) {n1 n2 pc : Nat} {lv : List (Nat × Value)} {st : List Value} {ws : va_W} {off : Int} (tgt : Nat) (hd : decode cc pc = .ok (.goto off, 3)) (ht : (pc : Int) + off = (tgt : Int)) (g : V x G nL n1 n2 tgt lv st ws) : V x G nL n1 n2 pc lv st ws := by
  obtain ⟨p, l, e, R, s, m, args, below, meth, c, Q, A⟩ := x
  obtain ⟨hx, hb, hml, hts, hown, hKS, hA, hR, hnm⟩ := O
  intro H locs ls hP hD hS hl
  exact lv_goto hx hb hd ht (g H locs ls hP hD hS hl)
theorem k_dup {x : Cx} {G : Gx} {nL : Nat} {cc : ByteArray} {Ts : List Cond} {y0 : MethodName} {rm : Room} (O : Okx x G nL cc Ts y0 rm) {n1 n2 pc : Nat} {lv : List (Nat × Value)} {st : List Value} {ws : va_W} {v : Value} (hd : decode cc pc = .ok (.dup, 1)) (hv : v.category = 1) (g : V x G nL n1 n2 (pc + 1) lv (v :: v :: st) ws) : V x G nL n1 n2 pc lv (v :: st) ws := by
  obtain ⟨p, l, e, R, s, m, args, below, meth, c, Q, A⟩ := x
  obtain ⟨hx, hb, hml, hts, hown, hKS, hA, hR, hnm⟩ := O
  intro H locs ls hP hD hS hl
  exact lv_dup hx hb hd hv (g H locs ls hP hD hS hl)
theorem k_pop {x : Cx} {G : Gx} {nL : Nat} {cc : ByteArray} {Ts : List Cond} {y0 : MethodName} {rm : Room} (O : Okx x G nL cc Ts y0 rm) {n1 n2 pc : Nat} {lv : List (Nat × Value)} {st : List Value} {ws : va_W} {v : Value} (hd : decode cc pc = .ok (.pop, 1)) (hv : v.category = 1) (g : V x G nL n1 n2 (pc + 1) lv st ws) : V x G nL n1 n2 pc lv (v :: st) ws := by
  obtain ⟨p, l, e, R, s, m, args, below, meth, c, Q, A⟩ := x
  obtain ⟨hx, hb, hml, hts, hown, hKS, hA, hR, hnm⟩ := O
  intro H locs ls hP hD hS hl
  exact lv_pop hx hb hd hv (g H locs ls hP hD hS hl)
theorem k_iadd {x : Cx} {G : Gx} {nL : Nat} {cc : ByteArray} {Ts : List Cond} {y0 : MethodName} {rm : Room} (O : Okx x G nL cc Ts y0 rm) {n1 n2 pc : Nat} {lv : List (Nat × Value)} {st : List Value} {ws : va_W} {a b : Int32} (hd : decode cc pc = .ok (.iadd, 1)) (g : V x G nL n1 n2 (pc + 1) lv (.int (a + b) :: st) ws) : V x G nL n1 n2 pc lv (.int b :: .int a :: st) ws := by
  obtain ⟨p, l, e, R, s, m, args, below, meth, c, Q, A⟩ := x
  obtain ⟨hx, hb, hml, hts, hown, hKS, hA, hR, hnm⟩ := O
  intro H locs ls hP hD hS hl
  exact lv_iadd hx hb hd (g H locs ls hP hD hS hl)
theorem k_isub {x : Cx} {G : Gx} {nL : Nat} {cc : ByteArray} {Ts : List Cond} {y0 : MethodName} {rm : Room} (O : Okx x G nL cc Ts y0 rm) {n1 n2 pc : Nat} {lv : List (Nat × Value)} {st : List Value} {ws : va_W} {a b : Int32} (hd : decode cc pc = .ok (.isub, 1)) (g : V x G nL n1 n2 (pc + 1) lv (.int (a - b) :: st) ws) : V x G nL n1 n2 pc lv (.int b :: .int a :: st) ws := by
  obtain ⟨p, l, e, R, s, m, args, below, meth, c, Q, A⟩ := x
  obtain ⟨hx, hb, hml, hts, hown, hKS, hA, hR, hnm⟩ := O
  intro H locs ls hP hD hS hl
  exact lv_isub hx hb hd (g H locs ls hP hD hS hl)
theorem k_imul {x : Cx} {G : Gx} {nL : Nat} {cc : ByteArray} {Ts : List Cond} {y0 : MethodName} {rm : Room} (O : Okx x G nL cc Ts y0 rm) {n1 n2 pc : Nat} {lv : List (Nat × Value)} {st : List Value} {ws : va_W} {a b : Int32} (hd : decode cc pc = .ok (.imul, 1)) (g : V x G nL n1 n2 (pc + 1) lv (.int (a * b) :: st) ws) : V x G nL n1 n2 pc lv (.int b :: .int a :: st) ws := by
  obtain ⟨p, l, e, R, s, m, args, below, meth, c, Q, A⟩ := x
  obtain ⟨hx, hb, hml, hts, hown, hKS, hA, hR, hnm⟩ := O
  intro H locs ls hP hD hS hl
  exact lv_imul hx hb hd (g H locs ls hP hD hS hl)
theorem k_iand {x : Cx} {G : Gx} {nL : Nat} {cc : ByteArray} {Ts : List Cond} {y0 : MethodName} {rm : Room} (O : Okx x G nL cc Ts y0 rm) {n1 n2 pc : Nat} {lv : List (Nat × Value)} {st : List Value} {ws : va_W} {a b : Int32} (hd : decode cc pc = .ok (.iand, 1)) (g : V x G nL n1 n2 (pc + 1) lv (.int (a &&& b) :: st) ws) : V x G nL n1 n2 pc lv (.int b :: .int a :: st) ws := by
  obtain ⟨p, l, e, R, s, m, args, below, meth, c, Q, A⟩ := x
  obtain ⟨hx, hb, hml, hts, hown, hKS, hA, hR, hnm⟩ := O
  intro H locs ls hP hD hS hl
  exact lv_iand hx hb hd (g H locs ls hP hD hS hl)
theorem k_ior {x : Cx} {G : Gx} {nL : Nat} {cc : ByteArray} {Ts : List Cond} {y0 : MethodName} {rm : Room} (O : Okx x G nL cc Ts y0 rm) {n1 n2 pc : Nat} {lv : List (Nat × Value)} {st : List Value} {ws : va_W} {a b : Int32} (hd : decode cc pc = .ok (.ior, 1)) (g : V x G nL n1 n2 (pc + 1) lv (.int (a ||| b) :: st) ws) : V x G nL n1 n2 pc lv (.int b :: .int a :: st) ws := by
  obtain ⟨p, l, e, R, s, m, args, below, meth, c, Q, A⟩ := x
  obtain ⟨hx, hb, hml, hts, hown, hKS, hA, hR, hnm⟩ := O
  intro H locs ls hP hD hS hl
  exact lv_ior hx hb hd (g H locs ls hP hD hS hl)
theorem k_ixor {x : Cx} {G : Gx} {nL : Nat} {cc : ByteArray} {Ts : List Cond} {y0 : MethodName} {rm : Room} (O : Okx x G nL cc Ts y0 rm) {n1 n2 pc : Nat} {lv : List (Nat × Value)} {st : List Value} {ws : va_W} {a b : Int32} (hd : decode cc pc = .ok (.ixor, 1)) (g : V x G nL n1 n2 (pc + 1) lv (.int (a ^^^ b) :: st) ws) : V x G nL n1 n2 pc lv (.int b :: .int a :: st) ws := by
  obtain ⟨p, l, e, R, s, m, args, below, meth, c, Q, A⟩ := x
  obtain ⟨hx, hb, hml, hts, hown, hKS, hA, hR, hnm⟩ := O
  intro H locs ls hP hD hS hl
  exact lv_ixor hx hb hd (g H locs ls hP hD hS hl)
theorem k_ishl {x : Cx} {G : Gx} {nL : Nat} {cc : ByteArray} {Ts : List Cond} {y0 : MethodName} {rm : Room} (O : Okx x G nL cc Ts y0 rm) {n1 n2 pc : Nat} {lv : List (Nat × Value)} {st : List Value} {ws : va_W} {a b : Int32} (hd : decode cc pc = .ok (.ishl, 1)) (g : V x G nL n1 n2 (pc + 1) lv (.int (a <<< (b &&& 31)) :: st) ws) : V x G nL n1 n2 pc lv (.int b :: .int a :: st) ws := by
  obtain ⟨p, l, e, R, s, m, args, below, meth, c, Q, A⟩ := x
  obtain ⟨hx, hb, hml, hts, hown, hKS, hA, hR, hnm⟩ := O
  intro H locs ls hP hD hS hl
  exact lv_ishl hx hb hd (g H locs ls hP hD hS hl)
theorem k_ishr {x : Cx} {G : Gx} {nL : Nat} {cc : ByteArray} {Ts : List Cond} {y0 : MethodName} {rm : Room} (O : Okx x G nL cc Ts y0 rm) {n1 n2 pc : Nat} {lv : List (Nat × Value)} {st : List Value} {ws : va_W} {a b : Int32} (hd : decode cc pc = .ok (.ishr, 1)) (g : V x G nL n1 n2 (pc + 1) lv (.int (a >>> (b &&& 31)) :: st) ws) : V x G nL n1 n2 pc lv (.int b :: .int a :: st) ws := by
  obtain ⟨p, l, e, R, s, m, args, below, meth, c, Q, A⟩ := x
  obtain ⟨hx, hb, hml, hts, hown, hKS, hA, hR, hnm⟩ := O
  intro H locs ls hP hD hS hl
  exact lv_ishr hx hb hd (g H locs ls hP hD hS hl)
theorem k_idiv {x : Cx} {G : Gx} {nL : Nat} {cc : ByteArray} {Ts : List Cond} {y0 : MethodName} {rm : Room} (O : Okx x G nL cc Ts y0 rm) {n1 n2 pc : Nat} {lv : List (Nat × Value)} {st : List Value} {ws : va_W} {a b : Int32} (hd : decode cc pc = .ok (.idiv, 1)) (h0 : ¬ b = 0) (g : V x G nL n1 n2 (pc + 1) lv (.int (a / b) :: st) ws) : V x G nL n1 n2 pc lv (.int b :: .int a :: st) ws := by
  obtain ⟨p, l, e, R, s, m, args, below, meth, c, Q, A⟩ := x
  obtain ⟨hx, hb, hml, hts, hown, hKS, hA, hR, hnm⟩ := O
  intro H locs ls hP hD hS hl
  exact lv_idiv hx hb hd h0 (g H locs ls hP hD hS hl)
theorem k_irem {x : Cx} {G : Gx} {nL : Nat} {cc : ByteArray} {Ts : List Cond} {y0 : MethodName} {rm : Room} (O : Okx x G nL cc Ts y0 rm) {n1 n2 pc : Nat} {lv : List (Nat × Value)} {st : List Value} {ws : va_W} {a b : Int32} (hd : decode cc pc = .ok (.irem, 1)) (h0 : ¬ b = 0) (g : V x G nL n1 n2 (pc + 1) lv (.int (a - a / b * b) :: st) ws) : V x G nL n1 n2 pc lv (.int b :: .int a :: st) ws := by
  obtain ⟨p, l, e, R, s, m, args, below, meth, c, Q, A⟩ := x
  obtain ⟨hx, hb, hml, hts, hown, hKS, hA, hR, hnm⟩ := O
  intro H locs ls hP hD hS hl
  exact lv_irem hx hb hd h0 (g H locs ls hP hD hS hl)
theorem k_lmul {x : Cx} {G : Gx} {nL : Nat} {cc : ByteArray} {Ts : List Cond} {y0 : MethodName} {rm : Room} (O : Okx x G nL cc Ts y0 rm) {n1 n2 pc : Nat} {lv : List (Nat × Value)} {st : List Value} {ws : va_W} {a b : Int64} (hd : decode cc pc = .ok (.lmul, 1)) (g : V x G nL n1 n2 (pc + 1) lv (.long (a * b) :: st) ws) : V x G nL n1 n2 pc lv (.long b :: .long a :: st) ws := by
  obtain ⟨p, l, e, R, s, m, args, below, meth, c, Q, A⟩ := x
  obtain ⟨hx, hb, hml, hts, hown, hKS, hA, hR, hnm⟩ := O
  intro H locs ls hP hD hS hl
  exact lv_lmul hx hb hd (g H locs ls hP hD hS hl)
theorem k_lsub {x : Cx} {G : Gx} {nL : Nat} {cc : ByteArray} {Ts : List Cond} {y0 : MethodName} {rm : Room} (O : Okx x G nL cc Ts y0 rm) {n1 n2 pc : Nat} {lv : List (Nat × Value)} {st : List Value} {ws : va_W} {a b : Int64} (hd : decode cc pc = .ok (.lsub, 1)) (g : V x G nL n1 n2 (pc + 1) lv (.long (a - b) :: st) ws) : V x G nL n1 n2 pc lv (.long b :: .long a :: st) ws := by
  obtain ⟨p, l, e, R, s, m, args, below, meth, c, Q, A⟩ := x
  obtain ⟨hx, hb, hml, hts, hown, hKS, hA, hR, hnm⟩ := O
  intro H locs ls hP hD hS hl
  exact lv_lsub hx hb hd (g H locs ls hP hD hS hl)
theorem k_ldiv {x : Cx} {G : Gx} {nL : Nat} {cc : ByteArray} {Ts : List Cond} {y0 : MethodName} {rm : Room} (O : Okx x G nL cc Ts y0 rm) {n1 n2 pc : Nat} {lv : List (Nat × Value)} {st : List Value} {ws : va_W} {a b : Int64} (hd : decode cc pc = .ok (.ldiv, 1)) (h0 : ¬ b = 0) (g : V x G nL n1 n2 (pc + 1) lv (.long (a / b) :: st) ws) : V x G nL n1 n2 pc lv (.long b :: .long a :: st) ws := by
  obtain ⟨p, l, e, R, s, m, args, below, meth, c, Q, A⟩ := x
  obtain ⟨hx, hb, hml, hts, hown, hKS, hA, hR, hnm⟩ := O
  intro H locs ls hP hD hS hl
  exact lv_ldiv hx hb hd h0 (g H locs ls hP hD hS hl)
theorem k_lrem {x : Cx} {G : Gx} {nL : Nat} {cc : ByteArray} {Ts : List Cond} {y0 : MethodName} {rm : Room} (O : Okx x G nL cc Ts y0 rm) {n1 n2 pc : Nat} {lv : List (Nat × Value)} {st : List Value} {ws : va_W} {a b : Int64} (hd : decode cc pc = .ok (.lrem, 1)) (h0 : ¬ b = 0) (g : V x G nL n1 n2 (pc + 1) lv (.long (a - a / b * b) :: st) ws) : V x G nL n1 n2 pc lv (.long b :: .long a :: st) ws := by
  obtain ⟨p, l, e, R, s, m, args, below, meth, c, Q, A⟩ := x
  obtain ⟨hx, hb, hml, hts, hown, hKS, hA, hR, hnm⟩ := O
  intro H locs ls hP hD hS hl
  exact lv_lrem hx hb hd h0 (g H locs ls hP hD hS hl)
theorem k_lneg {x : Cx} {G : Gx} {nL : Nat} {cc : ByteArray} {Ts : List Cond} {y0 : MethodName} {rm : Room} (O : Okx x G nL cc Ts y0 rm) {n1 n2 pc : Nat} {lv : List (Nat × Value)} {st : List Value} {ws : va_W} {a : Int64} (hd : decode cc pc = .ok (.lneg, 1)) (g : V x G nL n1 n2 (pc + 1) lv (.long (-a) :: st) ws) : V x G nL n1 n2 pc lv (.long a :: st) ws := by
  obtain ⟨p, l, e, R, s, m, args, below, meth, c, Q, A⟩ := x
  obtain ⟨hx, hb, hml, hts, hown, hKS, hA, hR, hnm⟩ := O
  intro H locs ls hP hD hS hl
  exact lv_lneg hx hb hd (g H locs ls hP hD hS hl)
theorem k_lcmp {x : Cx} {G : Gx} {nL : Nat} {cc : ByteArray} {Ts : List Cond} {y0 : MethodName} {rm : Room} (O : Okx x G nL cc Ts y0 rm) {n1 n2 pc : Nat} {lv : List (Nat × Value)} {st : List Value} {ws : va_W} {a b : Int64} (hd : decode cc pc = .ok (.lcmp, 1)) (g : V x G nL n1 n2 (pc + 1) lv (.int (lg_cmp a b) :: st) ws) : V x G nL n1 n2 pc lv (.long b :: .long a :: st) ws := by
  obtain ⟨p, l, e, R, s, m, args, below, meth, c, Q, A⟩ := x
  obtain ⟨hx, hb, hml, hts, hown, hKS, hA, hR, hnm⟩ := O
  intro H locs ls hP hD hS hl
  exact W.lcmp hx hb hd (g H locs ls hP hD hS hl)
theorem k_i2l {x : Cx} {G : Gx} {nL : Nat} {cc : ByteArray} {Ts : List Cond} {y0 : MethodName} {rm : Room} (O : Okx x G nL cc Ts y0 rm) {n1 n2 pc : Nat} {lv : List (Nat × Value)} {st : List Value} {ws : va_W} {a : Int32} {v : Int64} (hd : decode cc pc = .ok (.i2l, 1)) (hv : a.toInt64 = v) (g : V x G nL n1 n2 (pc + 1) lv (.long v :: st) ws) : V x G nL n1 n2 pc lv (.int a :: st) ws := by
  obtain ⟨p, l, e, R, s, m, args, below, meth, c, Q, A⟩ := x
  obtain ⟨hx, hb, hml, hts, hown, hKS, hA, hR, hnm⟩ := O
  intro H locs ls hP hD hS hl
  exact lv_i2l hx hb hd hv (g H locs ls hP hD hS hl)
theorem k_l2i {x : Cx} {G : Gx} {nL : Nat} {cc : ByteArray} {Ts : List Cond} {y0 : MethodName} {rm : Room} (O : Okx x G nL cc Ts y0 rm) {n1 n2 pc : Nat} {lv : List (Nat × Value)} {st : List Value} {ws : va_W} {a : Int64} {v : Int32} (hd : decode cc pc = .ok (.l2i, 1)) (hv : a.toInt32 = v) (g : V x G nL n1 n2 (pc + 1) lv (.int v :: st) ws) : V x G nL n1 n2 pc lv (.long a :: st) ws := by
  obtain ⟨p, l, e, R, s, m, args, below, meth, c, Q, A⟩ := x
  obtain ⟨hx, hb, hml, hts, hown, hKS, hA, hR, hnm⟩ := O
  intro H locs ls hP hD hS hl
  exact lv_l2i hx hb hd hv (g H locs ls hP hD hS hl)
theorem k_iaddN {x : Cx} {G : Gx} {nL : Nat} {cc : ByteArray} {Ts : List Cond} {y0 : MethodName} {rm : Room} (O : Okx x G nL cc Ts y0 rm) {n1 n2 pc : Nat} {lv : List (Nat × Value)} {st : List Value} {ws : va_W} {a b : Nat} (hd : decode cc pc = .ok (.iadd, 1)) (g : V x G nL n1 n2 (pc + 1) lv (.int (nI (a + b)) :: st) ws) : V x G nL n1 n2 pc lv (.int (nI b) :: .int (nI a) :: st) ws := by
  obtain ⟨p, l, e, R, s, m, args, below, meth, c, Q, A⟩ := x
  obtain ⟨hx, hb, hml, hts, hown, hKS, hA, hR, hnm⟩ := O
  intro H locs ls hP hD hS hl
  exact lv_iadd hx hb hd (by rw [nI_add]; exact g H locs ls hP hD hS hl)
theorem k_imulN {x : Cx} {G : Gx} {nL : Nat} {cc : ByteArray} {Ts : List Cond} {y0 : MethodName} {rm : Room} (O : Okx x G nL cc Ts y0 rm) {n1 n2 pc : Nat} {lv : List (Nat × Value)} {st : List Value} {ws : va_W} {a b : Nat} (hd : decode cc pc = .ok (.imul, 1)) (g : V x G nL n1 n2 (pc + 1) lv (.int (nI (a * b)) :: st) ws) : V x G nL n1 n2 pc lv (.int (nI b) :: .int (nI a) :: st) ws := by
  obtain ⟨p, l, e, R, s, m, args, below, meth, c, Q, A⟩ := x
  obtain ⟨hx, hb, hml, hts, hown, hKS, hA, hR, hnm⟩ := O
  intro H locs ls hP hD hS hl
  exact lv_imul hx hb hd (by rw [pk_mul]; exact g H locs ls hP hD hS hl)
theorem k_isubN {x : Cx} {G : Gx} {nL : Nat} {cc : ByteArray} {Ts : List Cond} {y0 : MethodName} {rm : Room} (O : Okx x G nL cc Ts y0 rm) {n1 n2 pc : Nat} {lv : List (Nat × Value)} {st : List Value} {ws : va_W} {a b : Nat} (hd : decode cc pc = .ok (.isub, 1)) (h : b ≤ a) (g : V x G nL n1 n2 (pc + 1) lv (.int (nI (a - b)) :: st) ws) : V x G nL n1 n2 pc lv (.int (nI b) :: .int (nI a) :: st) ws := by
  obtain ⟨p, l, e, R, s, m, args, below, meth, c, Q, A⟩ := x
  obtain ⟨hx, hb, hml, hts, hown, hKS, hA, hR, hnm⟩ := O
  intro H locs ls hP hD hS hl
  exact lv_isub hx hb hd (by rw [pk_sub h]; exact g H locs ls hP hD hS hl)
theorem k_idivN {x : Cx} {G : Gx} {nL : Nat} {cc : ByteArray} {Ts : List Cond} {y0 : MethodName} {rm : Room} (O : Okx x G nL cc Ts y0 rm) {n1 n2 pc : Nat} {lv : List (Nat × Value)} {st : List Value} {ws : va_W} {a b : Nat} (hd : decode cc pc = .ok (.idiv, 1)) (ha : a < 2147483648) (h0 : 0 < b) (hb2 : b < 2147483648) (g : V x G nL n1 n2 (pc + 1) lv (.int (nI (a / b)) :: st) ws) : V x G nL n1 n2 pc lv (.int (nI b) :: .int (nI a) :: st) ws := by
  obtain ⟨p, l, e, R, s, m, args, below, meth, c, Q, A⟩ := x
  obtain ⟨hx, hb, hml, hts, hown, hKS, hA, hR, hnm⟩ := O
  intro H locs ls hP hD hS hl
  exact lv_idiv hx hb hd (nI_ne0 h0 hb2) (by rw [pk_div ha h0 hb2]; exact g H locs ls hP hD hS hl)
theorem k_iremN {x : Cx} {G : Gx} {nL : Nat} {cc : ByteArray} {Ts : List Cond} {y0 : MethodName} {rm : Room} (O : Okx x G nL cc Ts y0 rm) {n1 n2 pc : Nat} {lv : List (Nat × Value)} {st : List Value} {ws : va_W} {a b : Nat} (hd : decode cc pc = .ok (.irem, 1)) (ha : a < 2147483648) (h0 : 0 < b) (hb2 : b < 2147483648) (g : V x G nL n1 n2 (pc + 1) lv (.int (nI (a % b)) :: st) ws) : V x G nL n1 n2 pc lv (.int (nI b) :: .int (nI a) :: st) ws := by
  obtain ⟨p, l, e, R, s, m, args, below, meth, c, Q, A⟩ := x
  obtain ⟨hx, hb, hml, hts, hown, hKS, hA, hR, hnm⟩ := O
  intro H locs ls hP hD hS hl
  exact lv_irem hx hb hd (nI_ne0 h0 hb2) (by rw [pk_rem ha h0 hb2]; exact g H locs ls hP hD hS hl)
theorem k_top {x : Cx} {G : Gx} {nL n1 n2 pc : Nat} {lv : List (Nat × Value)} {st : List Value} {ws : va_W} {v : Int32} (w : Int32) (h : v = w) (g : V x G nL n1 n2 pc lv (.int w :: st) ws) : V x G nL n1 n2 pc lv (.int v :: st) ws := h ▸ g
theorem k_topl {x : Cx} {G : Gx} {nL n1 n2 pc : Nat} {lv : List (Nat × Value)} {st : List Value} {ws : va_W} {v : Int64} (w : Int64) (h : v = w) (g : V x G nL n1 n2 pc lv (.long w :: st) ws) : V x G nL n1 n2 pc lv (.long v :: st) ws := h ▸ g
theorem nI_int {n : Nat} (h : n < 2147483648) : (nI n).toInt = (n : Int) := nI_toInt h
theorem k_icmp_eq {x : Cx} {G : Gx} {nL : Nat} {cc : ByteArray} {Ts : List Cond} {y0 : MethodName} {rm : Room} (O : Okx x G nL cc Ts y0 rm) {n1 n2 pc : Nat} {lv : List (Nat × Value)} {st : List Value} {ws : va_W} {a b : Int32} {off : Int} (tgt : Nat) (hd : decode cc pc = .ok (.if_icmp .eq off, 3)) (ht : (pc : Int) + off = (tgt : Int)) (kt : a = b → V x G nL n1 n2 tgt lv st ws) (kf : ¬ a = b → V x G nL n1 n2 (pc + 3) lv st ws) : V x G nL n1 n2 pc lv (.int b :: .int a :: st) ws := by
  obtain ⟨p, l, e, R, s, m, args, below, meth, c, Q, A⟩ := x
  obtain ⟨hx, hb, hml, hts, hown, hKS, hA, hR, hnm⟩ := O
  intro H locs ls hP hD hS hl
  exact lv_icmp_eq hx hb hd ht (fun h => kt h H locs ls hP hD hS hl) (fun h => kf h H locs ls hP hD hS hl)
theorem k_icmp_eqN {x : Cx} {G : Gx} {nL : Nat} {cc : ByteArray} {Ts : List Cond} {y0 : MethodName} {rm : Room} (O : Okx x G nL cc Ts y0 rm) {n1 n2 pc : Nat} {lv : List (Nat × Value)} {st : List Value} {ws : va_W} {a b : Nat} {off : Int} (tgt : Nat) (hd : decode cc pc = .ok (.if_icmp .eq off, 3)) (ht : (pc : Int) + off = (tgt : Int)) (h1 : a < 2147483648) (h2 : b < 2147483648) (kt : a = b → V x G nL n1 n2 tgt lv st ws) (kf : ¬ a = b → V x G nL n1 n2 (pc + 3) lv st ws) : V x G nL n1 n2 pc lv (.int (nI b) :: .int (nI a) :: st) ws := by
  obtain ⟨p, l, e, R, s, m, args, below, meth, c, Q, A⟩ := x
  obtain ⟨hx, hb, hml, hts, hown, hKS, hA, hR, hnm⟩ := O
  intro H locs ls hP hD hS hl
  exact lv_icmp_eq hx hb hd ht (fun h => kt ((nI_eq h1 h2).mp h) H locs ls hP hD hS hl) (fun h => kf (fun z => h ((nI_eq h1 h2).mpr z)) H locs ls hP hD hS hl)
theorem k_if_eq {x : Cx} {G : Gx} {nL : Nat} {cc : ByteArray} {Ts : List Cond} {y0 : MethodName} {rm : Room} (O : Okx x G nL cc Ts y0 rm) {n1 n2 pc : Nat} {lv : List (Nat × Value)} {st : List Value} {ws : va_W} {a : Int32} {off : Int} (tgt : Nat) (hd : decode cc pc = .ok (.ifCond .eq off, 3)) (ht : (pc : Int) + off = (tgt : Int)) (kt : a = 0 → V x G nL n1 n2 tgt lv st ws) (kf : ¬ a = 0 → V x G nL n1 n2 (pc + 3) lv st ws) : V x G nL n1 n2 pc lv (.int a :: st) ws := by
  obtain ⟨p, l, e, R, s, m, args, below, meth, c, Q, A⟩ := x
  obtain ⟨hx, hb, hml, hts, hown, hKS, hA, hR, hnm⟩ := O
  intro H locs ls hP hD hS hl
  exact lv_if_eq hx hb hd ht (fun h => kt h H locs ls hP hD hS hl) (fun h => kf h H locs ls hP hD hS hl)
theorem nI_z {n : Nat} (h1 : n < 2147483648) : nI n = 0 ↔ n = 0 := nI_eq (b := 0) h1 (by decide)
theorem k_if_eqN {x : Cx} {G : Gx} {nL : Nat} {cc : ByteArray} {Ts : List Cond} {y0 : MethodName} {rm : Room} (O : Okx x G nL cc Ts y0 rm) {n1 n2 pc : Nat} {lv : List (Nat × Value)} {st : List Value} {ws : va_W} {a : Nat} {off : Int} (tgt : Nat) (hd : decode cc pc = .ok (.ifCond .eq off, 3)) (ht : (pc : Int) + off = (tgt : Int)) (h1 : a < 2147483648) (kt : a = 0 → V x G nL n1 n2 tgt lv st ws) (kf : 0 < a → V x G nL n1 n2 (pc + 3) lv st ws) : V x G nL n1 n2 pc lv (.int (nI a) :: st) ws := by
  obtain ⟨p, l, e, R, s, m, args, below, meth, c, Q, A⟩ := x
  obtain ⟨hx, hb, hml, hts, hown, hKS, hA, hR, hnm⟩ := O
  intro H locs ls hP hD hS hl
  exact lv_if_eq hx hb hd ht (fun h => kt ((nI_z h1).mp h) H locs ls hP hD hS hl) (fun h => kf (Nat.pos_of_ne_zero (fun z => h ((nI_z h1).mpr z))) H locs ls hP hD hS hl)
theorem k_icmp_ne {x : Cx} {G : Gx} {nL : Nat} {cc : ByteArray} {Ts : List Cond} {y0 : MethodName} {rm : Room} (O : Okx x G nL cc Ts y0 rm) {n1 n2 pc : Nat} {lv : List (Nat × Value)} {st : List Value} {ws : va_W} {a b : Int32} {off : Int} (tgt : Nat) (hd : decode cc pc = .ok (.if_icmp .ne off, 3)) (ht : (pc : Int) + off = (tgt : Int)) (kt : ¬ a = b → V x G nL n1 n2 tgt lv st ws) (kf : a = b → V x G nL n1 n2 (pc + 3) lv st ws) : V x G nL n1 n2 pc lv (.int b :: .int a :: st) ws := by
  obtain ⟨p, l, e, R, s, m, args, below, meth, c, Q, A⟩ := x
  obtain ⟨hx, hb, hml, hts, hown, hKS, hA, hR, hnm⟩ := O
  intro H locs ls hP hD hS hl
  exact lv_icmp_ne hx hb hd ht (fun h => kt h H locs ls hP hD hS hl) (fun h => kf h H locs ls hP hD hS hl)
theorem k_icmp_neN {x : Cx} {G : Gx} {nL : Nat} {cc : ByteArray} {Ts : List Cond} {y0 : MethodName} {rm : Room} (O : Okx x G nL cc Ts y0 rm) {n1 n2 pc : Nat} {lv : List (Nat × Value)} {st : List Value} {ws : va_W} {a b : Nat} {off : Int} (tgt : Nat) (hd : decode cc pc = .ok (.if_icmp .ne off, 3)) (ht : (pc : Int) + off = (tgt : Int)) (h1 : a < 2147483648) (h2 : b < 2147483648) (kt : ¬ a = b → V x G nL n1 n2 tgt lv st ws) (kf : a = b → V x G nL n1 n2 (pc + 3) lv st ws) : V x G nL n1 n2 pc lv (.int (nI b) :: .int (nI a) :: st) ws := by
  obtain ⟨p, l, e, R, s, m, args, below, meth, c, Q, A⟩ := x
  obtain ⟨hx, hb, hml, hts, hown, hKS, hA, hR, hnm⟩ := O
  intro H locs ls hP hD hS hl
  exact lv_icmp_ne hx hb hd ht (fun h => kt (fun z => h ((nI_eq h1 h2).mpr z)) H locs ls hP hD hS hl) (fun h => kf ((nI_eq h1 h2).mp h) H locs ls hP hD hS hl)
theorem k_if_ne {x : Cx} {G : Gx} {nL : Nat} {cc : ByteArray} {Ts : List Cond} {y0 : MethodName} {rm : Room} (O : Okx x G nL cc Ts y0 rm) {n1 n2 pc : Nat} {lv : List (Nat × Value)} {st : List Value} {ws : va_W} {a : Int32} {off : Int} (tgt : Nat) (hd : decode cc pc = .ok (.ifCond .ne off, 3)) (ht : (pc : Int) + off = (tgt : Int)) (kt : ¬ a = 0 → V x G nL n1 n2 tgt lv st ws) (kf : a = 0 → V x G nL n1 n2 (pc + 3) lv st ws) : V x G nL n1 n2 pc lv (.int a :: st) ws := by
  obtain ⟨p, l, e, R, s, m, args, below, meth, c, Q, A⟩ := x
  obtain ⟨hx, hb, hml, hts, hown, hKS, hA, hR, hnm⟩ := O
  intro H locs ls hP hD hS hl
  exact lv_if_ne hx hb hd ht (fun h => kt h H locs ls hP hD hS hl) (fun h => kf h H locs ls hP hD hS hl)
theorem k_if_neN {x : Cx} {G : Gx} {nL : Nat} {cc : ByteArray} {Ts : List Cond} {y0 : MethodName} {rm : Room} (O : Okx x G nL cc Ts y0 rm) {n1 n2 pc : Nat} {lv : List (Nat × Value)} {st : List Value} {ws : va_W} {a : Nat} {off : Int} (tgt : Nat) (hd : decode cc pc = .ok (.ifCond .ne off, 3)) (ht : (pc : Int) + off = (tgt : Int)) (h1 : a < 2147483648) (kt : 0 < a → V x G nL n1 n2 tgt lv st ws) (kf : a = 0 → V x G nL n1 n2 (pc + 3) lv st ws) : V x G nL n1 n2 pc lv (.int (nI a) :: st) ws := by
  obtain ⟨p, l, e, R, s, m, args, below, meth, c, Q, A⟩ := x
  obtain ⟨hx, hb, hml, hts, hown, hKS, hA, hR, hnm⟩ := O
  intro H locs ls hP hD hS hl
  exact lv_if_ne hx hb hd ht (fun h => kt (Nat.pos_of_ne_zero (fun z => h ((nI_z h1).mpr z))) H locs ls hP hD hS hl) (fun h => kf ((nI_z h1).mp h) H locs ls hP hD hS hl)
theorem k_icmp_lt {x : Cx} {G : Gx} {nL : Nat} {cc : ByteArray} {Ts : List Cond} {y0 : MethodName} {rm : Room} (O : Okx x G nL cc Ts y0 rm) {n1 n2 pc : Nat} {lv : List (Nat × Value)} {st : List Value} {ws : va_W} {a b : Int32} {off : Int} (tgt : Nat) (hd : decode cc pc = .ok (.if_icmp .lt off, 3)) (ht : (pc : Int) + off = (tgt : Int)) (kt : a.toInt < b.toInt → V x G nL n1 n2 tgt lv st ws) (kf : b.toInt ≤ a.toInt → V x G nL n1 n2 (pc + 3) lv st ws) : V x G nL n1 n2 pc lv (.int b :: .int a :: st) ws := by
  obtain ⟨p, l, e, R, s, m, args, below, meth, c, Q, A⟩ := x
  obtain ⟨hx, hb, hml, hts, hown, hKS, hA, hR, hnm⟩ := O
  intro H locs ls hP hD hS hl
  exact lv_icmp_lt hx hb hd ht (fun h => kt (by first | exact Int32.lt_iff_toInt_lt.mp h | exact Int32.le_iff_toInt_le.mp h) H locs ls hP hD hS hl) (fun h => kf (by first | (rw [Int32.lt_iff_toInt_lt] at h; omega) | (rw [Int32.le_iff_toInt_le] at h; omega)) H locs ls hP hD hS hl)
theorem k_icmp_ltN {x : Cx} {G : Gx} {nL : Nat} {cc : ByteArray} {Ts : List Cond} {y0 : MethodName} {rm : Room} (O : Okx x G nL cc Ts y0 rm) {n1 n2 pc : Nat} {lv : List (Nat × Value)} {st : List Value} {ws : va_W} {a b : Nat} {off : Int} (tgt : Nat) (hd : decode cc pc = .ok (.if_icmp .lt off, 3)) (ht : (pc : Int) + off = (tgt : Int)) (h1 : a < 2147483648) (h2 : b < 2147483648) (kt : a < b → V x G nL n1 n2 tgt lv st ws) (kf : b ≤ a → V x G nL n1 n2 (pc + 3) lv st ws) : V x G nL n1 n2 pc lv (.int (nI b) :: .int (nI a) :: st) ws := by
  obtain ⟨p, l, e, R, s, m, args, below, meth, c, Q, A⟩ := x
  obtain ⟨hx, hb, hml, hts, hown, hKS, hA, hR, hnm⟩ := O
  intro H locs ls hP hD hS hl
  exact lv_icmp_lt hx hb hd ht (fun h => kt (by rw [Int32.lt_iff_toInt_lt, nI_toInt h1, nI_toInt h2] at h; omega) H locs ls hP hD hS hl) (fun h => kf (by rw [Int32.lt_iff_toInt_lt, nI_toInt h1, nI_toInt h2] at h; omega) H locs ls hP hD hS hl)
theorem k_if_lt {x : Cx} {G : Gx} {nL : Nat} {cc : ByteArray} {Ts : List Cond} {y0 : MethodName} {rm : Room} (O : Okx x G nL cc Ts y0 rm) {n1 n2 pc : Nat} {lv : List (Nat × Value)} {st : List Value} {ws : va_W} {a : Int32} {off : Int} (tgt : Nat) (hd : decode cc pc = .ok (.ifCond .lt off, 3)) (ht : (pc : Int) + off = (tgt : Int)) (kt : a.toInt < 0 → V x G nL n1 n2 tgt lv st ws) (kf : 0 ≤ a.toInt → V x G nL n1 n2 (pc + 3) lv st ws) : V x G nL n1 n2 pc lv (.int a :: st) ws := by
  obtain ⟨p, l, e, R, s, m, args, below, meth, c, Q, A⟩ := x
  obtain ⟨hx, hb, hml, hts, hown, hKS, hA, hR, hnm⟩ := O
  intro H locs ls hP hD hS hl
  have z0 : (0 : Int32).toInt = 0 := rfl
  exact lv_if_lt hx hb hd ht (fun h => kt (by first | (rw [Int32.lt_iff_toInt_lt] at h; omega) | (rw [Int32.le_iff_toInt_le] at h; omega)) H locs ls hP hD hS hl) (fun h => kf (by first | (rw [Int32.lt_iff_toInt_lt] at h; omega) | (rw [Int32.le_iff_toInt_le] at h; omega)) H locs ls hP hD hS hl)
theorem k_icmp_ge {x : Cx} {G : Gx} {nL : Nat} {cc : ByteArray} {Ts : List Cond} {y0 : MethodName} {rm : Room} (O : Okx x G nL cc Ts y0 rm) {n1 n2 pc : Nat} {lv : List (Nat × Value)} {st : List Value} {ws : va_W} {a b : Int32} {off : Int} (tgt : Nat) (hd : decode cc pc = .ok (.if_icmp .ge off, 3)) (ht : (pc : Int) + off = (tgt : Int)) (kt : b.toInt ≤ a.toInt → V x G nL n1 n2 tgt lv st ws) (kf : a.toInt < b.toInt → V x G nL n1 n2 (pc + 3) lv st ws) : V x G nL n1 n2 pc lv (.int b :: .int a :: st) ws := by
  obtain ⟨p, l, e, R, s, m, args, below, meth, c, Q, A⟩ := x
  obtain ⟨hx, hb, hml, hts, hown, hKS, hA, hR, hnm⟩ := O
  intro H locs ls hP hD hS hl
  exact lv_icmp_ge hx hb hd ht (fun h => kt (by first | exact Int32.lt_iff_toInt_lt.mp h | exact Int32.le_iff_toInt_le.mp h) H locs ls hP hD hS hl) (fun h => kf (by first | (rw [Int32.lt_iff_toInt_lt] at h; omega) | (rw [Int32.le_iff_toInt_le] at h; omega)) H locs ls hP hD hS hl)
theorem k_icmp_geN {x : Cx} {G : Gx} {nL : Nat} {cc : ByteArray} {Ts : List Cond} {y0 : MethodName} {rm : Room} (O : Okx x G nL cc Ts y0 rm) {n1 n2 pc : Nat} {lv : List (Nat × Value)} {st : List Value} {ws : va_W} {a b : Nat} {off : Int} (tgt : Nat) (hd : decode cc pc = .ok (.if_icmp .ge off, 3)) (ht : (pc : Int) + off = (tgt : Int)) (h1 : a < 2147483648) (h2 : b < 2147483648) (kt : b ≤ a → V x G nL n1 n2 tgt lv st ws) (kf : a < b → V x G nL n1 n2 (pc + 3) lv st ws) : V x G nL n1 n2 pc lv (.int (nI b) :: .int (nI a) :: st) ws := by
  obtain ⟨p, l, e, R, s, m, args, below, meth, c, Q, A⟩ := x
  obtain ⟨hx, hb, hml, hts, hown, hKS, hA, hR, hnm⟩ := O
  intro H locs ls hP hD hS hl
  exact lv_icmp_ge hx hb hd ht (fun h => kt (by rw [Int32.le_iff_toInt_le, nI_toInt h1, nI_toInt h2] at h; omega) H locs ls hP hD hS hl) (fun h => kf (by rw [Int32.le_iff_toInt_le, nI_toInt h1, nI_toInt h2] at h; omega) H locs ls hP hD hS hl)
theorem k_if_ge {x : Cx} {G : Gx} {nL : Nat} {cc : ByteArray} {Ts : List Cond} {y0 : MethodName} {rm : Room} (O : Okx x G nL cc Ts y0 rm) {n1 n2 pc : Nat} {lv : List (Nat × Value)} {st : List Value} {ws : va_W} {a : Int32} {off : Int} (tgt : Nat) (hd : decode cc pc = .ok (.ifCond .ge off, 3)) (ht : (pc : Int) + off = (tgt : Int)) (kt : 0 ≤ a.toInt → V x G nL n1 n2 tgt lv st ws) (kf : a.toInt < 0 → V x G nL n1 n2 (pc + 3) lv st ws) : V x G nL n1 n2 pc lv (.int a :: st) ws := by
  obtain ⟨p, l, e, R, s, m, args, below, meth, c, Q, A⟩ := x
  obtain ⟨hx, hb, hml, hts, hown, hKS, hA, hR, hnm⟩ := O
  intro H locs ls hP hD hS hl
  have z0 : (0 : Int32).toInt = 0 := rfl
  exact lv_if_ge hx hb hd ht (fun h => kt (by first | (rw [Int32.lt_iff_toInt_lt] at h; omega) | (rw [Int32.le_iff_toInt_le] at h; omega)) H locs ls hP hD hS hl) (fun h => kf (by first | (rw [Int32.lt_iff_toInt_lt] at h; omega) | (rw [Int32.le_iff_toInt_le] at h; omega)) H locs ls hP hD hS hl)
theorem k_icmp_gt {x : Cx} {G : Gx} {nL : Nat} {cc : ByteArray} {Ts : List Cond} {y0 : MethodName} {rm : Room} (O : Okx x G nL cc Ts y0 rm) {n1 n2 pc : Nat} {lv : List (Nat × Value)} {st : List Value} {ws : va_W} {a b : Int32} {off : Int} (tgt : Nat) (hd : decode cc pc = .ok (.if_icmp .gt off, 3)) (ht : (pc : Int) + off = (tgt : Int)) (kt : b.toInt < a.toInt → V x G nL n1 n2 tgt lv st ws) (kf : a.toInt ≤ b.toInt → V x G nL n1 n2 (pc + 3) lv st ws) : V x G nL n1 n2 pc lv (.int b :: .int a :: st) ws := by
  obtain ⟨p, l, e, R, s, m, args, below, meth, c, Q, A⟩ := x
  obtain ⟨hx, hb, hml, hts, hown, hKS, hA, hR, hnm⟩ := O
  intro H locs ls hP hD hS hl
  exact lv_icmp_gt hx hb hd ht (fun h => kt (by first | exact Int32.lt_iff_toInt_lt.mp h | exact Int32.le_iff_toInt_le.mp h) H locs ls hP hD hS hl) (fun h => kf (by first | (rw [Int32.lt_iff_toInt_lt] at h; omega) | (rw [Int32.le_iff_toInt_le] at h; omega)) H locs ls hP hD hS hl)
theorem k_icmp_gtN {x : Cx} {G : Gx} {nL : Nat} {cc : ByteArray} {Ts : List Cond} {y0 : MethodName} {rm : Room} (O : Okx x G nL cc Ts y0 rm) {n1 n2 pc : Nat} {lv : List (Nat × Value)} {st : List Value} {ws : va_W} {a b : Nat} {off : Int} (tgt : Nat) (hd : decode cc pc = .ok (.if_icmp .gt off, 3)) (ht : (pc : Int) + off = (tgt : Int)) (h1 : a < 2147483648) (h2 : b < 2147483648) (kt : b < a → V x G nL n1 n2 tgt lv st ws) (kf : a ≤ b → V x G nL n1 n2 (pc + 3) lv st ws) : V x G nL n1 n2 pc lv (.int (nI b) :: .int (nI a) :: st) ws := by
  obtain ⟨p, l, e, R, s, m, args, below, meth, c, Q, A⟩ := x
  obtain ⟨hx, hb, hml, hts, hown, hKS, hA, hR, hnm⟩ := O
  intro H locs ls hP hD hS hl
  exact lv_icmp_gt hx hb hd ht (fun h => kt (by rw [Int32.lt_iff_toInt_lt, nI_toInt h1, nI_toInt h2] at h; omega) H locs ls hP hD hS hl) (fun h => kf (by rw [Int32.lt_iff_toInt_lt, nI_toInt h1, nI_toInt h2] at h; omega) H locs ls hP hD hS hl)
theorem k_if_gt {x : Cx} {G : Gx} {nL : Nat} {cc : ByteArray} {Ts : List Cond} {y0 : MethodName} {rm : Room} (O : Okx x G nL cc Ts y0 rm) {n1 n2 pc : Nat} {lv : List (Nat × Value)} {st : List Value} {ws : va_W} {a : Int32} {off : Int} (tgt : Nat) (hd : decode cc pc = .ok (.ifCond .gt off, 3)) (ht : (pc : Int) + off = (tgt : Int)) (kt : 0 < a.toInt → V x G nL n1 n2 tgt lv st ws) (kf : a.toInt ≤ 0 → V x G nL n1 n2 (pc + 3) lv st ws) : V x G nL n1 n2 pc lv (.int a :: st) ws := by
  obtain ⟨p, l, e, R, s, m, args, below, meth, c, Q, A⟩ := x
  obtain ⟨hx, hb, hml, hts, hown, hKS, hA, hR, hnm⟩ := O
  intro H locs ls hP hD hS hl
  have z0 : (0 : Int32).toInt = 0 := rfl
  exact lv_if_gt hx hb hd ht (fun h => kt (by first | (rw [Int32.lt_iff_toInt_lt] at h; omega) | (rw [Int32.le_iff_toInt_le] at h; omega)) H locs ls hP hD hS hl) (fun h => kf (by first | (rw [Int32.lt_iff_toInt_lt] at h; omega) | (rw [Int32.le_iff_toInt_le] at h; omega)) H locs ls hP hD hS hl)
theorem k_if_gtN {x : Cx} {G : Gx} {nL : Nat} {cc : ByteArray} {Ts : List Cond} {y0 : MethodName} {rm : Room} (O : Okx x G nL cc Ts y0 rm) {n1 n2 pc : Nat} {lv : List (Nat × Value)} {st : List Value} {ws : va_W} {a : Nat} {off : Int} (tgt : Nat) (hd : decode cc pc = .ok (.ifCond .gt off, 3)) (ht : (pc : Int) + off = (tgt : Int)) (h1 : a < 2147483648) (kt : 0 < a → V x G nL n1 n2 tgt lv st ws) (kf : a = 0 → V x G nL n1 n2 (pc + 3) lv st ws) : V x G nL n1 n2 pc lv (.int (nI a) :: st) ws := by
  obtain ⟨p, l, e, R, s, m, args, below, meth, c, Q, A⟩ := x
  obtain ⟨hx, hb, hml, hts, hown, hKS, hA, hR, hnm⟩ := O
  intro H locs ls hP hD hS hl
  exact lv_if_gt hx hb hd ht (fun h => kt (by rw [Int32.lt_iff_toInt_lt, nI_toInt h1] at h; have z0 : (0 : Int32).toInt = 0 := rfl; omega) H locs ls hP hD hS hl) (fun h => kf (by rw [Int32.lt_iff_toInt_lt, nI_toInt h1] at h; have z0 : (0 : Int32).toInt = 0 := rfl; omega) H locs ls hP hD hS hl)
theorem k_icmp_le {x : Cx} {G : Gx} {nL : Nat} {cc : ByteArray} {Ts : List Cond} {y0 : MethodName} {rm : Room} (O : Okx x G nL cc Ts y0 rm) {n1 n2 pc : Nat} {lv : List (Nat × Value)} {st : List Value} {ws : va_W} {a b : Int32} {off : Int} (tgt : Nat) (hd : decode cc pc = .ok (.if_icmp .le off, 3)) (ht : (pc : Int) + off = (tgt : Int)) (kt : a.toInt ≤ b.toInt → V x G nL n1 n2 tgt lv st ws) (kf : b.toInt < a.toInt → V x G nL n1 n2 (pc + 3) lv st ws) : V x G nL n1 n2 pc lv (.int b :: .int a :: st) ws := by
  obtain ⟨p, l, e, R, s, m, args, below, meth, c, Q, A⟩ := x
  obtain ⟨hx, hb, hml, hts, hown, hKS, hA, hR, hnm⟩ := O
  intro H locs ls hP hD hS hl
  exact lv_icmp_le hx hb hd ht (fun h => kt (by first | exact Int32.lt_iff_toInt_lt.mp h | exact Int32.le_iff_toInt_le.mp h) H locs ls hP hD hS hl) (fun h => kf (by first | (rw [Int32.lt_iff_toInt_lt] at h; omega) | (rw [Int32.le_iff_toInt_le] at h; omega)) H locs ls hP hD hS hl)
theorem k_icmp_leN {x : Cx} {G : Gx} {nL : Nat} {cc : ByteArray} {Ts : List Cond} {y0 : MethodName} {rm : Room} (O : Okx x G nL cc Ts y0 rm) {n1 n2 pc : Nat} {lv : List (Nat × Value)} {st : List Value} {ws : va_W} {a b : Nat} {off : Int} (tgt : Nat) (hd : decode cc pc = .ok (.if_icmp .le off, 3)) (ht : (pc : Int) + off = (tgt : Int)) (h1 : a < 2147483648) (h2 : b < 2147483648) (kt : a ≤ b → V x G nL n1 n2 tgt lv st ws) (kf : b < a → V x G nL n1 n2 (pc + 3) lv st ws) : V x G nL n1 n2 pc lv (.int (nI b) :: .int (nI a) :: st) ws := by
  obtain ⟨p, l, e, R, s, m, args, below, meth, c, Q, A⟩ := x
  obtain ⟨hx, hb, hml, hts, hown, hKS, hA, hR, hnm⟩ := O
  intro H locs ls hP hD hS hl
  exact lv_icmp_le hx hb hd ht (fun h => kt (by rw [Int32.le_iff_toInt_le, nI_toInt h1, nI_toInt h2] at h; omega) H locs ls hP hD hS hl) (fun h => kf (by rw [Int32.le_iff_toInt_le, nI_toInt h1, nI_toInt h2] at h; omega) H locs ls hP hD hS hl)
theorem k_if_le {x : Cx} {G : Gx} {nL : Nat} {cc : ByteArray} {Ts : List Cond} {y0 : MethodName} {rm : Room} (O : Okx x G nL cc Ts y0 rm) {n1 n2 pc : Nat} {lv : List (Nat × Value)} {st : List Value} {ws : va_W} {a : Int32} {off : Int} (tgt : Nat) (hd : decode cc pc = .ok (.ifCond .le off, 3)) (ht : (pc : Int) + off = (tgt : Int)) (kt : a.toInt ≤ 0 → V x G nL n1 n2 tgt lv st ws) (kf : 0 < a.toInt → V x G nL n1 n2 (pc + 3) lv st ws) : V x G nL n1 n2 pc lv (.int a :: st) ws := by
  obtain ⟨p, l, e, R, s, m, args, below, meth, c, Q, A⟩ := x
  obtain ⟨hx, hb, hml, hts, hown, hKS, hA, hR, hnm⟩ := O
  intro H locs ls hP hD hS hl
  have z0 : (0 : Int32).toInt = 0 := rfl
  exact lv_if_le hx hb hd ht (fun h => kt (by first | (rw [Int32.lt_iff_toInt_lt] at h; omega) | (rw [Int32.le_iff_toInt_le] at h; omega)) H locs ls hP hD hS hl) (fun h => kf (by first | (rw [Int32.lt_iff_toInt_lt] at h; omega) | (rw [Int32.le_iff_toInt_le] at h; omega)) H locs ls hP hD hS hl)
theorem k_if_leN {x : Cx} {G : Gx} {nL : Nat} {cc : ByteArray} {Ts : List Cond} {y0 : MethodName} {rm : Room} (O : Okx x G nL cc Ts y0 rm) {n1 n2 pc : Nat} {lv : List (Nat × Value)} {st : List Value} {ws : va_W} {a : Nat} {off : Int} (tgt : Nat) (hd : decode cc pc = .ok (.ifCond .le off, 3)) (ht : (pc : Int) + off = (tgt : Int)) (h1 : a < 2147483648) (kt : a = 0 → V x G nL n1 n2 tgt lv st ws) (kf : 0 < a → V x G nL n1 n2 (pc + 3) lv st ws) : V x G nL n1 n2 pc lv (.int (nI a) :: st) ws := by
  obtain ⟨p, l, e, R, s, m, args, below, meth, c, Q, A⟩ := x
  obtain ⟨hx, hb, hml, hts, hown, hKS, hA, hR, hnm⟩ := O
  intro H locs ls hP hD hS hl
  exact lv_if_le hx hb hd ht (fun h => kt (by rw [Int32.le_iff_toInt_le, nI_toInt h1] at h; have z0 : (0 : Int32).toInt = 0 := rfl; omega) H locs ls hP hD hS hl) (fun h => kf (by rw [Int32.le_iff_toInt_le, nI_toInt h1] at h; have z0 : (0 : Int32).toInt = 0 := rfl; omega) H locs ls hP hD hS hl)
def bI (b : Bool) : Int32 := if b then nI 1 else nI 0
theorem k_if_eqB {x : Cx} {G : Gx} {nL : Nat} {cc : ByteArray} {Ts : List Cond} {y0 : MethodName} {rm : Room} (O : Okx x G nL cc Ts y0 rm) {n1 n2 pc : Nat} {lv : List (Nat × Value)} {st : List Value} {ws : va_W} {b : Bool} {off : Int} (tgt : Nat) (hd : decode cc pc = .ok (.ifCond .eq off, 3)) (ht : (pc : Int) + off = (tgt : Int)) (kt : b = false → V x G nL n1 n2 tgt lv st ws) (kf : b = true → V x G nL n1 n2 (pc + 3) lv st ws) : V x G nL n1 n2 pc lv (.int (bI b) :: st) ws := by
  obtain ⟨p, l, e, R, s, m, args, below, meth, c, Q, A⟩ := x
  obtain ⟨hx, hb, hml, hts, hown, hKS, hA, hR, hnm⟩ := O
  intro H locs ls hP hD hS hl
  exact lv_if_eq hx hb hd ht (fun h => kt (by cases b; rfl; exact absurd h (by decide)) H locs ls hP hD hS hl) (fun h => kf (by cases b; exact absurd rfl h; rfl) H locs ls hP hD hS hl)
theorem k_if_neB {x : Cx} {G : Gx} {nL : Nat} {cc : ByteArray} {Ts : List Cond} {y0 : MethodName} {rm : Room} (O : Okx x G nL cc Ts y0 rm) {n1 n2 pc : Nat} {lv : List (Nat × Value)} {st : List Value} {ws : va_W} {b : Bool} {off : Int} (tgt : Nat) (hd : decode cc pc = .ok (.ifCond .ne off, 3)) (ht : (pc : Int) + off = (tgt : Int)) (kt : b = true → V x G nL n1 n2 tgt lv st ws) (kf : b = false → V x G nL n1 n2 (pc + 3) lv st ws) : V x G nL n1 n2 pc lv (.int (bI b) :: st) ws := by
  obtain ⟨p, l, e, R, s, m, args, below, meth, c, Q, A⟩ := x
  obtain ⟨hx, hb, hml, hts, hown, hKS, hA, hR, hnm⟩ := O
  intro H locs ls hP hD hS hl
  exact lv_if_ne hx hb hd ht (fun h => kt (by cases b; exact absurd rfl h; rfl) H locs ls hP hD hS hl) (fun h => kf (by cases b; rfl; exact absurd h (by decide)) H locs ls hP hD hS hl)
theorem k_ifnonnull {x : Cx} {G : Gx} {nL : Nat} {cc : ByteArray} {Ts : List Cond} {y0 : MethodName} {rm : Room} (O : Okx x G nL cc Ts y0 rm) {n1 n2 pc : Nat} {lv : List (Nat × Value)} {st : List Value} {ws : va_W} {a : Nat} {off : Int} (tgt : Nat) (hd : decode cc pc = .ok (.ifnonnull off, 3)) (ht : (pc : Int) + off = (tgt : Int)) (g : V x G nL n1 n2 tgt lv st ws) : V x G nL n1 n2 pc lv (.ref a :: st) ws := by
  obtain ⟨p, l, e, R, s, m, args, below, meth, c, Q, A⟩ := x
  obtain ⟨hx, hb, hml, hts, hown, hKS, hA, hR, hnm⟩ := O
  intro H locs ls hP hD hS hl
  exact lv_ifnonnull hx hb hd ht (g H locs ls hP hD hS hl)
theorem k_ifnonnullN {x : Cx} {G : Gx} {nL : Nat} {cc : ByteArray} {Ts : List Cond} {y0 : MethodName} {rm : Room} (O : Okx x G nL cc Ts y0 rm) {n1 n2 pc : Nat} {lv : List (Nat × Value)} {st : List Value} {ws : va_W} {off : Int} (hd : decode cc pc = .ok (.ifnonnull off, 3)) (g : V x G nL n1 n2 (pc + 3) lv st ws) : V x G nL n1 n2 pc lv (.null :: st) ws := by
  obtain ⟨p, l, e, R, s, m, args, below, meth, c, Q, A⟩ := x
  obtain ⟨hx, hb, hml, hts, hown, hKS, hA, hR, hnm⟩ := O
  intro H locs ls hP hD hS hl
  exact lv_ifnonnullN hx hb hd (g H locs ls hP hD hS hl)
theorem k_tableIn {x : Cx} {G : Gx} {nL : Nat} {cc : ByteArray} {Ts : List Cond} {y0 : MethodName} {rm : Room} (O : Okx x G nL cc Ts y0 rm) {n1 n2 pc : Nat} {lv : List (Nat × Value)} {st : List Value} {ws : va_W} {dflt lo hi : Int} {offs : Array Int} {len : Nat} {v : Int32} {off : Int} (tgt : Nat) (hd : decode cc pc = .ok (.tableswitch dflt lo hi offs, len)) (h1 : ¬ v.toInt < lo) (h2 : ¬ hi < v.toInt) (ho : offs[(v.toInt - lo).toNat]? = some off) (ht : (pc : Int) + off = (tgt : Int)) (g : V x G nL n1 n2 tgt lv st ws) : V x G nL n1 n2 pc lv (.int v :: st) ws := by
  obtain ⟨p, l, e, R, s, m, args, below, meth, c, Q, A⟩ := x
  obtain ⟨hx, hb, hml, hts, hown, hKS, hA, hR, hnm⟩ := O
  intro H locs ls hP hD hS hl
  exact lv_tableIn hx hb hd h1 h2 ho ht (g H locs ls hP hD hS hl)
theorem k_tableOut {x : Cx} {G : Gx} {nL : Nat} {cc : ByteArray} {Ts : List Cond} {y0 : MethodName} {rm : Room} (O : Okx x G nL cc Ts y0 rm) {n1 n2 pc : Nat} {lv : List (Nat × Value)} {st : List Value} {ws : va_W} {dflt lo hi : Int} {offs : Array Int} {len : Nat} {v : Int32} (tgt : Nat) (hd : decode cc pc = .ok (.tableswitch dflt lo hi offs, len)) (h : v.toInt < lo ∨ hi < v.toInt) (ht : (pc : Int) + dflt = (tgt : Int)) (g : V x G nL n1 n2 tgt lv st ws) : V x G nL n1 n2 pc lv (.int v :: st) ws := by
  obtain ⟨p, l, e, R, s, m, args, below, meth, c, Q, A⟩ := x
  obtain ⟨hx, hb, hml, hts, hown, hKS, hA, hR, hnm⟩ := O
  intro H locs ls hP hD hS hl
  exact lv_tableOut hx hb hd h ht (g H locs ls hP hD hS hl)
theorem k_get {x : Cx} {G : Gx} {nL : Nat} {cc : ByteArray} {Ts : List Cond} {y0 : MethodName} {rm : Room} (O : Okx x G nL cc Ts y0 rm) {n1 n2 pc : Nat} {lv : List (Nat × Value)} {st : List Value} {ws : va_W} {C : String} {T : u_T} {N ci ix : Nat} {a : Nat} (q0 : Nat) {fs : List Value} (he : ws[q0]? = some (a, cO ci fs)) (hc : vwCl[ci]? = some (C, T, N)) (hin : ∀ w ∈ u_ws C T N, w ∈ Ts) (k : Nat) (hk : Nat.blt k N = true) (hlink : Cond.fieldLink y0.cls ix C (T k).2.1 (T k).2.2.1 ∈ Ts) (hsame : (T k).1 = C) {v : Value} (hv : fs[k]? = some v) (hd : decode cc pc = .ok (.getfield ix, 3)) (g : V x G nL n1 n2 (pc + 3) lv (v :: st) ws) : V x G nL n1 n2 pc lv (.ref a :: st) ws := by
  obtain ⟨p, l, e, R, s, m, args, below, meth, c, Q, A⟩ := x
  obtain ⟨hx, hb, hml, hts, hown, hKS, hA, hR, hnm⟩ := O
  intro H locs ls hP hD hS hl
  exact va_get hx hb hts hin hown hKS.1 hP q0 he hc k (Nat.le_of_ble_eq_true hk) (hts _ hlink) (fun _ h9 => by rw [hsame] at h9; exact h9) hv hd (g H locs ls hP hD hS hl)
theorem k_put {x : Cx} {G : Gx} {nL : Nat} {cc : ByteArray} {Ts : List Cond} {y0 : MethodName} {rm : Room} (O : Okx x G nL cc Ts y0 rm) {n1 n2 pc : Nat} {lv : List (Nat × Value)} {st : List Value} {ws : va_W} {C : String} {T : u_T} {N ci ix : Nat} {a : Nat} (q0 : Nat) {fs : List Value} (he : ws[q0]? = some (a, cO ci fs)) (hc : vwCl[ci]? = some (C, T, N)) (hin : ∀ w ∈ u_ws C T N, w ∈ Ts) (k : Nat) (hk : Nat.blt k N = true) (hlink : Cond.fieldLink y0.cls ix C (T k).2.1 (T k).2.2.1 ∈ Ts) (hsame : (T k).1 = C) (ty0 : Nat → FieldType) (hty : ∀ k, k < N → parseFieldDescriptor (T k).2.2.1 = some (ty0 k)) (hnames : ∀ a, a < N → ∀ b, b < N → a ≠ b → (T a).2.1 ≠ (T b).2.1) (hfin : (T k).2.2.2 = false)  {v : Value} (hn : narrow (ty0 k) v = v) (hfit : fits (ty0 k) v = true) (hlen : Nat.blt k fs.length = true) (ws' : va_W) (hws : ws.set q0 (a, cO ci (fs.set k v)) = ws') (hd : decode cc pc = .ok (.putfield ix, 3)) (g : V x G nL n1 n2 (pc + 3) lv st ws') : V x G nL n1 n2 pc lv (v :: .ref a :: st) ws := by
  obtain ⟨p, l, e, R, s, m, args, below, meth, c, Q, A⟩ := x
  obtain ⟨hx, hb, hml, hts, hown, hKS, hA, hR, hnm⟩ := O
  intro H locs ls hP hD hS hl
  subst hws
  exact va_put hx hb hts hin ty0 hty hnames hown hKS.1 hP hD hS q0 he hc k (Nat.le_of_ble_eq_true hk) (hts _ hlink) (fun _ h9 => by rw [hsame] at h9; exact h9) hfin (hty k (Nat.le_of_ble_eq_true hk)) hn hfit (Nat.le_of_ble_eq_true hlen) hd (fun H locs hP hD hS => g H locs ls hP hD hS hl)
theorem k_putF {x : Cx} {G : Gx} {nL : Nat} {cc : ByteArray} {Ts : List Cond} {y0 : MethodName} {rm : Room} (O : Okx x G nL cc Ts y0 rm) {n1 n2 pc : Nat} {lv : List (Nat × Value)} {st : List Value} {ws : va_W} {C : String} {T : u_T} {N ci ix : Nat} {a : Nat} (q0 : Nat) {fs : List Value} (he : ws[q0]? = some (a, cO ci fs)) (hc : vwCl[ci]? = some (C, T, N)) (hin : ∀ w ∈ u_ws C T N, w ∈ Ts) (k : Nat) (hk : Nat.blt k N = true) (hlink : Cond.fieldLink y0.cls ix C (T k).2.1 (T k).2.2.1 ∈ Ts) (hsame : (T k).1 = C) (ty0 : Nat → FieldType) (hty : ∀ k, k < N → parseFieldDescriptor (T k).2.2.1 = some (ty0 k)) (hnames : ∀ a, a < N → ∀ b, b < N → a ≠ b → (T a).2.1 ≠ (T b).2.1) (hfin : (T k).2.2.2 = true) (hini : y0.name = "<init>") (hdecl : (T k).1 = y0.cls) {v : Value} (hn : narrow (ty0 k) v = v) (hfit : fits (ty0 k) v = true) (hlen : Nat.blt k fs.length = true) (ws' : va_W) (hws : ws.set q0 (a, cO ci (fs.set k v)) = ws') (hd : decode cc pc = .ok (.putfield ix, 3)) (g : V x G nL n1 n2 (pc + 3) lv st ws') : V x G nL n1 n2 pc lv (v :: .ref a :: st) ws := by
  obtain ⟨p, l, e, R, s, m, args, below, meth, c, Q, A⟩ := x
  obtain ⟨hx, hb, hml, hts, hown, hKS, hA, hR, hnm⟩ := O
  intro H locs ls hP hD hS hl
  subst hws
  exact va_putF hx hb hts hin ty0 hty hnames hown hKS.1 hP hD hS q0 he hc k (Nat.le_of_ble_eq_true hk) (hts _ hlink) (fun _ h9 => by rw [hsame] at h9; exact h9) hfin (hnm.trans hini) hdecl (hty k (Nat.le_of_ble_eq_true hk)) hn hfit (Nat.le_of_ble_eq_true hlen) hd (fun H locs hP hD hS => g H locs ls hP hD hS hl)
theorem k_iald {x : Cx} {G : Gx} {nL : Nat} {cc : ByteArray} {Ts : List Cond} {y0 : MethodName} {rm : Room} (O : Okx x G nL cc Ts y0 rm) {n1 n2 pc : Nat} {lv : List (Nat × Value)} {st : List Value} {ws : va_W} {a n : Nat} {f : Nat → Int32} (q0 : Nat) (he : ws[q0]? = some (a, cI G n f)) {i : Nat} (hi : i < n) (hn : n < 2147483648) (hd : decode cc pc = .ok (.iaload, 1)) (g : V x G nL n1 n2 (pc + 1) lv (.int (f i) :: st) ws) : V x G nL n1 n2 pc lv (.int (nI i) :: .ref a :: st) ws := by
  obtain ⟨p, l, e, R, s, m, args, below, meth, c, Q, A⟩ := x
  obtain ⟨hx, hb, hml, hts, hown, hKS, hA, hR, hnm⟩ := O
  intro H locs ls hP hD hS hl
  exact va_iald hx hb hKS.1 hP q0 0 he rfl (vp_in_nI hi hn) hd (by rw [nI_clamp (Nat.lt_trans hi hn)]; exact g H locs ls hP hD hS hl)
theorem k_iast {x : Cx} {G : Gx} {nL : Nat} {cc : ByteArray} {Ts : List Cond} {y0 : MethodName} {rm : Room} (O : Okx x G nL cc Ts y0 rm) {n1 n2 pc : Nat} {lv : List (Nat × Value)} {st : List Value} {ws : va_W} {a n : Nat} {f : Nat → Int32} (q0 : Nat) (he : ws[q0]? = some (a, cI G n f)) {i : Nat} {v : Int32} (hi : i < n) (hn : n < 2147483648) (ws' : va_W) (hws : ws.set q0 (a, cI G n (upd f i v)) = ws') (hd : decode cc pc = .ok (.iastore, 1)) (g : V x G nL n1 n2 (pc + 1) lv st ws') : V x G nL n1 n2 pc lv (.int v :: .int (nI i) :: .ref a :: st) ws := by
  obtain ⟨p, l, e, R, s, m, args, below, meth, c, Q, A⟩ := x
  obtain ⟨hx, hb, hml, hts, hown, hKS, hA, hR, hnm⟩ := O
  intro H locs ls hP hD hS hl
  subst hws
  refine va_iast hx hb hKS.1 hP hD hS q0 0 he rfl (vp_in_nI hi hn) hd (fun H locs hP hD hS => ?_)
  rw [nI_clamp (Nat.lt_trans hi hn)] at hP hD
  exact g H locs ls hP hD hS hl
theorem k_zald {x : Cx} {G : Gx} {nL : Nat} {cc : ByteArray} {Ts : List Cond} {y0 : MethodName} {rm : Room} (O : Okx x G nL cc Ts y0 rm) {n1 n2 pc : Nat} {lv : List (Nat × Value)} {st : List Value} {ws : va_W} {a n : Nat} {f : Nat → Int32} (q0 : Nat) (he : ws[q0]? = some (a, cZ G n f)) {i : Nat} (hi : i < n) (hn : n < 2147483648) (hd : decode cc pc = .ok (.baload, 1)) (g : V x G nL n1 n2 (pc + 1) lv (.int (f i) :: st) ws) : V x G nL n1 n2 pc lv (.int (nI i) :: .ref a :: st) ws := by
  obtain ⟨p, l, e, R, s, m, args, below, meth, c, Q, A⟩ := x
  obtain ⟨hx, hb, hml, hts, hown, hKS, hA, hR, hnm⟩ := O
  intro H locs ls hP hD hS hl
  exact va_zald hx hb hKS.1 hP q0 1 he rfl (vp_in_nI hi hn) hd (by rw [nI_clamp (Nat.lt_trans hi hn)]; exact g H locs ls hP hD hS hl)
theorem k_alen {x : Cx} {G : Gx} {nL : Nat} {cc : ByteArray} {Ts : List Cond} {y0 : MethodName} {rm : Room} (O : Okx x G nL cc Ts y0 rm) {n1 n2 pc : Nat} {lv : List (Nat × Value)} {st : List Value} {ws : va_W} {a : Nat} {ci : ClassId} {q : vp_A} (q0 t0 : Nat) (he : ws[q0]? = some (a, .inl (ci, q))) {ty : FieldType} (ht : (tyL G)[t0]? = some (ci, ty)) (hd : decode cc pc = .ok (.arraylength, 1)) (g : V x G nL n1 n2 (pc + 1) lv (.int (nI q.1) :: st) ws) : V x G nL n1 n2 pc lv (.ref a :: st) ws := by
  obtain ⟨p, l, e, R, s, m, args, below, meth, c, Q, A⟩ := x
  obtain ⟨hx, hb, hml, hts, hown, hKS, hA, hR, hnm⟩ := O
  intro H locs ls hP hD hS hl
  exact va_alen hx hb hKS.1 hP q0 t0 he ht rfl hd (g H locs ls hP hD hS hl)
theorem k_aald {x : Cx} {G : Gx} {nL : Nat} {cc : ByteArray} {Ts : List Cond} {y0 : MethodName} {rm : Room} (O : Okx x G nL cc Ts y0 rm) {n1 n2 pc : Nat} {lv : List (Nat × Value)} {st : List Value} {ws : va_W} {a n : Nat} {f : Nat → Option Nat} (q0 : Nat) (he : ws[q0]? = some (a, cQ G n f)) {i : Nat} (hi : i < n) (hn : n < 2147483648) (hd : decode cc pc = .ok (.aaload, 1)) (g : V x G nL n1 n2 (pc + 1) lv (va_rf (f i) :: st) ws) : V x G nL n1 n2 pc lv (.int (nI i) :: .ref a :: st) ws := by
  obtain ⟨p, l, e, R, s, m, args, below, meth, c, Q, A⟩ := x
  obtain ⟨hx, hb, hml, hts, hown, hKS, hA, hR, hnm⟩ := O
  intro H locs ls hP hD hS hl
  exact va_aldq hx hb hKS.1 hP q0 2 he rfl (vp_in_nI hi hn) hd (by rw [nI_clamp (Nat.lt_trans hi hn)]; exact g H locs ls hP hD hS hl)
theorem k_aast {x : Cx} {G : Gx} {nL : Nat} {cc : ByteArray} {Ts : List Cond} {y0 : MethodName} {rm : Room} (O : Okx x G nL cc Ts y0 rm) {n1 n2 pc : Nat} {lv : List (Nat × Value)} {st : List Value} {ws : va_W} {a n v : Nat} {f : Nat → Option Nat} (q0 qk : Nat) (he : ws[q0]? = some (a, cQ G n f)) {vs : List Value} (hv : ws[qk]? = some (v, cO 1 vs)) {i : Nat} (hi : i < n) (hn : n < 2147483648) (ws' : va_W) (hws : ws.set q0 (a, cQ G n (va_up f i (some v))) = ws') (hd : decode cc pc = .ok (.aastore, 1)) (g : V x G nL n1 n2 (pc + 1) lv st ws') : V x G nL n1 n2 pc lv (.ref v :: .int (nI i) :: .ref a :: st) ws := by
  obtain ⟨p, l, e, R, s, m, args, below, meth, c, Q, A⟩ := x
  obtain ⟨hx, hb, hml, hts, hown, hKS, hA, hR, hnm⟩ := O
  intro H locs ls hP hD hS hl
  subst hws
  refine va_astq hx hb hKS.1 hP hD hS q0 2 qk 1 (r := (RX1, TX1, 11)) he rfl hv rfl (vp_in_nI hi hn) hd (fun H locs hP hD hS => ?_)
  rw [nI_clamp (Nat.lt_trans hi hn)] at hP hD
  exact g H locs ls hP hD hS hl
theorem k_newa {x : Cx} {G : Gx} {nL : Nat} {cc : ByteArray} {Ts : List Cond} {y0 : MethodName} {rm : Room} (O : Okx x G nL cc Ts y0 rm) {n1 n2 pc : Nat} {lv : List (Nat × Value)} {st : List Value} {ws : va_W} {n : Nat} (hd : decode cc pc = .ok (.newarray .int, 2)) (harr : Cond.arrayClass .int ∈ Ts) (hn : Nat.ble n 1000 = true) (hf : n1 + 1 ≤ rm.cells ∧ n2 + n ≤ rm.slots) (g : ∀ q : Nat, V x G nL (n1 + 1) (n2 + n) (pc + 2) lv (.ref q :: st) (ws ++ [(q, cI G n (fun _ => nI 0))])) : V x G nL n1 n2 pc lv (.int (nI n) :: st) ws := by
  obtain ⟨p, l, e, R, s, m, args, below, meth, c, Q, A⟩ := x
  obtain ⟨hx, hb, hml, hts, hown, hKS, hA, hR, hnm⟩ := O
  intro H locs ls hP hD hS hl
  subst hR
  have hn2 := Nat.le_of_ble_eq_true hn
  refine va_newa (atype := .int) (ty := .int) (N' := n) (a0 := (n, .inl (fun _ => nI 0))) hx hb (hts _ harr) rfl hKS.1 hP hD hS hA (fun cA => rfl) (nI_pos (by omega)) (nI_clamp (by omega)) (by show n * 4 ≤ _; omega) hf.1 hf.2 hd (fun q cA H1 hK1 hP1 hD1 hS1 => ?_)
  have e1 : s.vm.findClass _ = some cA := (hK1.2 3 (cA, .int) rfl).2
  have e2 : s.vm.findClass _ = some G.2.1 := (hKS.1.2 0 (G.2.1, .int) rfl).2
  have e3 : cA = G.2.1 := Option.some.inj (e1.symm.trans e2)
  subst e3
  exact g q H1 locs ls hP1 hD1 hS1 hl
theorem k_newz {x : Cx} {G : Gx} {nL : Nat} {cc : ByteArray} {Ts : List Cond} {y0 : MethodName} {rm : Room} (O : Okx x G nL cc Ts y0 rm) {n1 n2 pc : Nat} {lv : List (Nat × Value)} {st : List Value} {ws : va_W} {n : Nat} (hd : decode cc pc = .ok (.newarray .boolean, 2)) (harr : Cond.arrayClass .boolean ∈ Ts) (hn : Nat.ble n 1000 = true) (hf : n1 + 1 ≤ rm.cells ∧ n2 + n ≤ rm.slots) (g : ∀ q : Nat, V x G nL (n1 + 1) (n2 + n) (pc + 2) lv (.ref q :: st) (ws ++ [(q, cZ G n (fun _ => nI 0))])) : V x G nL n1 n2 pc lv (.int (nI n) :: st) ws := by
  obtain ⟨p, l, e, R, s, m, args, below, meth, c, Q, A⟩ := x
  obtain ⟨hx, hb, hml, hts, hown, hKS, hA, hR, hnm⟩ := O
  intro H locs ls hP hD hS hl
  subst hR
  have hn2 := Nat.le_of_ble_eq_true hn
  refine va_newa (atype := .boolean) (ty := .boolean) (N' := n) (a0 := (n, .inl (fun _ => nI 0))) hx hb (hts _ harr) rfl hKS.1 hP hD hS hA (fun cA => rfl) (nI_pos (by omega)) (nI_clamp (by omega)) (by show n * 1 ≤ _; omega) hf.1 hf.2 hd (fun q cA H1 hK1 hP1 hD1 hS1 => ?_)
  have e1 : s.vm.findClass _ = some cA := (hK1.2 3 (cA, .boolean) rfl).2
  have e2 : s.vm.findClass _ = some G.2.2.1 := (hKS.1.2 1 (G.2.2.1, .boolean) rfl).2
  have e3 : cA = G.2.2.1 := Option.some.inj (e1.symm.trans e2)
  subst e3
  exact g q H1 locs ls hP1 hD1 hS1 hl
theorem k_newq {x : Cx} {G : Gx} {nL : Nat} {cc : ByteArray} {Ts : List Cond} {y0 : MethodName} {rm : Room} (O : Okx x G nL cc Ts y0 rm) {n1 n2 pc : Nat} {lv : List (Nat × Value)} {st : List Value} {ws : va_W} {n ix : Nat} (hd : decode cc pc = .ok (.anewarray ix, 3)) (hlink : Cond.classLink y0.cls ix "LieBridges$Delta" ∈ Ts) (hn : Nat.ble n 1000 = true) (hf : n1 + 1 ≤ rm.cells ∧ n2 + n ≤ rm.slots) (g : ∀ q : Nat, V x G nL (n1 + 1) (n2 + n) (pc + 3) lv (.ref q :: st) (ws ++ [(q, cQ G n (fun _ => none))])) : V x G nL n1 n2 pc lv (.int (nI n) :: st) ws := by
  obtain ⟨p, l, e, R, s, m, args, below, meth, c, Q, A⟩ := x
  obtain ⟨hx, hb, hml, hts, hown, hKS, hA, hR, hnm⟩ := O
  intro H locs ls hP hD hS hl
  subst hR
  have hn2 := Nat.le_of_ble_eq_true hn
  refine va_newq (C := "LieBridges$Delta") (N' := n) hx hb hown (hts _ hlink) hKS.2.2 hKS.1 hP hD hS hA (nI_pos (by omega)) (nI_clamp (by omega)) (by omega) hf.1 hf.2 hd (fun q cA H1 hK1 hP1 hD1 hS1 => ?_)
  obtain ⟨_, _, _, _, _, e1⟩ := (hK1.2 3 (cA, .object "LieBridges$Delta") rfl).2
  obtain ⟨_, _, _, _, _, e2⟩ := (hKS.1.2 2 (G.2.2.2, .object "LieBridges$Delta") rfl).2
  have e3 : cA = G.2.2.2 := Option.some.inj (e1.symm.trans e2)
  subst e3
  exact g q H1 locs ls hP1 hD1 hS1 hl
theorem k_new {x : Cx} {G : Gx} {nL : Nat} {cc : ByteArray} {Ts : List Cond} {y0 : MethodName} {rm : Room} (O : Okx x G nL cc Ts y0 rm) {n1 n2 pc : Nat} {lv : List (Nat × Value)} {st : List Value} {ws : va_W} {C : String} {T : u_T} {N ci ix : Nat} (hc : vwCl[ci]? = some (C, T, N)) (hin : ∀ w ∈ u_ws C T N, w ∈ Ts) (ty0 : Nat → FieldType) (hty : ∀ k, k < N → parseFieldDescriptor (T k).2.2.1 = some (ty0 k)) (hcl : Cond.classLink y0.cls ix C ∈ Ts) (hinst : Cond.instantiable C N ∈ Ts) (hini : Cond.initialized C ∈ Ts) (fs : List Value) (hfs : ∀ j, j < N → defaultValue (ty0 j) = vp_V fs j) (hf : n1 + 1 ≤ rm.cells ∧ n2 + N ≤ rm.slots) (hd : decode cc pc = .ok (.new ix, 3)) (g : ∀ q : Nat, V x G nL (n1 + 1) (n2 + N) (pc + 3) lv (.ref q :: st) (ws ++ [(q, cO ci fs)])) : V x G nL n1 n2 pc lv st ws := by
  obtain ⟨p, l, e, R, s, m, args, below, meth, c, Q, A⟩ := x
  obtain ⟨hx, hb, hml, hts, hown, hKS, hA, hR, hnm⟩ := O
  intro H locs ls hP hD hS hl
  subst hR
  exact va_new hx hb hts hin ty0 hty hown (hts _ hcl) (hts _ hinst) (hts _ hini) hKS.1 hP hD hS hA hc hfs hf.1 hf.2 hd (fun q H1 hP1 hD1 hS1 => g q H1 locs ls hP1 hD1 hS1 hl)
theorem k_objInit {x : Cx} {G : Gx} {nL : Nat} {cc : ByteArray} {Ts : List Cond} {y0 : MethodName} {rm : Room} (O : Okx x G nL cc Ts y0 rm) {n1 n2 pc : Nat} {lv : List (Nat × Value)} {st : List Value} {ws : va_W} {a ix : Nat} (hlink : Cond.methodLink y0.cls ix objectInit ∈ Ts) (hinst : Cond.instanceMethod objectInit ∈ Ts) (hcode : Cond.code objectInit ⟨#[0xb1]⟩ 1 none ∈ Ts) (hd : decode cc pc = .ok (.invokespecial ix, 3)) (hf : 1 ≤ rm.frames) (hlo : (st.map fun v => v.category).sum + 12 ≤ rm.locals) (g : V x G nL n1 n2 (pc + 3) lv st ws) : V x G nL n1 n2 pc lv (.ref a :: st) ws := by
  obtain ⟨p, l, e, R, s, m, args, below, meth, c, Q, A⟩ := x
  obtain ⟨hx, hb, hml, hts, hown, hKS, hA, hR, hnm⟩ := O
  intro H locs ls hP hD hS hl
  subst hR
  refine W.objInit hx hb hown (hts _ hlink) (hts _ hinst) (hts _ hcode) rfl (hl.1.trans hml.symm) rfl hd hf (by show 2 * 0 + _ + 12 ≤ _; omega) ?_
  exact g H locs ls hP hD hS hl
theorem k_iret {x : Cx} {G : Gx} {nL : Nat} {cc : ByteArray} {Ts : List Cond} {y0 : MethodName} {rm : Room} (O : Okx x G nL cc Ts y0 rm) {wc : va_W} {post : Option Value → va_W → va_W → Prop} {mc ms : Nat} (Rt : Rtx x G wc post mc ms (some .int)) {n1 n2 pc : Nat} {lv : List (Nat × Value)} {ws wb : va_W} {v : Int32} (hd : decode cc pc = .ok (.ireturn, 1)) (h1 : n1 ≤ mc) (h2 : n2 ≤ ms) (hm : ws.map (fun q => q.1) = wc.map (fun q => q.1)) (hp : post (some (.int v)) ws wb) : V x G nL n1 n2 pc lv [.int v] (ws ++ wb) := by
  obtain ⟨p, l, e, R, s, m, args, below, meth, c, Q, A⟩ := x
  obtain ⟨hx, hb, -⟩ := O
  obtain ⟨rfl, hr, hlk⟩ := Rt
  intro H locs ls hP hD hS hl
  refine W.widen h1 h2 ?_
  exact W.iret (v := v) hx hb hr (fun t ht hW => ⟨⟨_, ws, wb, rfl, hp, hm, by rw [ht]; exact hP, hD⟩, hS.F ht⟩) hS.2.2 hd hlk
theorem k_lret {x : Cx} {G : Gx} {nL : Nat} {cc : ByteArray} {Ts : List Cond} {y0 : MethodName} {rm : Room} (O : Okx x G nL cc Ts y0 rm) {wc : va_W} {post : Option Value → va_W → va_W → Prop} {mc ms : Nat} (Rt : Rtx x G wc post mc ms (some .long)) {n1 n2 pc : Nat} {lv : List (Nat × Value)} {ws wb : va_W} {v : Int64} (hd : decode cc pc = .ok (.lreturn, 1)) (h1 : n1 ≤ mc) (h2 : n2 ≤ ms) (hm : ws.map (fun q => q.1) = wc.map (fun q => q.1)) (hp : post (some (.long v)) ws wb) : V x G nL n1 n2 pc lv [.long v] (ws ++ wb) := by
  obtain ⟨p, l, e, R, s, m, args, below, meth, c, Q, A⟩ := x
  obtain ⟨hx, hb, -⟩ := O
  obtain ⟨rfl, hr, hlk⟩ := Rt
  intro H locs ls hP hD hS hl
  refine W.widen h1 h2 ?_
  exact W.lret (v := v) hx hb hr (fun t ht hW => ⟨⟨_, ws, wb, rfl, hp, hm, by rw [ht]; exact hP, hD⟩, hS.F ht⟩) hS.2.2 hd hlk
theorem k_zret {x : Cx} {G : Gx} {nL : Nat} {cc : ByteArray} {Ts : List Cond} {y0 : MethodName} {rm : Room} (O : Okx x G nL cc Ts y0 rm) {wc : va_W} {post : Option Value → va_W → va_W → Prop} {mc ms : Nat} (Rt : Rtx x G wc post mc ms (some .boolean)) {n1 n2 pc : Nat} {lv : List (Nat × Value)} {ws wb : va_W} {v : Int32} (hd : decode cc pc = .ok (.ireturn, 1)) (hn : narrow .boolean (.int v) = .int v) (h1 : n1 ≤ mc) (h2 : n2 ≤ ms) (hm : ws.map (fun q => q.1) = wc.map (fun q => q.1)) (hp : post (some (.int v)) ws wb) : V x G nL n1 n2 pc lv [.int v] (ws ++ wb) := by
  obtain ⟨p, l, e, R, s, m, args, below, meth, c, Q, A⟩ := x
  obtain ⟨hx, hb, -⟩ := O
  obtain ⟨rfl, hr, hlk⟩ := Rt
  intro H locs ls hP hD hS hl
  refine W.widen h1 h2 ?_
  exact W.zret (v := v) hx hb hr hn (fun t ht hW => ⟨⟨_, ws, wb, rfl, hp, hm, by rw [ht]; exact hP, hD⟩, hS.F ht⟩) hS.2.2 hd hlk
theorem k_vret {x : Cx} {G : Gx} {nL : Nat} {cc : ByteArray} {Ts : List Cond} {y0 : MethodName} {rm : Room} (O : Okx x G nL cc Ts y0 rm) {wc : va_W} {post : Option Value → va_W → va_W → Prop} {mc ms : Nat} (Rt : Rtx x G wc post mc ms none) {n1 n2 pc : Nat} {lv : List (Nat × Value)} {ws wb : va_W} (hd : decode cc pc = .ok (.return_, 1)) (h1 : n1 ≤ mc) (h2 : n2 ≤ ms) (hm : ws.map (fun q => q.1) = wc.map (fun q => q.1)) (hp : post none ws wb) : V x G nL n1 n2 pc lv [] (ws ++ wb) := by
  obtain ⟨p, l, e, R, s, m, args, below, meth, c, Q, A⟩ := x
  obtain ⟨hx, hb, -⟩ := O
  obtain ⟨rfl, hr, hlk⟩ := Rt
  intro H locs ls hP hD hS hl
  refine W.widen h1 h2 ?_
  exact W.vret hx hb hr (fun t ht hW => ⟨⟨_, ws, wb, rfl, hp, hm, by rw [ht]; exact hP, hD⟩, hS.F ht⟩) hS.2.2 hd hlk
theorem bI_nar (b : Bool) : narrow .boolean (.int (bI b)) = .int (bI b) := by cases b <;> decide
theorem k_callS {x : Cx} {G : Gx} {nL : Nat} {cc : ByteArray} {Ts : List Cond} {y0 : MethodName} {rm : Room} (O : Okx x G nL cc Ts y0 rm) {n1 n2 pc : Nat} {lv : List (Nat × Value)} {ws : va_W} {y : MethodName} {wsy ws' : List Cond} {rmy : Room} {cy : ByteArray} {nLy : Nat} {ret : Option FieldType} {As rest st0 : List Value} {wc : va_W} {post : Option Value → va_W → va_W → Prop} {mc ms ix : Nat}  (isC : List Nat) (n : Nat) (hw : wsy = Cond.code y cy nLy ret :: ws') (hrc : rmy.cells = mc) (hrs : rmy.slots = ms) (hM : CtN G y wsy rmy As wc post mc ms) (hR : Nat.ble (rmy.frames + 1) rm.frames = true ∧ Nat.ble (8 + (nLy + 11) + rmy.locals) rm.locals = true) (hn : As.length = n) (hnd : va_nd isC = true) (hT : GoodIn Ts (va_wsS y0.cls ix y wsy)) (hyc : y.cls ≠ "java/lang/invoke/MethodHandle" ∧ y.cls ≠ "java/lang/invoke/VarHandle" ∧ (parseMethodDescriptor y.desc).map (fun d => d.parameters.length) = some n) (hst : st0 = As.reverse ++ rest) (hd : decode cc pc = .ok (.invokestatic ix, 3)) (hroom : (rest.map fun v => v.category).sum ≤ 8) (hC : isC.map (fun i => ws[i]?) = wc.map some) (hf : n1 + mc ≤ rm.cells ∧ n2 + ms ≤ rm.slots) (g : ∀ (r : Option Value) (wa wb : va_W), post r wa wb → V x G nL (n1 + mc) (n2 + ms) (pc + 3) lv (r.toList ++ rest) (repl ws isC wa ++ wb)) : V x G nL n1 n2 pc lv st0 ws := by
  obtain ⟨p, l, e, R, s, m, args, below, meth, c, Q, A⟩ := x
  obtain ⟨hx, hb, hml, hts, hown, hKS, hA, hR2, hnm⟩ := O
  subst hR2
  intro H locs ls hP hD hS hl
  have hPc := va_PC hP isC hC
  have hFc := va_freeC hD hS hA isC hC
  have hDc : va_D (fun _ => True) wc := by
    have e : ∀ (k : Nat) (q : Nat × va_E), wc[k]? = some q → ∃ i, isC[k]? = some i ∧ ws[i]? = some q := by
      intro k q hk
      have h1 : (isC.map (fun i => ws[i]?))[k]? = some (some q) := by rw [hC, List.getElem?_map, hk]; rfl
      rw [List.getElem?_map] at h1
      cases hi : isC[k]? with
      | none => rw [hi] at h1; cases h1
      | some i => rw [hi] at h1; exact ⟨i, rfl, Option.some.inj h1⟩
    refine ⟨fun i j a b hi hj hab => ?_, fun _ _ _ => trivial⟩
    obtain ⟨i1, h1, h2⟩ := e i a hi
    obtain ⟨j1, h3, h4⟩ := e j b hj
    have h5 := hD.1 i1 j1 a b h2 h4 hab
    subst h5
    exact va_nd_inj isC hnd i j i1 h1 h3
  have hfr : rmy.frames + 1 ≤ R.frames ∧ 8 + (nLy + 11) + rmy.locals ≤ R.locals := ⟨Nat.le_of_ble_eq_true hR.1, Nat.le_of_ble_eq_true hR.2⟩
  refine va_useN (va_runS (As := As) (rest := rest) ⟨hx, hb, hml, hown, hts⟩ (hM l H.size) (va_cwS n hts hT hw hrc hrs hyc hfr) ⟨fun a U gg mk q => by obtain ⟨q0, q1, qP, qK, qD⟩ := q; exact ⟨q0, q1, qP, qK.calling, qD⟩, fun U hU hW => ⟨rfl, by rw [hU], by rw [hU]; exact hPc, hKS.warm hW, hDc⟩⟩ rfl hn hl.1 hst (lv_room hroom) hd hf) hS (fun q _ h => hFc q h) hFc (fun r wa wb H1 locs1 hp hm hP1 hD1 hz hk hS1 => ?_)
  obtain ⟨h1, h2⟩ := va_back hP hD isC hC hm hk hFc hP1 hD1
  exact g r wa wb hp H1 locs1 ls h1 h2 hS1 hl
theorem k_callSN {x : Cx} {G : Gx} {nL : Nat} {cc : ByteArray} {Ts : List Cond} {y0 : MethodName} {rm : Room} (O : Okx x G nL cc Ts y0 rm) {n1 n2 pc : Nat} {lv : List (Nat × Value)} {ws : va_W} {y : MethodName} {wsy ws' : List Cond} {rmy : Room} {cy : ByteArray} {nLy : Nat} {ret : Option FieldType} {As rest st0 : List Value} {wc : va_W} {post : Option Value → va_W → va_W → Prop} {mc ms ix : Nat}  (isC : List Nat) (n : Nat) (hw : wsy = Cond.code y cy nLy ret :: ws') (hrc : rmy.cells = mc) (hrs : rmy.slots = ms) (hM : CtN G y wsy rmy As wc post mc ms) (hR : Nat.ble (rmy.frames + 1) rm.frames = true ∧ Nat.ble (8 + (nLy + 11) + rmy.locals) rm.locals = true) (hn : As.length = n) (hnd : va_nd isC = true) (hT : GoodIn Ts wsy) (hnest : (y0.cls, ix, y) ∈ nestL) (hstat : Cond.static y ∈ Ts) (hinit : Cond.initialized y.cls ∈ Ts) (hyc : y.cls ≠ "java/lang/invoke/MethodHandle" ∧ y.cls ≠ "java/lang/invoke/VarHandle" ∧ (parseMethodDescriptor y.desc).map (fun d => d.parameters.length) = some n) (hst : st0 = As.reverse ++ rest) (hd : decode cc pc = .ok (.invokestatic ix, 3)) (hroom : (rest.map fun v => v.category).sum ≤ 8) (hC : isC.map (fun i => ws[i]?) = wc.map some) (hf : n1 + mc ≤ rm.cells ∧ n2 + ms ≤ rm.slots) (g : ∀ (r : Option Value) (wa wb : va_W), post r wa wb → V x G nL (n1 + mc) (n2 + ms) (pc + 3) lv (r.toList ++ rest) (repl ws isC wa ++ wb)) : V x G nL n1 n2 pc lv st0 ws := by
  obtain ⟨p, l, e, R, s, m, args, below, meth, c, Q, A⟩ := x
  obtain ⟨hx, hb, hml, hts, hown, hKS, hA, hR2, hnm⟩ := O
  subst hR2
  intro H locs ls hP hD hS hl
  have hPc := va_PC hP isC hC
  have hFc := va_freeC hD hS hA isC hC
  have hDc : va_D (fun _ => True) wc := by
    have e : ∀ (k : Nat) (q : Nat × va_E), wc[k]? = some q → ∃ i, isC[k]? = some i ∧ ws[i]? = some q := by
      intro k q hk
      have h1 : (isC.map (fun i => ws[i]?))[k]? = some (some q) := by rw [hC, List.getElem?_map, hk]; rfl
      rw [List.getElem?_map] at h1
      cases hi : isC[k]? with
      | none => rw [hi] at h1; cases h1
      | some i => rw [hi] at h1; exact ⟨i, rfl, Option.some.inj h1⟩
    refine ⟨fun i j a b hi hj hab => ?_, fun _ _ _ => trivial⟩
    obtain ⟨i1, h1, h2⟩ := e i a hi
    obtain ⟨j1, h3, h4⟩ := e j b hj
    have h5 := hD.1 i1 j1 a b h2 h4 hab
    subst h5
    exact va_nd_inj isC hnd i j i1 h1 h3
  have hfr : rmy.frames + 1 ≤ R.frames ∧ 8 + (nLy + 11) + rmy.locals ≤ R.locals := ⟨Nat.le_of_ble_eq_true hR.1, Nat.le_of_ble_eq_true hR.2⟩
  refine va_useN (va_runSN (As := As) (rest := rest) ⟨hx, hb, hml, hown, hts⟩ (hM l H.size) ⟨va_cnB (host := "LieBridges") n hts hT hw hrc hrs (hKS.2.1 _ hnest) (hts _ hinit) hyc hfr, hts _ hstat, trivial⟩ ⟨fun a U gg mk q => by obtain ⟨q0, q1, qP, qK, qD⟩ := q; exact ⟨q0, q1, qP, qK.calling, qD⟩, fun U hU hW => ⟨rfl, by rw [hU], by rw [hU]; exact hPc, hKS.warm hW, hDc⟩⟩ rfl hn hl.1 hst (lv_room hroom) hd hf) hS (fun q _ h => hFc q h) hFc (fun r wa wb H1 locs1 hp hm hP1 hD1 hz hk hS1 => ?_)
  obtain ⟨h1, h2⟩ := va_back hP hD isC hC hm hk hFc hP1 hD1
  exact g r wa wb hp H1 locs1 ls h1 h2 hS1 hl
theorem k_callV {x : Cx} {G : Gx} {nL : Nat} {cc : ByteArray} {Ts : List Cond} {y0 : MethodName} {rm : Room} (O : Okx x G nL cc Ts y0 rm) {n1 n2 pc : Nat} {lv : List (Nat × Value)} {ws : va_W} {y : MethodName} {wsy ws' : List Cond} {rmy : Room} {cy : ByteArray} {nLy : Nat} {ret : Option FieldType} {As rest st0 : List Value} {wc : va_W} {post : Option Value → va_W → va_W → Prop} {mc ms ix : Nat} {b ci : Nat} {C : String} {T : u_T} {N : Nat} {fs : List Value} (isC : List Nat) (n : Nat) (hw : wsy = Cond.code y cy nLy ret :: ws') (hrc : rmy.cells = mc) (hrs : rmy.slots = ms) (hM : CtN G y wsy rmy (.ref b :: As) wc post mc ms) (hR : Nat.ble (rmy.frames + 1) rm.frames = true ∧ Nat.ble (8 + (nLy + 11) + rmy.locals) rm.locals = true) (hn : As.length = n) (hnd : va_nd isC = true) (hT : GoodIn Ts (wsV y0.cls ix C y wsy)) (hc : vwCl[ci]? = some (C, T, N)) (q0 : Nat) (he : ws[q0]? = some (b, cO ci fs)) (hyc : y.cls = C ∧ y.cls ≠ "java/lang/invoke/MethodHandle" ∧ y.cls ≠ "java/lang/invoke/VarHandle" ∧ (parseMethodDescriptor y.desc).map (fun d => d.parameters.length) = some n) (hst : st0 = As.reverse ++ .ref b :: rest) (hd : decode cc pc = .ok (.invokevirtual ix, 3)) (hroom : (rest.map fun v => v.category).sum ≤ 8) (hC : isC.map (fun i => ws[i]?) = wc.map some) (hf : n1 + mc ≤ rm.cells ∧ n2 + ms ≤ rm.slots) (g : ∀ (r : Option Value) (wa wb : va_W), post r wa wb → V x G nL (n1 + mc) (n2 + ms) (pc + 3) lv (r.toList ++ rest) (repl ws isC wa ++ wb)) : V x G nL n1 n2 pc lv st0 ws := by
  obtain ⟨p, l, e, R, s, m, args, below, meth, c, Q, A⟩ := x
  obtain ⟨hx, hb, hml, hts, hown, hKS, hA, hR2, hnm⟩ := O
  subst hR2
  intro H locs ls hP hD hS hl
  have hPc := va_PC hP isC hC
  have hFc := va_freeC hD hS hA isC hC
  have hDc : va_D (fun _ => True) wc := by
    have e : ∀ (k : Nat) (q : Nat × va_E), wc[k]? = some q → ∃ i, isC[k]? = some i ∧ ws[i]? = some q := by
      intro k q hk
      have h1 : (isC.map (fun i => ws[i]?))[k]? = some (some q) := by rw [hC, List.getElem?_map, hk]; rfl
      rw [List.getElem?_map] at h1
      cases hi : isC[k]? with
      | none => rw [hi] at h1; cases h1
      | some i => rw [hi] at h1; exact ⟨i, rfl, Option.some.inj h1⟩
    refine ⟨fun i j a b hi hj hab => ?_, fun _ _ _ => trivial⟩
    obtain ⟨i1, h1, h2⟩ := e i a hi
    obtain ⟨j1, h3, h4⟩ := e j b hj
    have h5 := hD.1 i1 j1 a b h2 h4 hab
    subst h5
    exact va_nd_inj isC hnd i j i1 h1 h3
  have hfr : rmy.frames + 1 ≤ R.frames ∧ 8 + (nLy + 11) + rmy.locals ≤ R.locals := ⟨Nat.le_of_ble_eq_true hR.1, Nat.le_of_ble_eq_true hR.2⟩
  refine va_useN (va_runV (As := As) (rest := rest) (b := b) (C := C) ⟨hx, hb, hml, hown, hts⟩ (hM l H.size) (cwV n hts hT hw hrc hrs hyc hfr) ⟨fun a U gg mk q => by obtain ⟨q0, q1, qP, qK, qD⟩ := q; exact ⟨q0, q1, qP, qK.calling, qD⟩, va_recv hKS.1 hP hc he, fun U hU hW => ⟨rfl, by rw [hU], by rw [hU]; exact hPc, hKS.warm hW, hDc⟩⟩ rfl hn hl.1 hst (lv_room hroom) hd hf) hS (fun q _ h => hFc q h) hFc (fun r wa wb H1 locs1 hp hm hP1 hD1 hz hk hS1 => ?_)
  obtain ⟨h1, h2⟩ := va_back hP hD isC hC hm hk hFc hP1 hD1
  exact g r wa wb hp H1 locs1 ls h1 h2 hS1 hl
theorem k_callI {x : Cx} {G : Gx} {nL : Nat} {cc : ByteArray} {Ts : List Cond} {y0 : MethodName} {rm : Room} (O : Okx x G nL cc Ts y0 rm) {n1 n2 pc : Nat} {lv : List (Nat × Value)} {ws : va_W} {y : MethodName} {wsy ws' : List Cond} {rmy : Room} {cy : ByteArray} {nLy : Nat} {ret : Option FieldType} {As rest st0 : List Value} {wc : va_W} {post : Option Value → va_W → va_W → Prop} {mc ms ix : Nat} {b : Nat} (isC : List Nat) (n : Nat) (hw : wsy = Cond.code y cy nLy ret :: ws') (hrc : rmy.cells = mc) (hrs : rmy.slots = ms) (hM : CtN G y wsy rmy (.ref b :: As) wc post mc ms) (hR : Nat.ble (rmy.frames + 1) rm.frames = true ∧ Nat.ble (8 + (nLy + 11) + rmy.locals) rm.locals = true) (hn : As.length = n) (hnd : va_nd isC = true) (hT : GoodIn Ts wsy) (hinit : Cond.initialized y.cls ∈ Ts) (hlink : Cond.methodLink y0.cls ix y ∈ Ts) (hinst : Cond.instanceMethod y ∈ Ts) (hyn : y.name = "<init>") (hret : ret = none) (hyc : y.cls ≠ "java/lang/invoke/MethodHandle" ∧ y.cls ≠ "java/lang/invoke/VarHandle" ∧ (parseMethodDescriptor y.desc).map (fun d => d.parameters.length) = some n) (hst : st0 = As.reverse ++ .ref b :: rest) (hd : decode cc pc = .ok (.invokespecial ix, 3)) (hroom : (rest.map fun v => v.category).sum ≤ 8) (hC : isC.map (fun i => ws[i]?) = wc.map some) (hf : n1 + mc ≤ rm.cells ∧ n2 + ms ≤ rm.slots) (g : ∀ (r : Option Value) (wa wb : va_W), post r wa wb → V x G nL (n1 + mc) (n2 + ms) (pc + 3) lv (r.toList ++ rest) (repl ws isC wa ++ wb)) : V x G nL n1 n2 pc lv st0 ws := by
  obtain ⟨p, l, e, R, s, m, args, below, meth, c, Q, A⟩ := x
  obtain ⟨hx, hb, hml, hts, hown, hKS, hA, hR2, hnm⟩ := O
  subst hR2
  intro H locs ls hP hD hS hl
  have hPc := va_PC hP isC hC
  have hFc := va_freeC hD hS hA isC hC
  have hDc : va_D (fun _ => True) wc := by
    have e : ∀ (k : Nat) (q : Nat × va_E), wc[k]? = some q → ∃ i, isC[k]? = some i ∧ ws[i]? = some q := by
      intro k q hk
      have h1 : (isC.map (fun i => ws[i]?))[k]? = some (some q) := by rw [hC, List.getElem?_map, hk]; rfl
      rw [List.getElem?_map] at h1
      cases hi : isC[k]? with
      | none => rw [hi] at h1; cases h1
      | some i => rw [hi] at h1; exact ⟨i, rfl, Option.some.inj h1⟩
    refine ⟨fun i j a b hi hj hab => ?_, fun _ _ _ => trivial⟩
    obtain ⟨i1, h1, h2⟩ := e i a hi
    obtain ⟨j1, h3, h4⟩ := e j b hj
    have h5 := hD.1 i1 j1 a b h2 h4 hab
    subst h5
    exact va_nd_inj isC hnd i j i1 h1 h3
  have hfr : rmy.frames + 1 ≤ R.frames ∧ 8 + (nLy + 11) + rmy.locals ≤ R.locals := ⟨Nat.le_of_ble_eq_true hR.1, Nat.le_of_ble_eq_true hR.2⟩
  subst hret
  refine va_useN (va_runI (As := As) (rest := rest) (b := b) ⟨hx, hb, hml, hown, hts⟩ (hM l H.size) (cwI n hts hT hw hrc hrs (hts _ hinit) (hts _ hlink) (hts _ hinst) hyn hyc hfr) ⟨fun a U gg mk q => by obtain ⟨q0, q1, qP, qK, qD⟩ := q; exact ⟨q0, q1, qP, qK.calling, qD⟩, fun U hU hW => ⟨rfl, by rw [hU], by rw [hU]; exact hPc, hKS.warm hW, hDc⟩⟩ rfl hn hl.1 hst (lv_room hroom) hd hf) hS (fun q _ h => hFc q h) hFc (fun r wa wb H1 locs1 hp hm hP1 hD1 hz hk hS1 => ?_)
  obtain ⟨h1, h2⟩ := va_back hP hD isC hC hm hk hFc hP1 hD1
  exact g r wa wb hp H1 locs1 ls h1 h2 hS1 hl
theorem k_callIN {x : Cx} {G : Gx} {nL : Nat} {cc : ByteArray} {Ts : List Cond} {y0 : MethodName} {rm : Room} (O : Okx x G nL cc Ts y0 rm) {n1 n2 pc : Nat} {lv : List (Nat × Value)} {ws : va_W} {y : MethodName} {wsy ws' : List Cond} {rmy : Room} {cy : ByteArray} {nLy : Nat} {ret : Option FieldType} {As rest st0 : List Value} {wc : va_W} {post : Option Value → va_W → va_W → Prop} {mc ms ix : Nat} {b : Nat} (isC : List Nat) (n : Nat) (hw : wsy = Cond.code y cy nLy ret :: ws') (hrc : rmy.cells = mc) (hrs : rmy.slots = ms) (hM : CtN G y wsy rmy (.ref b :: As) wc post mc ms) (hR : Nat.ble (rmy.frames + 1) rm.frames = true ∧ Nat.ble (8 + (nLy + 11) + rmy.locals) rm.locals = true) (hn : As.length = n) (hnd : va_nd isC = true) (hT : GoodIn Ts wsy) (hinit : Cond.initialized y.cls ∈ Ts) (hnest : (y0.cls, ix, y) ∈ nestL) (hinst : Cond.instanceMethod y ∈ Ts) (hyn : y.name = "<init>") (hret : ret = none) (hyc : y.cls ≠ "java/lang/invoke/MethodHandle" ∧ y.cls ≠ "java/lang/invoke/VarHandle" ∧ (parseMethodDescriptor y.desc).map (fun d => d.parameters.length) = some n) (hst : st0 = As.reverse ++ .ref b :: rest) (hd : decode cc pc = .ok (.invokespecial ix, 3)) (hroom : (rest.map fun v => v.category).sum ≤ 8) (hC : isC.map (fun i => ws[i]?) = wc.map some) (hf : n1 + mc ≤ rm.cells ∧ n2 + ms ≤ rm.slots) (g : ∀ (r : Option Value) (wa wb : va_W), post r wa wb → V x G nL (n1 + mc) (n2 + ms) (pc + 3) lv (r.toList ++ rest) (repl ws isC wa ++ wb)) : V x G nL n1 n2 pc lv st0 ws := by
  obtain ⟨p, l, e, R, s, m, args, below, meth, c, Q, A⟩ := x
  obtain ⟨hx, hb, hml, hts, hown, hKS, hA, hR2, hnm⟩ := O
  subst hR2
  intro H locs ls hP hD hS hl
  have hPc := va_PC hP isC hC
  have hFc := va_freeC hD hS hA isC hC
  have hDc : va_D (fun _ => True) wc := by
    have e : ∀ (k : Nat) (q : Nat × va_E), wc[k]? = some q → ∃ i, isC[k]? = some i ∧ ws[i]? = some q := by
      intro k q hk
      have h1 : (isC.map (fun i => ws[i]?))[k]? = some (some q) := by rw [hC, List.getElem?_map, hk]; rfl
      rw [List.getElem?_map] at h1
      cases hi : isC[k]? with
      | none => rw [hi] at h1; cases h1
      | some i => rw [hi] at h1; exact ⟨i, rfl, Option.some.inj h1⟩
    refine ⟨fun i j a b hi hj hab => ?_, fun _ _ _ => trivial⟩
    obtain ⟨i1, h1, h2⟩ := e i a hi
    obtain ⟨j1, h3, h4⟩ := e j b hj
    have h5 := hD.1 i1 j1 a b h2 h4 hab
    subst h5
    exact va_nd_inj isC hnd i j i1 h1 h3
  have hfr : rmy.frames + 1 ≤ R.frames ∧ 8 + (nLy + 11) + rmy.locals ≤ R.locals := ⟨Nat.le_of_ble_eq_true hR.1, Nat.le_of_ble_eq_true hR.2⟩
  subst hret
  refine va_useN (va_runIN (As := As) (rest := rest) (b := b) ⟨hx, hb, hml, hown, hts⟩ (hM l H.size) ⟨va_cnB (host := "LieBridges") n hts hT hw hrc hrs (hKS.2.1 _ hnest) (hts _ hinit) hyc hfr, hyn, hts _ hinst⟩ ⟨fun a U gg mk q => by obtain ⟨q0, q1, qP, qK, qD⟩ := q; exact ⟨q0, q1, qP, qK.calling, qD⟩, fun U hU hW => ⟨rfl, by rw [hU], by rw [hU]; exact hPc, hKS.warm hW, hDc⟩⟩ rfl hn hl.1 hst (lv_room hroom) hd hf) hS (fun q _ h => hFc q h) hFc (fun r wa wb H1 locs1 hp hm hP1 hD1 hz hk hS1 => ?_)
  obtain ⟨h1, h2⟩ := va_back hP hD isC hC hm hk hFc hP1 hD1
  exact g r wa wb hp H1 locs1 ls h1 h2 hS1 hl
end
