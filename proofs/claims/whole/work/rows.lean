section
-- ===== PART A: goes FIRST, ahead of the names: the tables' words, and 'selects' of the private methods out of them =====
/-- a private method of a class that the tables say can be made, by its rows of tables_1 -/
def lw_okq (q : MethodName × Nat) : Prop := (q.1.cls ≠ "java/lang/invoke/MethodHandle" ∧ q.1.cls ≠ "java/lang/invoke/VarHandle") ∧ Cond.instantiable q.1.cls q.2 ∈ tables_1 ∧ Cond.privateMethod q.1 ∈ tables_1 ∧ Cond.instanceMethod q.1 ∈ tables_1
theorem lw_p0 : lw_okq (⟨"CheckpointedStream", "startAgain", "(I)V"⟩, 14) := ⟨⟨by decide +kernel, by decide +kernel⟩, List.mem_of_getElem? (i := 14) (by decide +kernel), List.mem_of_getElem? (i := 138) (by decide +kernel), List.mem_of_getElem? (i := 139) (by decide +kernel)⟩
theorem lw_p1 : lw_okq (⟨"CheckpointedStream", "isReadyToCommit", "(I)Z"⟩, 14) := ⟨⟨by decide +kernel, by decide +kernel⟩, List.mem_of_getElem? (i := 14) (by decide +kernel), List.mem_of_getElem? (i := 142) (by decide +kernel), List.mem_of_getElem? (i := 143) (by decide +kernel)⟩
theorem lw_p2 : lw_okq (⟨"CheckpointedStream", "commitSealed", "(I)I"⟩, 14) := ⟨⟨by decide +kernel, by decide +kernel⟩, List.mem_of_getElem? (i := 14) (by decide +kernel), List.mem_of_getElem? (i := 146) (by decide +kernel), List.mem_of_getElem? (i := 147) (by decide +kernel)⟩
theorem lw_p3 : lw_okq (⟨"CheckpointedStream", "moveTallies", "(LCheckpointedStream$Tally;LCheckpointedStream$Tally;I)I"⟩, 14) := ⟨⟨by decide +kernel, by decide +kernel⟩, List.mem_of_getElem? (i := 14) (by decide +kernel), List.mem_of_getElem? (i := 150) (by decide +kernel), List.mem_of_getElem? (i := 151) (by decide +kernel)⟩
theorem lw_p4 : lw_okq (⟨"CheckpointedStream", "ownerOfKey", "(I)I"⟩, 14) := ⟨⟨by decide +kernel, by decide +kernel⟩, List.mem_of_getElem? (i := 14) (by decide +kernel), List.mem_of_getElem? (i := 154) (by decide +kernel), List.mem_of_getElem? (i := 155) (by decide +kernel)⟩
theorem lw_p5 : lw_okq (⟨"java/lang/Throwable", "fillInStackTrace", "(I)Ljava/lang/Throwable;"⟩, 6) := ⟨⟨by decide +kernel, by decide +kernel⟩, List.mem_of_getElem? (i := 253) (by decide +kernel), List.mem_of_getElem? (i := 251) (by decide +kernel), List.mem_of_getElem? (i := 252) (by decide +kernel)⟩
theorem lw_p6 : lw_okq (⟨"CheckpointedStream", "canReadFrom", "(I)Z"⟩, 14) := ⟨⟨by decide +kernel, by decide +kernel⟩, List.mem_of_getElem? (i := 14) (by decide +kernel), List.mem_of_getElem? (i := 330) (by decide +kernel), List.mem_of_getElem? (i := 331) (by decide +kernel)⟩
theorem lw_p7 : lw_okq (⟨"CheckpointedStream", "readFrom", "(I)I"⟩, 14) := ⟨⟨by decide +kernel, by decide +kernel⟩, List.mem_of_getElem? (i := 14) (by decide +kernel), List.mem_of_getElem? (i := 353) (by decide +kernel), List.mem_of_getElem? (i := 354) (by decide +kernel)⟩
theorem lw_p8 : lw_okq (⟨"CheckpointedStream", "hasRoomInAllChannels", "(I)Z"⟩, 14) := ⟨⟨by decide +kernel, by decide +kernel⟩, List.mem_of_getElem? (i := 14) (by decide +kernel), List.mem_of_getElem? (i := 369) (by decide +kernel), List.mem_of_getElem? (i := 370) (by decide +kernel)⟩
theorem lw_p9 : lw_okq (⟨"CheckpointedStream", "requireWorker", "(I)V"⟩, 14) := ⟨⟨by decide +kernel, by decide +kernel⟩, List.mem_of_getElem? (i := 14) (by decide +kernel), List.mem_of_getElem? (i := 385) (by decide +kernel), List.mem_of_getElem? (i := 386) (by decide +kernel)⟩
theorem lw_p10 : lw_okq (⟨"CheckpointedStream", "takeFrom", "(II)I"⟩, 14) := ⟨⟨by decide +kernel, by decide +kernel⟩, List.mem_of_getElem? (i := 14) (by decide +kernel), List.mem_of_getElem? (i := 399) (by decide +kernel), List.mem_of_getElem? (i := 400) (by decide +kernel)⟩
theorem lw_p11 : lw_okq (⟨"CheckpointedStream", "takeEvent", "(II)I"⟩, 14) := ⟨⟨by decide +kernel, by decide +kernel⟩, List.mem_of_getElem? (i := 14) (by decide +kernel), List.mem_of_getElem? (i := 410) (by decide +kernel), List.mem_of_getElem? (i := 411) (by decide +kernel)⟩
theorem lw_p12 : lw_okq (⟨"CheckpointedStream", "takeBarrier", "(II)V"⟩, 14) := ⟨⟨by decide +kernel, by decide +kernel⟩, List.mem_of_getElem? (i := 14) (by decide +kernel), List.mem_of_getElem? (i := 414) (by decide +kernel), List.mem_of_getElem? (i := 415) (by decide +kernel)⟩
theorem lw_p13 : lw_okq (⟨"CheckpointedStream", "sealTransaction", "(I)V"⟩, 14) := ⟨⟨by decide +kernel, by decide +kernel⟩, List.mem_of_getElem? (i := 14) (by decide +kernel), List.mem_of_getElem? (i := 426) (by decide +kernel), List.mem_of_getElem? (i := 427) (by decide +kernel)⟩
theorem lw_p14 : lw_okq (⟨"CheckpointedStream", "haveAllSealed", "()Z"⟩, 14) := ⟨⟨by decide +kernel, by decide +kernel⟩, List.mem_of_getElem? (i := 14) (by decide +kernel), List.mem_of_getElem? (i := 438) (by decide +kernel), List.mem_of_getElem? (i := 439) (by decide +kernel)⟩
theorem lw_p15 : lw_okq (⟨"CheckpointedStream", "completeCheckpoint", "()V"⟩, 14) := ⟨⟨by decide +kernel, by decide +kernel⟩, List.mem_of_getElem? (i := 14) (by decide +kernel), List.mem_of_getElem? (i := 442) (by decide +kernel), List.mem_of_getElem? (i := 443) (by decide +kernel)⟩
def lw_privs_1 : List (MethodName × Nat) := [(⟨"CheckpointedStream", "startAgain", "(I)V"⟩, 14), (⟨"CheckpointedStream", "isReadyToCommit", "(I)Z"⟩, 14), (⟨"CheckpointedStream", "commitSealed", "(I)I"⟩, 14), (⟨"CheckpointedStream", "moveTallies", "(LCheckpointedStream$Tally;LCheckpointedStream$Tally;I)I"⟩, 14), (⟨"CheckpointedStream", "ownerOfKey", "(I)I"⟩, 14), (⟨"java/lang/Throwable", "fillInStackTrace", "(I)Ljava/lang/Throwable;"⟩, 6), (⟨"CheckpointedStream", "canReadFrom", "(I)Z"⟩, 14), (⟨"CheckpointedStream", "readFrom", "(I)I"⟩, 14), (⟨"CheckpointedStream", "hasRoomInAllChannels", "(I)Z"⟩, 14), (⟨"CheckpointedStream", "requireWorker", "(I)V"⟩, 14), (⟨"CheckpointedStream", "takeFrom", "(II)I"⟩, 14), (⟨"CheckpointedStream", "takeEvent", "(II)I"⟩, 14), (⟨"CheckpointedStream", "takeBarrier", "(II)V"⟩, 14), (⟨"CheckpointedStream", "sealTransaction", "(I)V"⟩, 14), (⟨"CheckpointedStream", "haveAllSealed", "()Z"⟩, 14), (⟨"CheckpointedStream", "completeCheckpoint", "()V"⟩, 14)]
theorem lw_r1 : ∀ q ∈ lw_privs_1, lw_okq q := List.forall_mem_cons.mpr ⟨lw_p0, List.forall_mem_cons.mpr ⟨lw_p1, List.forall_mem_cons.mpr ⟨lw_p2, List.forall_mem_cons.mpr ⟨lw_p3, List.forall_mem_cons.mpr ⟨lw_p4, List.forall_mem_cons.mpr ⟨lw_p5, List.forall_mem_cons.mpr ⟨lw_p6, List.forall_mem_cons.mpr ⟨lw_p7, List.forall_mem_cons.mpr ⟨lw_p8, List.forall_mem_cons.mpr ⟨lw_p9, List.forall_mem_cons.mpr ⟨lw_p10, List.forall_mem_cons.mpr ⟨lw_p11, List.forall_mem_cons.mpr ⟨lw_p12, List.forall_mem_cons.mpr ⟨lw_p13, List.forall_mem_cons.mpr ⟨lw_p14, List.forall_mem_cons.mpr ⟨lw_p15, fun _ h => absurd h List.not_mem_nil⟩⟩⟩⟩⟩⟩⟩⟩⟩⟩⟩⟩⟩⟩⟩⟩
theorem lw_p16 : lw_okq (⟨"CheckpointedStream", "readRound", "()I"⟩, 14) := ⟨⟨by decide +kernel, by decide +kernel⟩, List.mem_of_getElem? (i := 14) (by decide +kernel), List.mem_of_getElem? (i := 458) (by decide +kernel), List.mem_of_getElem? (i := 459) (by decide +kernel)⟩
theorem lw_p17 : lw_okq (⟨"CheckpointedStream", "takeRound", "()I"⟩, 14) := ⟨⟨by decide +kernel, by decide +kernel⟩, List.mem_of_getElem? (i := 14) (by decide +kernel), List.mem_of_getElem? (i := 462) (by decide +kernel), List.mem_of_getElem? (i := 463) (by decide +kernel)⟩
theorem lw_p18 : lw_okq (⟨"CheckpointedStream", "hasAnySealed", "()Z"⟩, 14) := ⟨⟨by decide +kernel, by decide +kernel⟩, List.mem_of_getElem? (i := 14) (by decide +kernel), List.mem_of_getElem? (i := 481) (by decide +kernel), List.mem_of_getElem? (i := 482) (by decide +kernel)⟩
theorem lw_p19 : lw_okq (⟨"CheckpointedStreamModel", "unseals", "()V"⟩, 27) := ⟨⟨by decide +kernel, by decide +kernel⟩, List.mem_of_getElem? (i := 660) (by decide +kernel), List.mem_of_getElem? (i := 666) (by decide +kernel), List.mem_of_getElem? (i := 667) (by decide +kernel)⟩
theorem lw_p20 : lw_okq (⟨"CheckpointedStreamModel", "holds", "(I)Z"⟩, 27) := ⟨⟨by decide +kernel, by decide +kernel⟩, List.mem_of_getElem? (i := 660) (by decide +kernel), List.mem_of_getElem? (i := 769) (by decide +kernel), List.mem_of_getElem? (i := 770) (by decide +kernel)⟩
theorem lw_p21 : lw_okq (⟨"CheckpointedStreamModel", "canRead", "(I)Z"⟩, 27) := ⟨⟨by decide +kernel, by decide +kernel⟩, List.mem_of_getElem? (i := 660) (by decide +kernel), List.mem_of_getElem? (i := 777) (by decide +kernel), List.mem_of_getElem? (i := 778) (by decide +kernel)⟩
theorem lw_p22 : lw_okq (⟨"CheckpointedStreamModel", "nextEvent", "(I)I"⟩, 27) := ⟨⟨by decide +kernel, by decide +kernel⟩, List.mem_of_getElem? (i := 660) (by decide +kernel), List.mem_of_getElem? (i := 781) (by decide +kernel), List.mem_of_getElem? (i := 782) (by decide +kernel)⟩
theorem lw_p23 : lw_okq (⟨"CheckpointedStreamModel", "workerOfKey", "(I)I"⟩, 27) := ⟨⟨by decide +kernel, by decide +kernel⟩, List.mem_of_getElem? (i := 660) (by decide +kernel), List.mem_of_getElem? (i := 785) (by decide +kernel), List.mem_of_getElem? (i := 786) (by decide +kernel)⟩
theorem lw_p24 : lw_okq (⟨"CheckpointedStreamModel", "reads", "(I)I"⟩, 27) := ⟨⟨by decide +kernel, by decide +kernel⟩, List.mem_of_getElem? (i := 660) (by decide +kernel), List.mem_of_getElem? (i := 795) (by decide +kernel), List.mem_of_getElem? (i := 796) (by decide +kernel)⟩
theorem lw_p25 : lw_okq (⟨"CheckpointedStreamModel", "puts", "(II)V"⟩, 27) := ⟨⟨by decide +kernel, by decide +kernel⟩, List.mem_of_getElem? (i := 660) (by decide +kernel), List.mem_of_getElem? (i := 799) (by decide +kernel), List.mem_of_getElem? (i := 800) (by decide +kernel)⟩
theorem lw_p26 : lw_okq (⟨"CheckpointedStreamModel", "canSend", "(I)Z"⟩, 27) := ⟨⟨by decide +kernel, by decide +kernel⟩, List.mem_of_getElem? (i := 660) (by decide +kernel), List.mem_of_getElem? (i := 807) (by decide +kernel), List.mem_of_getElem? (i := 808) (by decide +kernel)⟩
theorem lw_p27 : lw_okq (⟨"CheckpointedStreamModel", "isWorker", "(I)Z"⟩, 27) := ⟨⟨by decide +kernel, by decide +kernel⟩, List.mem_of_getElem? (i := 660) (by decide +kernel), List.mem_of_getElem? (i := 815) (by decide +kernel), List.mem_of_getElem? (i := 816) (by decide +kernel)⟩
theorem lw_p28 : lw_okq (⟨"CheckpointedStreamModel", "canTake", "(II)Z"⟩, 27) := ⟨⟨by decide +kernel, by decide +kernel⟩, List.mem_of_getElem? (i := 660) (by decide +kernel), List.mem_of_getElem? (i := 819) (by decide +kernel), List.mem_of_getElem? (i := 820) (by decide +kernel)⟩
theorem lw_p29 : lw_okq (⟨"CheckpointedStreamModel", "takes", "(II)I"⟩, 27) := ⟨⟨by decide +kernel, by decide +kernel⟩, List.mem_of_getElem? (i := 660) (by decide +kernel), List.mem_of_getElem? (i := 823) (by decide +kernel), List.mem_of_getElem? (i := 824) (by decide +kernel)⟩
theorem lw_p30 : lw_okq (⟨"CheckpointedStreamModel", "aligns", "(I)V"⟩, 27) := ⟨⟨by decide +kernel, by decide +kernel⟩, List.mem_of_getElem? (i := 660) (by decide +kernel), List.mem_of_getElem? (i := 827) (by decide +kernel), List.mem_of_getElem? (i := 828) (by decide +kernel)⟩
theorem lw_p31 : lw_okq (⟨"CheckpointedStreamModel", "completes", "()V"⟩, 27) := ⟨⟨by decide +kernel, by decide +kernel⟩, List.mem_of_getElem? (i := 660) (by decide +kernel), List.mem_of_getElem? (i := 831) (by decide +kernel), List.mem_of_getElem? (i := 832) (by decide +kernel)⟩
def lw_privs_2 : List (MethodName × Nat) := [(⟨"CheckpointedStream", "readRound", "()I"⟩, 14), (⟨"CheckpointedStream", "takeRound", "()I"⟩, 14), (⟨"CheckpointedStream", "hasAnySealed", "()Z"⟩, 14), (⟨"CheckpointedStreamModel", "unseals", "()V"⟩, 27), (⟨"CheckpointedStreamModel", "holds", "(I)Z"⟩, 27), (⟨"CheckpointedStreamModel", "canRead", "(I)Z"⟩, 27), (⟨"CheckpointedStreamModel", "nextEvent", "(I)I"⟩, 27), (⟨"CheckpointedStreamModel", "workerOfKey", "(I)I"⟩, 27), (⟨"CheckpointedStreamModel", "reads", "(I)I"⟩, 27), (⟨"CheckpointedStreamModel", "puts", "(II)V"⟩, 27), (⟨"CheckpointedStreamModel", "canSend", "(I)Z"⟩, 27), (⟨"CheckpointedStreamModel", "isWorker", "(I)Z"⟩, 27), (⟨"CheckpointedStreamModel", "canTake", "(II)Z"⟩, 27), (⟨"CheckpointedStreamModel", "takes", "(II)I"⟩, 27), (⟨"CheckpointedStreamModel", "aligns", "(I)V"⟩, 27), (⟨"CheckpointedStreamModel", "completes", "()V"⟩, 27)]
theorem lw_r2 : ∀ q ∈ lw_privs_2, lw_okq q := List.forall_mem_cons.mpr ⟨lw_p16, List.forall_mem_cons.mpr ⟨lw_p17, List.forall_mem_cons.mpr ⟨lw_p18, List.forall_mem_cons.mpr ⟨lw_p19, List.forall_mem_cons.mpr ⟨lw_p20, List.forall_mem_cons.mpr ⟨lw_p21, List.forall_mem_cons.mpr ⟨lw_p22, List.forall_mem_cons.mpr ⟨lw_p23, List.forall_mem_cons.mpr ⟨lw_p24, List.forall_mem_cons.mpr ⟨lw_p25, List.forall_mem_cons.mpr ⟨lw_p26, List.forall_mem_cons.mpr ⟨lw_p27, List.forall_mem_cons.mpr ⟨lw_p28, List.forall_mem_cons.mpr ⟨lw_p29, List.forall_mem_cons.mpr ⟨lw_p30, List.forall_mem_cons.mpr ⟨lw_p31, fun _ h => absurd h List.not_mem_nil⟩⟩⟩⟩⟩⟩⟩⟩⟩⟩⟩⟩⟩⟩⟩⟩
theorem lw_p32 : lw_okq (⟨"CheckpointedStreamModel", "mayCommit", "(I)Z"⟩, 27) := ⟨⟨by decide +kernel, by decide +kernel⟩, List.mem_of_getElem? (i := 660) (by decide +kernel), List.mem_of_getElem? (i := 846) (by decide +kernel), List.mem_of_getElem? (i := 847) (by decide +kernel)⟩
theorem lw_p33 : lw_okq (⟨"CheckpointedStreamModel", "commits", "(I)I"⟩, 27) := ⟨⟨by decide +kernel, by decide +kernel⟩, List.mem_of_getElem? (i := 660) (by decide +kernel), List.mem_of_getElem? (i := 850) (by decide +kernel), List.mem_of_getElem? (i := 851) (by decide +kernel)⟩
theorem lw_p34 : lw_okq (⟨"CheckpointedStreamModel", "isAnySealed", "()Z"⟩, 27) := ⟨⟨by decide +kernel, by decide +kernel⟩, List.mem_of_getElem? (i := 660) (by decide +kernel), List.mem_of_getElem? (i := 858) (by decide +kernel), List.mem_of_getElem? (i := 859) (by decide +kernel)⟩
theorem lw_p35 : lw_okq (⟨"CheckpointedStreamModel", "lifts", "()V"⟩, 27) := ⟨⟨by decide +kernel, by decide +kernel⟩, List.mem_of_getElem? (i := 660) (by decide +kernel), List.mem_of_getElem? (i := 862) (by decide +kernel), List.mem_of_getElem? (i := 863) (by decide +kernel)⟩
theorem lw_p36 : lw_okq (⟨"CheckpointedStreamModel", "startsAgain", "(I)V"⟩, 27) := ⟨⟨by decide +kernel, by decide +kernel⟩, List.mem_of_getElem? (i := 660) (by decide +kernel), List.mem_of_getElem? (i := 874) (by decide +kernel), List.mem_of_getElem? (i := 875) (by decide +kernel)⟩
theorem lw_p37 : lw_okq (⟨"CheckpointedStreamModel", "isChannel", "(II)Z"⟩, 27) := ⟨⟨by decide +kernel, by decide +kernel⟩, List.mem_of_getElem? (i := 660) (by decide +kernel), List.mem_of_getElem? (i := 901) (by decide +kernel), List.mem_of_getElem? (i := 902) (by decide +kernel)⟩
theorem lw_p38 : lw_okq (⟨"CheckpointedStreamModel", "ofKey", "([II)I"⟩, 27) := ⟨⟨by decide +kernel, by decide +kernel⟩, List.mem_of_getElem? (i := 660) (by decide +kernel), List.mem_of_getElem? (i := 929) (by decide +kernel), List.mem_of_getElem? (i := 930) (by decide +kernel)⟩
def lw_privs_3 : List (MethodName × Nat) := [(⟨"CheckpointedStreamModel", "mayCommit", "(I)Z"⟩, 27), (⟨"CheckpointedStreamModel", "commits", "(I)I"⟩, 27), (⟨"CheckpointedStreamModel", "isAnySealed", "()Z"⟩, 27), (⟨"CheckpointedStreamModel", "lifts", "()V"⟩, 27), (⟨"CheckpointedStreamModel", "startsAgain", "(I)V"⟩, 27), (⟨"CheckpointedStreamModel", "isChannel", "(II)Z"⟩, 27), (⟨"CheckpointedStreamModel", "ofKey", "([II)I"⟩, 27)]
theorem lw_r3 : ∀ q ∈ lw_privs_3, lw_okq q := List.forall_mem_cons.mpr ⟨lw_p32, List.forall_mem_cons.mpr ⟨lw_p33, List.forall_mem_cons.mpr ⟨lw_p34, List.forall_mem_cons.mpr ⟨lw_p35, List.forall_mem_cons.mpr ⟨lw_p36, List.forall_mem_cons.mpr ⟨lw_p37, List.forall_mem_cons.mpr ⟨lw_p38, fun _ h => absurd h List.not_mem_nil⟩⟩⟩⟩⟩⟩⟩
def lw_privs : List (MethodName × Nat) := lw_privs_1 ++ (lw_privs_2 ++ (lw_privs_3))
def lw_tbl : List Cond := k2_sels lw_privs ++ tables_1
theorem lw_privs_ok : ∀ q ∈ lw_privs, lw_okq q := by
  show ∀ q ∈ lw_privs_1 ++ (lw_privs_2 ++ (lw_privs_3)), lw_okq q
  exact List.forall_mem_append.mpr ⟨lw_r1, List.forall_mem_append.mpr ⟨lw_r2, lw_r3⟩⟩
end
section
/-! ===== BEGIN words of one list among another's, by their places ===== -/
theorem goodIn_r {big : List Cond} (ws : List Cond) (ps : List Nat) (hp : ws = ps.filterMap (fun i => big[i]?)) (h : ws.all goodWord = true) : GoodIn big ws := by
  intro w hw
  have h1 := List.all_eq_true.mp h w hw
  rw [hp] at hw
  obtain ⟨i, -, hi⟩ := List.mem_filterMap.mp hw
  have hm : w ∈ big := by first | exact List.mem_of_getElem? hi | exact List.getElem?_mem hi
  exact ⟨hm, good_of_word h1⟩
theorem goodIn_app {big a b : List Cond} (ha : GoodIn big a) (hb : GoodIn big b) : GoodIn big (a ++ b) := fun w h => (List.mem_append.mp h).elim (ha w) (hb w)
theorem goodIn_ca {big a b : List Cond} {c : Cond} (ha : GoodIn big (c :: a)) (hb : GoodIn big b) : GoodIn big (c :: (a ++ b)) := fun w h => (List.mem_cons.mp h).elim (fun e => ha w (List.mem_cons.mpr (Or.inl e))) (fun h => (List.mem_append.mp h).elim (fun h => ha w (List.mem_cons.mpr (Or.inr h))) (hb w))
theorem goodIn_sub {big ws : List Cond} (hm : ∀ w ∈ ws, w ∈ big) (h : ws.all goodWord = true) : GoodIn big ws := fun w hw => ⟨hm w hw, good_of_word (List.all_eq_true.mp h w hw)⟩
/-! ===== END ===== -/

/-! ===== BEGIN exceptions that leave a method, and their catching by the caller (launches without stack traces) ===== -/
section VXA
/-! The laws vx_back, vx_callV, vx_callS, vx_callSW, vx_throw0, vx_throwS follow proofs of the library, with one case more: JvmDerived/Free/Laws.lean (Back.of_free), Shelf42/LK1.lean (callV, callS), Shelf/KitTraced.lean (throwNew0V, throwNewS). -/
/-- where a method has thrown q: the class by its name, the cell, what was written, the world -/
def vx_T (XC : String → State → State → Prop) (st : State) (q : Addr) (t : State) (mc ms : Nat) (free : Addr → Prop) : Prop :=
  ∃ (E : String) (ce : Cell) (L : List Loc), XC E st t ∧ t.heap[q]? = some ce ∧ ce.vm = .none ∧ st.vm.findClass E = some ce.cls ∧ st.WarmedH t.vm ∧ st.sameButNew ({ t with vm := st.vm } : State) L mc ms ∧ ∀ z ∈ L, free z.base
def vx_Q (Qc : Array Value → State → Outcome → State → Prop) (XC : String → State → State → Prop) (mc ms : Nat) (free : Addr → Prop) : Array Value → State → Outcome → State → Prop := fun a st o t =>
  (Qc a st o t ∧ ∃ L, FrameEnd st o t L mc ms ∧ ∀ q ∈ L, free q.base) ∨ ∃ q, o = .threw q ∧ vx_T XC st q t mc ms free
/-- a callee that returns or throws -/
def vx_Met (l : Launch) (y : MethodName) (ws : List Cond) (rm : Room) (Pc : Array Value → State → Prop) (Qc : Array Value → State → Outcome → State → Prop) (XC : String → State → State → Prop) (mc ms : Nat) (free : Addr → Prop) : Prop :=
  MetFree l y (headSpec ws rm) Pc (fun _ _ _ _ _ => True) (vx_Q Qc XC mc ms free)
def vx_Post (XC : String → State → State → Prop) (mc ms : Nat) (free : Addr → Prop) : Pt → Array Value → Addr → Pt → Prop := fun A a q B =>
  ∃ (g : JFrame) (mk : MethodId) (t : State) (L : List Loc) (E : String) (ce : Cell), B.U.heap = t.heap ∧ B.U.vm = t.vm ∧ XC E (A.U.calling g mk a) t ∧ t.heap[q]? = some ce ∧ ce.vm = .none ∧ A.U.vm.findClass E = some ce.cls ∧ B.locs = A.locs ++ L ∧ (∀ z ∈ L, free z.base) ∧ B.cells = A.cells + mc ∧ B.slots = A.slots + ms
def vx_Back (l : Launch) (R : Room) (p : Program) (e : Env) (below : List Frame) (s : State) (sargs : Array Value) (y : MethodName) (len W9 : Nat)
    (Pre : Pt → Array Value → Prop) (Post : Pt → Array Value → Option Value → Pt → Prop) (PostX : Pt → Array Value → Addr → Pt → Prop) : Prop :=
  ∀ (m : MethodId) (meth : Method) (c : Code) (A : Pt) (g : JFrame) (ig : Instr) (mk : MethodId) (a : Array Value),
    Stand p l e R s m sargs below meth c A.U A.locs A.cells A.slots → g.method = m → g.locals.size = c.maxLocals → decode c.code g.pc = .ok (ig, len) →
    2 * g.monitorRoom + (g.stack.map fun v => v.category).sum ≤ W9 → A.U.methodNamed? y = some mk → Pre A a →
    (∃ (v : Option Value) (B : Pt), Stand p l e R s m sargs below meth c B.U B.locs B.cells B.slots ∧ Post A a v B ∧
      Steps p.tables e below (doInvoke e (A.U.setTop g) [] mk a).1 (B.U.setTop { g with pc := g.pc + len, stack := v.toList ++ g.stack })) ∨
    (∃ (q : Addr) (B : Pt), Stand p l e R s m sargs below meth c B.U B.locs B.cells B.slots ∧ PostX A a q B ∧
      Steps p.tables e below (doInvoke e (A.U.setTop g) [] mk a).1 ((B.U.setTop g).pushFrame (.throwing q)))
section Payer
variable {l : Launch} {R : Room} {p : Program} {e : Env} {below : List Frame} {s : State} {sargs : Array Value} {y : MethodName} {len W9 : Nat}
theorem vx_back {ws : List Cond} {rm : Room} {Pc : Array Value → State → Prop} {Qc : Array Value → State → Outcome → State → Prop} {XC : String → State → State → Prop} {mc ms : Nat} {free : Addr → Prop} {bytes : ByteArray} {maxL : Nat} {ret : Option FieldType}
    (hM : vx_Met l y ws rm Pc Qc XC mc ms free) (hblind : FrameBlind Pc) (hrc : rm.cells = mc) (hrs : rm.slots = ms)
    (hframes : rm.frames + 1 ≤ R.frames) (hlocals : W9 + (maxL + 11) + rm.locals ≤ R.locals)
    (hws : ∀ w ∈ ws, ∀ a' U, s.WarmedH U.vm → w.before a' U = true) (hcode : Cond.code y bytes maxL ret ∈ ws) (hinit : ∀ a' U, s.WarmedH U.vm → (Cond.initialized y.cls).before a' U = true) :
    vx_Back l R p e below s sargs y len W9 (PreOf R mc ms Pc) (PostOf Qc mc ms free) (vx_Post XC mc ms free) := by
  intro m meth c A g ig mk a X hg hsize hdg hW hn hp
  have h1 : (headSpec ws rm).pre.before a A.U = true := atoms_intro fun w hw => hws w hw _ _ X.warmed
  have h2 : (Cond.code y bytes maxL ret).before a A.U = true := hws _ hcode _ _ X.warmed
  have h3 : (Cond.initialized y.cls).before a A.U = true := hinit _ _ X.warmed
  have h4 : A.cells + (headSpec ws rm).room.cells ≤ R.cells := by rw [show (headSpec ws rm).room.cells = mc from hrc]; exact hp.1
  have h5 : A.slots + (headSpec ws rm).room.slots ≤ R.slots := by rw [show (headSpec ws rm).room.slots = ms from hrs]; exact hp.2.1
  have hPc : Pc a (A.U.calling g mk a) := hblind _ _ _ _ hp.2.2
  obtain ⟨U, Ls, c0, s0⟩ := A
  dsimp only [Pt.U, Pt.locs, Pt.cells, Pt.slots] at h1 h2 h3 h4 h5 X hn hPc ⊢
  obtain ⟨methY, cY, hmY, hcY, -, hlY, -, -, -, -⟩ := Cond.code_spec hn h2
  obtain ⟨kY, hkY, -⟩ := className_of_methodNamed hn
  have hinitY : kY.init = .initialized := Cond.initialized_spec (findClass_of_methodNamed hn) hkY h3
  have h : At U g.method c below := by rw [hg]; exact X.here
  have hlocals9 : W9 + (maxL + 11) + (headSpec ws rm).room.locals ≤ R.locals := hlocals
  have happ : (headSpec ws rm).appliesLoose y e.platform (U.calling g mk a) = true :=
    Spec.appliesLoose_calling (g := g) h hdg hn hkY hinitY
      (X.room_calling (g := g) (R' := (headSpec ws rm).room) hsize hmY hcY hframes (by rw [hlY]; omega) h4 h5) h1
  obtain ⟨mid, hmid⟩ := h.above
  have hfr : (U.setTop g).frames = (.java g :: mid) ++ below := by rw [State.frames_setTop' g h.top, hmid]; rfl
  obtain ⟨o, s₂, hsteps, -, hend, hq⟩ := Steps.callFree hM p X.admits X.cas X.clock (acts := []) hfr happ hPc trivial
  have hq' : vx_Q Qc XC mc ms free a (U.calling g mk a) o s₂ := hq
  rw [State.frames_setTop' g h.top] at hend
  obtain ⟨g₀, hg0⟩ := Option.isSome_iff_exists.mp h.top
  obtain ⟨r, hr⟩ := State.topJava?_eq_some.mp hg0
  have hr' : (({ U with heap := s₂.heap, slotsUsed := s₂.slotsUsed } : State).setVm s₂.vm).frames = .java g₀ :: r := hr
  rcases hq' with ⟨hqc, L, hfe, hL⟩ | ⟨q, rfl, E, ce, L, hx, hce, hcv, hcl, hW₂, hsm, hL⟩
  · obtain ⟨⟨v, rfl⟩, hW₂, e2, q2, q3, q4, q5, q6⟩ := id hfe
    have e3 : s₂ = ({ (U.calling g mk a).setFrames s₂.frames with heap := s₂.heap, slotsUsed := s₂.slotsUsed } : State).setVm s₂.vm := by
      have : s₂ = ({ s₂ with vm := (U.calling g mk a).vm } : State).setVm s₂.vm := rfl
      rw [e2] at this
      exact this
    obtain ⟨c₂, i₂, len₂, hc₂, hd₂, hf₂⟩ := hend
    have hW' : U.WarmedH s₂.vm := hW₂
    have hcc : c₂ = c := by
      have h1 : s₂.code? g.method = U.code? g.method := by
        rw [State.code?_eq, State.code?_eq, hW'.alike.method?]
      exact Option.some.inj (hc₂.symm.trans (h1.trans h.code))
    subst hcc
    have hlen : len₂ = len := by rw [hdg] at hd₂; cases hd₂; rfl
    subst hlen
    have hs₂ : s₂ = (({ U with heap := s₂.heap, slotsUsed := s₂.slotsUsed } : State).setVm s₂.vm).setTop { g with pc := g.pc + len₂, stack := v.toList ++ g.stack } := by
      refine e3.trans ?_
      rw [hf₂, State.calling_eq h.top, State.setFrames_setFrames, State.setTop_of_frames _ hr', hr]
      rfl
    have hsame : U.sameButNew ({ U with heap := s₂.heap, slotsUsed := s₂.slotsUsed } : State) L mc ms := by
      refine ⟨?_, q2, q3, q4, q5, q6⟩
      obtain ⟨t, ht, -⟩ := State.frames_cons hr
      show ({ U with heap := s₂.heap, slotsUsed := s₂.slotsUsed } : State) = { U.setFrames U.frames with heap := s₂.heap, slotsUsed := s₂.slotsUsed }
      rw [State.setFrames_self ht]
    subst hg
    refine Or.inl ⟨v, ⟨(({ U with heap := s₂.heap, slotsUsed := s₂.slotsUsed } : State).setVm s₂.vm), Ls ++ L, c0 + mc, s0 + ms⟩,
      ⟨X.admits, X.cas, X.clock, X.frames, X.room, X.hears, X.method, X.code, (X.here.setHeapUsed s₂.heap s₂.slotsUsed).setVm hW'.alike, X.tail, State.WarmedH.trans X.warmed hW', X.limits, X.bytes, X.same.trans (hsame.setVm s.vm)⟩,
      ⟨g, mk, s₂, L, rfl, rfl, hqc, rfl, hL, rfl, rfl⟩, ?_⟩
    show Steps p.tables e below _ ((({ U with heap := s₂.heap, slotsUsed := s₂.slotsUsed } : State).setVm s₂.vm).setTop { g with pc := g.pc + len₂, stack := v.toList ++ g.stack })
    rw [← hs₂]
    exact hsteps
  · obtain ⟨e2, q2, q3, q4, q5, q6⟩ := id hsm
    have e3 : s₂ = ({ (U.calling g mk a).setFrames s₂.frames with heap := s₂.heap, slotsUsed := s₂.slotsUsed } : State).setVm s₂.vm := by
      have : s₂ = ({ s₂ with vm := (U.calling g mk a).vm } : State).setVm s₂.vm := rfl
      rw [e2] at this
      exact this
    have hf₂ : s₂.frames = .throwing q :: .java g :: U.frames.tail := hend
    have hW' : U.WarmedH s₂.vm := hW₂
    have hs₂ : s₂ = ((({ U with heap := s₂.heap, slotsUsed := s₂.slotsUsed } : State).setVm s₂.vm).setTop g).pushFrame (.throwing q) := by
      refine e3.trans ?_
      rw [hf₂, State.calling_eq h.top, State.setFrames_setFrames, State.pushFrame, State.frames_setTop _ hr', State.setTop_of_frames _ hr', State.setFrames_setFrames, hr]
      rfl
    have hsame : U.sameButNew ({ U with heap := s₂.heap, slotsUsed := s₂.slotsUsed } : State) L mc ms := by
      refine ⟨?_, q2, q3, q4, q5, q6⟩
      obtain ⟨t, ht, -⟩ := State.frames_cons hr
      show ({ U with heap := s₂.heap, slotsUsed := s₂.slotsUsed } : State) = { U.setFrames U.frames with heap := s₂.heap, slotsUsed := s₂.slotsUsed }
      rw [State.setFrames_self ht]
    subst hg
    refine Or.inr ⟨q, ⟨(({ U with heap := s₂.heap, slotsUsed := s₂.slotsUsed } : State).setVm s₂.vm), Ls ++ L, c0 + mc, s0 + ms⟩,
      ⟨X.admits, X.cas, X.clock, X.frames, X.room, X.hears, X.method, X.code, (X.here.setHeapUsed s₂.heap s₂.slotsUsed).setVm hW'.alike, X.tail, State.WarmedH.trans X.warmed hW', X.limits, X.bytes, X.same.trans (hsame.setVm s.vm)⟩,
      ⟨g, mk, s₂, L, E, ce, rfl, rfl, hx, hce, hcv, hcl, rfl, hL, rfl, rfl⟩, ?_⟩
    show Steps p.tables e below _ (((({ U with heap := s₂.heap, slotsUsed := s₂.slotsUsed } : State).setVm s₂.vm).setTop g).pushFrame (.throwing q))
    rw [← hs₂]
    exact hsteps
end Payer
section Calls
variable {p : Program} {l : Launch} {e : Env} {R : Room} {s : State} {m : MethodId} {args : Array Value} {below : List Frame} {meth : Method} {c : Code} {T : State} {locs : List Loc} {cells slots : Nat}
theorem vx_callV (X : Stand p l e R s m args below meth c T locs cells slots) (hexec : p.tables.exec = Jvm.exec) {own C : String} {index : Nat} {y : MethodName} {bytes : ByteArray} {maxL : Nat} {ret : Option FieldType}
    (hown : s.vm.findClass own = some m.cls) (hlink : (Cond.methodLink own index y).before args s = true) (hinst : (Cond.instanceMethod y).before args s = true) (hsel : (Cond.selects C y y).before args s = true)
    (hcode : (Cond.code y bytes maxL ret).before args s = true) (hy : y.cls ≠ "java/lang/invoke/MethodHandle" ∧ y.cls ≠ "java/lang/invoke/VarHandle")
    {W9 : Nat} {Pre : Pt → Array Value → Prop} {Post : Pt → Array Value → Option Value → Pt → Prop} {PostX : Pt → Array Value → Addr → Pt → Prop} (hK : vx_Back l R p e below s args y 3 W9 Pre Post PostX)
    {b : Addr} {cellB : Cell} (hcell : T.heap[b]? = some cellB) (hobj : cellB.vm.isStatics = false) (hcls : s.vm.findClass C = some cellB.cls)
    {g : JFrame} (hg : g.method = m) (hsize : g.locals.size = c.maxLocals) {argsL rest : List Value} (hlen : ∀ sig, parseMethodDescriptor y.desc = some sig → argsL.length = sig.parameters.length)
    (hstack : g.stack = argsL.reverse ++ .ref b :: rest) (hW : 2 * g.monitorRoom + (rest.map fun v => v.category).sum ≤ W9) (hdg : decode c.code g.pc = .ok (.invokevirtual index, 3))
    (hpre : ∀ vm₁, s.WarmedH vm₁ → Pre ⟨T.setVm vm₁, locs, cells, slots⟩ (Value.ref b :: argsL).toArray) :
    (∃ (v : Option Value) (vm₁ : Vm) (B : Pt), s.WarmedH vm₁ ∧ Stand p l e R s m args below meth c B.U B.locs B.cells B.slots ∧ Post ⟨T.setVm vm₁, locs, cells, slots⟩ (Value.ref b :: argsL).toArray v B ∧
      ∀ target, Steps p.tables e below (B.U.setTop { g with pc := g.pc + 3, stack := v.toList ++ rest }) target → Steps p.tables e below (T.setTop g) target) ∨
    (∃ (q : Addr) (vm₁ : Vm) (B : Pt), s.WarmedH vm₁ ∧ Stand p l e R s m args below meth c B.U B.locs B.cells B.slots ∧ PostX ⟨T.setVm vm₁, locs, cells, slots⟩ (Value.ref b :: argsL).toArray q B ∧
      Steps p.tables e below (T.setTop g) ((B.U.setTop { g with stack := rest }).pushFrame (.throwing q))) := by
  obtain ⟨mk, methM, hnamed, hmethM, hstM, habM⟩ := Cond.instanceMethod_spec hinst
  obtain ⟨methM', cM, hmethM', -, -, -, -, -, -, hsigM⟩ := Cond.code_spec hnamed hcode
  cases hmethM.symm.trans hmethM'
  obtain ⟨c2, r2, m2, q1, q2, q3, q4, kP, hkP, hkPi⟩ := Cond.selects_spec hsel
  cases hcls.symm.trans q1
  cases (State.methodFound?_of_named hnamed hy).symm.trans q2
  cases hnamed.symm.trans q3
  have hselP : selectMethod e.platform s.vm cellB.cls mk = .method mk := by rw [Launch.admits_selectMethod X.admits]; exact q4
  obtain ⟨vm₁, X₁, hstep₁⟩ := X.invokevirtual hexec hown hlink hnamed hmethM hstM hkP hkPi hy (a := b) (cell := cellB) hcell
    (fun z h => by rw [h] at hobj; cases hobj) hselP hmethM habM hkP hkPi (g := g) hg (argsL := argsL) (rest := rest) (hlen _ hsigM) hstack hdg
  rcases hK m meth c ⟨T.setVm vm₁, locs, cells, slots⟩ { g with stack := rest } (.invokevirtual index) mk (Value.ref b :: argsL).toArray X₁ hg hsize hdg hW (X₁.named hnamed) (hpre vm₁ X₁.warmed) with ⟨v, B, X', hpost, hsteps⟩ | ⟨q, B, X', hpost, hsteps⟩
  · exact Or.inl ⟨v, vm₁, B, X₁.warmed, X', hpost, fun target h => hstep₁ _ fun acts => by rw [doInvoke_state]; exact hsteps.trans h⟩
  · exact Or.inr ⟨q, vm₁, B, X₁.warmed, X', hpost, hstep₁ _ fun acts => by rw [doInvoke_state]; exact hsteps⟩
theorem vx_callS (X : Stand p l e R s m args below meth c T locs cells slots) (hexec : p.tables.exec = Jvm.exec) {own : String} {index : Nat} {y : MethodName} {bytes : ByteArray} {maxL : Nat} {ret : Option FieldType}
    (hown : s.vm.findClass own = some m.cls) (hlink : (Cond.methodLink own index y).before args s = true) (hstat : (Cond.static y).before args s = true) (hinit : (Cond.initialized y.cls).before args s = true)
    (hcode : (Cond.code y bytes maxL ret).before args s = true) (hy : y.cls ≠ "java/lang/invoke/MethodHandle" ∧ y.cls ≠ "java/lang/invoke/VarHandle")
    {W9 : Nat} {Pre : Pt → Array Value → Prop} {Post : Pt → Array Value → Option Value → Pt → Prop} {PostX : Pt → Array Value → Addr → Pt → Prop} (hK : vx_Back l R p e below s args y 3 W9 Pre Post PostX)
    {g : JFrame} (hg : g.method = m) (hsize : g.locals.size = c.maxLocals) {argsL rest : List Value} (hlen : ∀ sig, parseMethodDescriptor y.desc = some sig → argsL.length = sig.parameters.length)
    (hstack : g.stack = argsL.reverse ++ rest) (hW : 2 * g.monitorRoom + (rest.map fun v => v.category).sum ≤ W9) (hdg : decode c.code g.pc = .ok (.invokestatic index, 3))
    (hpre : ∀ vm₁, s.WarmedH vm₁ → Pre ⟨T.setVm vm₁, locs, cells, slots⟩ argsL.toArray) :
    (∃ (v : Option Value) (vm₁ : Vm) (B : Pt), s.WarmedH vm₁ ∧ Stand p l e R s m args below meth c B.U B.locs B.cells B.slots ∧ Post ⟨T.setVm vm₁, locs, cells, slots⟩ argsL.toArray v B ∧
      ∀ target, Steps p.tables e below (B.U.setTop { g with pc := g.pc + 3, stack := v.toList ++ rest }) target → Steps p.tables e below (T.setTop g) target) ∨
    (∃ (q : Addr) (vm₁ : Vm) (B : Pt), s.WarmedH vm₁ ∧ Stand p l e R s m args below meth c B.U B.locs B.cells B.slots ∧ PostX ⟨T.setVm vm₁, locs, cells, slots⟩ argsL.toArray q B ∧
      Steps p.tables e below (T.setTop g) ((B.U.setTop { g with stack := rest }).pushFrame (.throwing q))) := by
  obtain ⟨mk, hnamed⟩ := Cond.code_named hcode
  obtain ⟨methM, cM, hmethM, -, -, -, -, -, -, hsigM⟩ := Cond.code_spec hnamed hcode
  have hstatic : methM.isStatic = true := Cond.static_spec hnamed hmethM hstat
  obtain ⟨kP, hkP, -⟩ := className_of_methodNamed hnamed
  have hinitP : kP.init = .initialized := Cond.initialized_spec (findClass_of_methodNamed hnamed) hkP hinit
  obtain ⟨vm₁, X₁, hstep₁⟩ := X.invokestatic hexec hown hlink hnamed hmethM hstatic hkP hinitP hy (g := g) hg (argsL := argsL) (rest := rest) (hlen _ hsigM) hstack hdg
  rcases hK m meth c ⟨T.setVm vm₁, locs, cells, slots⟩ { g with stack := rest } (.invokestatic index) mk argsL.toArray X₁ hg hsize hdg hW (X₁.named hnamed) (hpre vm₁ X₁.warmed) with ⟨v, B, X', hpost, hsteps⟩ | ⟨q, B, X', hpost, hsteps⟩
  · exact Or.inl ⟨v, vm₁, B, X₁.warmed, X', hpost, fun target h => hstep₁ _ fun acts => by rw [doInvoke_state]; exact hsteps.trans h⟩
  · exact Or.inr ⟨q, vm₁, B, X₁.warmed, X', hpost, hstep₁ _ fun acts => by rw [doInvoke_state]; exact hsteps⟩
end Calls
theorem vx_cls {s : State} {T : State} {vm₁ : Vm} {E : String} {k : ClassId} (hW : s.WarmedH vm₁) (h : (T.setVm vm₁).vm.findClass E = some k) : s.vm.findClass E = some k := by
  have h1 : vm₁.findClass E = some k := h
  rw [hW.alike.findClass] at h1
  exact h1
/-- the method's frame g, with q thrown over it -/
def vx_W (p : Program) (l : Launch) (e : Env) (R : Room) (s : State) (m : MethodId) (args : Array Value) (below : List Frame) (meth : Method) (c : Code) (H : Heap) (locs : List Loc) (cells slots : Nat) (Q : State → Prop) (g : JFrame) (q : Addr) : Prop :=
  ∀ T : State, T.heap = H → Stand p l e R s m args below meth c T locs cells slots → ∃ t, Steps p.tables e below ((T.setTop g).pushFrame (.throwing q)) t ∧ Q t
def vx_Run (p : Program) (l : Launch) (e : Env) (R : Room) (s : State) (m : MethodId) (args : Array Value) (below : List Frame) (meth : Method) (c : Code) (H : Heap) (locs : List Loc) (cells slots mc ms : Nat) (g : JFrame) (rest : List Value) (Qa : State → Outcome → State → Prop) (XC : String → State → State → Prop) (free : Addr → Prop) : Prop :=
  ∀ T : State, T.heap = H → Stand p l e R s m args below meth c T locs cells slots →
    (∃ (v : Option Value) (st₀ t T' : State) (L : List Loc), st₀.heap = H ∧ Stand p l e R s m args below meth c T' (locs ++ L) (cells + mc) (slots + ms) ∧ (∀ q ∈ L, free q.base) ∧ T'.heap = t.heap ∧ T'.vm = t.vm ∧ Qa st₀ (.returned v) t ∧
      Goes p e below T g T' { g with pc := g.pc + 3, stack := v.toList ++ rest }) ∨
    (∃ (q : Addr) (st₀ t T' : State) (L : List Loc) (E : String) (ce : Cell), st₀.heap = H ∧ Stand p l e R s m args below meth c T' (locs ++ L) (cells + mc) (slots + ms) ∧ (∀ z ∈ L, free z.base) ∧ T'.heap = t.heap ∧ T'.vm = t.vm ∧ XC E st₀ t ∧ t.heap[q]? = some ce ∧ ce.vm = .none ∧ s.vm.findClass E = some ce.cls ∧
      Steps p.tables e below (T.setTop g) ((T'.setTop { g with stack := rest }).pushFrame (.throwing q)))
def vx_X {S : Type} (px : S → Prop) (B : String → S → State → Prop) (A : Nat → Prop) : String → State → State → Prop := fun E st t => ∃ u : S, px u ∧ B E u t ∧ va_F A st t
section Runs
variable {p : Program} {l : Launch} {e : Env} {R : Room} {s : State} {m : MethodId} {args : Array Value} {below : List Frame} {meth : Method} {c : Code} {H : Heap} {locs : List Loc} {cells slots : Nat}
variable {y : MethodName} {bytes cc : ByteArray} {maxL nL mc ms n index : Nat} {ret : Option FieldType} {ws : List Cond} {rm : Room} {Pc : Array Value → State → Prop} {Qc : Array Value → State → Outcome → State → Prop} {XC : String → State → State → Prop} {free : Addr → Prop} {Ts : List Cond} {own C : String} {b : Addr} {As rest : List Value} {g : JFrame}
theorem vx_callBack (cb : CallB R s args own index y bytes maxL ret ws rm mc ms n) (hM : vx_Met l y ws rm Pc Qc XC mc ms free) (hbl : FrameBlind Pc) : vx_Back l R p e below s args y 3 8 (PreOf R mc ms Pc) (PostOf Qc mc ms free) (vx_Post XC mc ms free) := by
  obtain ⟨hrc, hrs, hfr, hlo, hws, hcw, -, hini, -⟩ := cb
  exact vx_back (bytes := bytes) (maxL := maxL) (ret := ret) hM hbl hrc hrs hfr hlo hws hcw (fun a' U hW => word_at hW (Or.inl (by first | rfl | simp [Cond.onTables, Cond.keeps, Cond.steady])) hini)
theorem vx_runV (S : CallFix p m c cc nL s args Ts own) (hM : vx_Met l y ws rm Pc Qc XC mc ms free) (cw : CallW R s args own C index y bytes maxL ret ws rm mc ms n) (hp : PreV s H C b Pc As)
    (hg : g.method = m) (hn : As.length = n) (hsize : g.locals.size = nL) (hstack : g.stack = As.reverse ++ .ref b :: rest) (hW : 2 * g.monitorRoom + (rest.map fun v => v.category).sum ≤ 8) (hdg : decode cc g.pc = .ok (.invokevirtual index, 3)) (hf : cells + mc ≤ R.cells ∧ slots + ms ≤ R.slots) :
    vx_Run p l e R s m args below meth c H locs cells slots mc ms g rest (Qc (Value.ref b :: As).toArray) XC free := by
  have hK : vx_Back l R p e below s args y 3 8 (PreOf R mc ms Pc) (PostOf Qc mc ms free) (vx_Post XC mc ms free) := vx_callBack cw.1 hM hp.1
  obtain ⟨⟨-, -, -, -, -, -, hcode, -, hy, hlen, hl⟩, hin, hse⟩ := cw
  obtain ⟨hx, hb, hml, ho, -⟩ := S
  obtain ⟨-, ⟨cellB, hcB, hoB, hclB⟩, hPc⟩ := hp
  intro T hT X
  rcases vx_callV X hx (C := C) (bytes := bytes) (maxL := maxL) (ret := ret) ho hl hin hse hcode hy hK (by rw [hT]; exact hcB) hoB hclB hg (hsize.trans hml.symm) (argsL := As) (rest := rest) (fun sig h => hn.trans (hlen sig h)) hstack hW (by rw [hb]; exact hdg)
    (fun vm₁ hW₁ => ⟨hf.1, hf.2, hPc (T.setVm vm₁) hT hW₁⟩) with ⟨v, vm₁, ⟨U', l2, c2, s2⟩, hW₁, X', ⟨g', mk, t, L, e1, e2, hq, h1, hL, h2, h3⟩, st⟩ | ⟨q, vm₁, ⟨U', l2, c2, s2⟩, hW₁, X', ⟨g', mk, t, L, E, ce, e1, e2, hq, hce, hcv, hcl, h1, hL, h2, h3⟩, st⟩
  · dsimp only [Pt.U, Pt.locs, Pt.cells, Pt.slots] at X' e1 e2 h1 h2 h3 st
    subst h1; subst h2; subst h3
    exact Or.inl ⟨v, (T.setVm vm₁).calling g' mk (Value.ref b :: As).toArray, t, U', L, hT, X', hL, e1, e2, hq, st⟩
  · dsimp only [Pt.U, Pt.locs, Pt.cells, Pt.slots] at X' e1 e2 h1 h2 h3 st hcl
    subst h1; subst h2; subst h3
    exact Or.inr ⟨q, (T.setVm vm₁).calling g' mk (Value.ref b :: As).toArray, t, U', L, E, ce, hT, X', hL, e1, e2, hq, hce, hcv, vx_cls hW₁ hcl, st⟩
theorem vx_runS (S : CallFix p m c cc nL s args Ts own) (hM : vx_Met l y ws rm Pc Qc XC mc ms free) (cw : CallB R s args own index y bytes maxL ret ws rm mc ms n ∧ (Cond.static y).before args s = true) (hp : PreS s H Pc As)
    (hg : g.method = m) (hn : As.length = n) (hsize : g.locals.size = nL) (hstack : g.stack = As.reverse ++ rest) (hW : 2 * g.monitorRoom + (rest.map fun v => v.category).sum ≤ 8) (hdg : decode cc g.pc = .ok (.invokestatic index, 3)) (hf : cells + mc ≤ R.cells ∧ slots + ms ≤ R.slots) :
    vx_Run p l e R s m args below meth c H locs cells slots mc ms g rest (Qc As.toArray) XC free := by
  have hK : vx_Back l R p e below s args y 3 8 (PreOf R mc ms Pc) (PostOf Qc mc ms free) (vx_Post XC mc ms free) := vx_callBack cw.1 hM hp.1
  obtain ⟨⟨-, -, -, -, -, -, hcode, hini, hy, hlen, hl⟩, hstt⟩ := cw
  obtain ⟨hx, hb, hml, ho, -⟩ := S
  intro T hT X
  rcases vx_callS X hx (bytes := bytes) (maxL := maxL) (ret := ret) ho hl hstt hini hcode hy hK hg (hsize.trans hml.symm) (argsL := As) (rest := rest) (fun sig h => hn.trans (hlen sig h)) hstack hW (by rw [hb]; exact hdg)
    (fun vm₁ hW₁ => ⟨hf.1, hf.2, hp.2 (T.setVm vm₁) hT hW₁⟩) with ⟨v, vm₁, ⟨U', l2, c2, s2⟩, hW₁, X', ⟨g', mk, t, L, e1, e2, hq, h1, hL, h2, h3⟩, st⟩ | ⟨q, vm₁, ⟨U', l2, c2, s2⟩, hW₁, X', ⟨g', mk, t, L, E, ce, e1, e2, hq, hce, hcv, hcl, h1, hL, h2, h3⟩, st⟩
  · dsimp only [Pt.U, Pt.locs, Pt.cells, Pt.slots] at X' e1 e2 h1 h2 h3 st
    subst h1; subst h2; subst h3
    exact Or.inl ⟨v, (T.setVm vm₁).calling g' mk As.toArray, t, U', L, hT, X', hL, e1, e2, hq, st⟩
  · dsimp only [Pt.U, Pt.locs, Pt.cells, Pt.slots] at X' e1 e2 h1 h2 h3 st hcl
    subst h1; subst h2; subst h3
    exact Or.inr ⟨q, (T.setVm vm₁).calling g' mk As.toArray, t, U', L, E, ce, hT, X', hL, e1, e2, hq, hce, hcv, vx_cls hW₁ hcl, st⟩
end Runs
section Rows
variable {p : Program} {l : Launch} {e : Env} {R : Room} {s : State} {m : MethodId} {args : Array Value} {below : List Frame} {meth : Method} {c : Code} {H : Heap} {locs : List Loc} {cells slots : Nat} {Q : State → Prop}
variable {mc ms : Nat} {free : Addr → Prop} {A0 A1 : Nat → Prop} {H0 : Heap} {a : Array Value} {pc : Nat} {ls : Array Slot} {st0 rest : List Value}
theorem vx_keep {st₀ t T' : State} {L : List Loc} (h0 : st₀.heap = H) (e1 : T'.heap = t.heap) (hS : va_S A0 H0 H locs) (hA : ∀ q, q < H.size → A1 q → A0 q) (hf : ∀ q, free q → A0 q) (hL : ∀ q ∈ L, free q.base) (hF : va_F A1 st₀ t) :
    H.size ≤ T'.heap.size ∧ (∀ q : Nat, q < H.size → ¬ A1 q → T'.heap[q]? = H[q]?) ∧ va_S A0 H0 T'.heap (locs ++ L) := by
  obtain ⟨hz, hk⟩ := hF
  rw [h0] at hz hk
  exact ⟨by rw [e1]; exact hz, fun q h1 h2 => by rw [e1]; exact hk q h1 h2,
    ⟨Nat.le_trans hS.1 (by rw [e1]; exact hz), fun q h1 h2 => by rw [e1, hk q (Nat.lt_of_lt_of_le h1 hS.1) (fun z => h2 (hA q (Nat.lt_of_lt_of_le h1 hS.1) z))]; exact hS.2.1 q h1 h2, fun q hq => by
      rcases List.mem_append.mp hq with h | h
      · exact hS.2.2 q h
      · exact hf _ (hL q h)⟩⟩
theorem vx_calli {S SX : Type} {post : Int32 → S → Prop} {px : SX → Prop} {B : S → State → Prop} {BX : String → SX → State → Prop} {AX : Nat → Prop} (hr : vx_Run p l e R s m args below meth c H locs cells slots mc ms (F0 m pc ls st0) rest (va_Qi post B A1 a) (vx_X px BX AX) free) (hS : va_S A0 H0 H locs) (hA : ∀ q, q < H.size → A1 q → A0 q) (hf : ∀ q, free q → A0 q) (hAX : ∀ q, q < H.size → AX q → A0 q)
    (kx : ∀ (E : String) (ce : Cell) (q9 : Addr) (u : SX) (t : State) (H1 : Heap) (locs1 : List Loc), t.heap = H1 → s.vm.Alike t.vm → px u → BX E u t → H.size ≤ H1.size → (∀ q : Nat, q < H.size → ¬ AX q → H1[q]? = H[q]?) → va_S A0 H0 H1 locs1 → H1[q9]? = some ce → ce.vm = .none → s.vm.findClass E = some ce.cls → vx_W p l e R s m args below meth c H1 locs1 (cells + mc) (slots + ms) Q (F0 m pc ls rest) q9)
    (kk : ∀ (r : Int32) (u : S) (t : State) (H1 : Heap) (locs1 : List Loc), t.heap = H1 → s.vm.Alike t.vm → post r u → B u t → H.size ≤ H1.size → (∀ q : Nat, q < H.size → ¬ A1 q → H1[q]? = H[q]?) → va_S A0 H0 H1 locs1 → W p l e R s m args below meth c H1 locs1 (cells + mc) (slots + ms) Q (F0 m (pc + 3) ls (.int r :: rest))) : W p l e R s m args below meth c H locs cells slots Q (F0 m pc ls st0) := by
  intro T hT X
  rcases hr T hT X with ⟨v, st₀, t, T', L, h0, X', hL, e1, e2, ⟨⟨r, u, hv, hp, hb⟩, hF⟩, st⟩ | ⟨q, st₀, t, T', L, E, ce, h0, X', hL, e1, e2, ⟨u, hp, hb, hF⟩, hce, hcv, hcl, st⟩
  · cases hv
    obtain ⟨k1, k2, k3⟩ := vx_keep h0 e1 hS hA hf hL hF
    obtain ⟨t2, a1, b1⟩ := kk r u t T'.heap (locs ++ L) e1.symm (by rw [← e2]; exact X'.warmed.alike) hp hb k1 k2 k3 T' rfl X'
    exact ⟨t2, st t2 a1, b1⟩
  · obtain ⟨k1, k2, k3⟩ := vx_keep h0 e1 hS hAX hf hL hF
    obtain ⟨t2, a1, b1⟩ := kx E ce q u t T'.heap (locs ++ L) e1.symm (by rw [← e2]; exact X'.warmed.alike) hp hb k1 k2 k3 (by rw [e1]; exact hce) hcv hcl T' rfl X'
    exact ⟨t2, st.trans a1, b1⟩
theorem vx_calll {S SX : Type} {post : Int64 → S → Prop} {px : SX → Prop} {B : S → State → Prop} {BX : String → SX → State → Prop} {AX : Nat → Prop} (hr : vx_Run p l e R s m args below meth c H locs cells slots mc ms (F0 m pc ls st0) rest (va_Ql post B A1 a) (vx_X px BX AX) free) (hS : va_S A0 H0 H locs) (hA : ∀ q, q < H.size → A1 q → A0 q) (hf : ∀ q, free q → A0 q) (hAX : ∀ q, q < H.size → AX q → A0 q)
    (kx : ∀ (E : String) (ce : Cell) (q9 : Addr) (u : SX) (t : State) (H1 : Heap) (locs1 : List Loc), t.heap = H1 → s.vm.Alike t.vm → px u → BX E u t → H.size ≤ H1.size → (∀ q : Nat, q < H.size → ¬ AX q → H1[q]? = H[q]?) → va_S A0 H0 H1 locs1 → H1[q9]? = some ce → ce.vm = .none → s.vm.findClass E = some ce.cls → vx_W p l e R s m args below meth c H1 locs1 (cells + mc) (slots + ms) Q (F0 m pc ls rest) q9)
    (kk : ∀ (r : Int64) (u : S) (t : State) (H1 : Heap) (locs1 : List Loc), t.heap = H1 → s.vm.Alike t.vm → post r u → B u t → H.size ≤ H1.size → (∀ q : Nat, q < H.size → ¬ A1 q → H1[q]? = H[q]?) → va_S A0 H0 H1 locs1 → W p l e R s m args below meth c H1 locs1 (cells + mc) (slots + ms) Q (F0 m (pc + 3) ls (.long r :: rest))) : W p l e R s m args below meth c H locs cells slots Q (F0 m pc ls st0) := by
  intro T hT X
  rcases hr T hT X with ⟨v, st₀, t, T', L, h0, X', hL, e1, e2, ⟨⟨r, u, hv, hp, hb⟩, hF⟩, st⟩ | ⟨q, st₀, t, T', L, E, ce, h0, X', hL, e1, e2, ⟨u, hp, hb, hF⟩, hce, hcv, hcl, st⟩
  · cases hv
    obtain ⟨k1, k2, k3⟩ := vx_keep h0 e1 hS hA hf hL hF
    obtain ⟨t2, a1, b1⟩ := kk r u t T'.heap (locs ++ L) e1.symm (by rw [← e2]; exact X'.warmed.alike) hp hb k1 k2 k3 T' rfl X'
    exact ⟨t2, st t2 a1, b1⟩
  · obtain ⟨k1, k2, k3⟩ := vx_keep h0 e1 hS hAX hf hL hF
    obtain ⟨t2, a1, b1⟩ := kx E ce q u t T'.heap (locs ++ L) e1.symm (by rw [← e2]; exact X'.warmed.alike) hp hb k1 k2 k3 (by rw [e1]; exact hce) hcv hcl T' rfl X'
    exact ⟨t2, st.trans a1, b1⟩
theorem vx_callf {S SX : Type} {post : UInt32 → S → Prop} {px : SX → Prop} {B : S → State → Prop} {BX : String → SX → State → Prop} {AX : Nat → Prop} (hr : vx_Run p l e R s m args below meth c H locs cells slots mc ms (F0 m pc ls st0) rest (va_Qf post B A1 a) (vx_X px BX AX) free) (hS : va_S A0 H0 H locs) (hA : ∀ q, q < H.size → A1 q → A0 q) (hf : ∀ q, free q → A0 q) (hAX : ∀ q, q < H.size → AX q → A0 q)
    (kx : ∀ (E : String) (ce : Cell) (q9 : Addr) (u : SX) (t : State) (H1 : Heap) (locs1 : List Loc), t.heap = H1 → s.vm.Alike t.vm → px u → BX E u t → H.size ≤ H1.size → (∀ q : Nat, q < H.size → ¬ AX q → H1[q]? = H[q]?) → va_S A0 H0 H1 locs1 → H1[q9]? = some ce → ce.vm = .none → s.vm.findClass E = some ce.cls → vx_W p l e R s m args below meth c H1 locs1 (cells + mc) (slots + ms) Q (F0 m pc ls rest) q9)
    (kk : ∀ (r : UInt32) (u : S) (t : State) (H1 : Heap) (locs1 : List Loc), t.heap = H1 → s.vm.Alike t.vm → post r u → B u t → H.size ≤ H1.size → (∀ q : Nat, q < H.size → ¬ A1 q → H1[q]? = H[q]?) → va_S A0 H0 H1 locs1 → W p l e R s m args below meth c H1 locs1 (cells + mc) (slots + ms) Q (F0 m (pc + 3) ls (.float r :: rest))) : W p l e R s m args below meth c H locs cells slots Q (F0 m pc ls st0) := by
  intro T hT X
  rcases hr T hT X with ⟨v, st₀, t, T', L, h0, X', hL, e1, e2, ⟨⟨r, u, hv, hp, hb⟩, hF⟩, st⟩ | ⟨q, st₀, t, T', L, E, ce, h0, X', hL, e1, e2, ⟨u, hp, hb, hF⟩, hce, hcv, hcl, st⟩
  · cases hv
    obtain ⟨k1, k2, k3⟩ := vx_keep h0 e1 hS hA hf hL hF
    obtain ⟨t2, a1, b1⟩ := kk r u t T'.heap (locs ++ L) e1.symm (by rw [← e2]; exact X'.warmed.alike) hp hb k1 k2 k3 T' rfl X'
    exact ⟨t2, st t2 a1, b1⟩
  · obtain ⟨k1, k2, k3⟩ := vx_keep h0 e1 hS hAX hf hL hF
    obtain ⟨t2, a1, b1⟩ := kx E ce q u t T'.heap (locs ++ L) e1.symm (by rw [← e2]; exact X'.warmed.alike) hp hb k1 k2 k3 (by rw [e1]; exact hce) hcv hcl T' rfl X'
    exact ⟨t2, st.trans a1, b1⟩
theorem vx_calld {S SX : Type} {post : UInt64 → S → Prop} {px : SX → Prop} {B : S → State → Prop} {BX : String → SX → State → Prop} {AX : Nat → Prop} (hr : vx_Run p l e R s m args below meth c H locs cells slots mc ms (F0 m pc ls st0) rest (va_Qd post B A1 a) (vx_X px BX AX) free) (hS : va_S A0 H0 H locs) (hA : ∀ q, q < H.size → A1 q → A0 q) (hf : ∀ q, free q → A0 q) (hAX : ∀ q, q < H.size → AX q → A0 q)
    (kx : ∀ (E : String) (ce : Cell) (q9 : Addr) (u : SX) (t : State) (H1 : Heap) (locs1 : List Loc), t.heap = H1 → s.vm.Alike t.vm → px u → BX E u t → H.size ≤ H1.size → (∀ q : Nat, q < H.size → ¬ AX q → H1[q]? = H[q]?) → va_S A0 H0 H1 locs1 → H1[q9]? = some ce → ce.vm = .none → s.vm.findClass E = some ce.cls → vx_W p l e R s m args below meth c H1 locs1 (cells + mc) (slots + ms) Q (F0 m pc ls rest) q9)
    (kk : ∀ (r : UInt64) (u : S) (t : State) (H1 : Heap) (locs1 : List Loc), t.heap = H1 → s.vm.Alike t.vm → post r u → B u t → H.size ≤ H1.size → (∀ q : Nat, q < H.size → ¬ A1 q → H1[q]? = H[q]?) → va_S A0 H0 H1 locs1 → W p l e R s m args below meth c H1 locs1 (cells + mc) (slots + ms) Q (F0 m (pc + 3) ls (.double r :: rest))) : W p l e R s m args below meth c H locs cells slots Q (F0 m pc ls st0) := by
  intro T hT X
  rcases hr T hT X with ⟨v, st₀, t, T', L, h0, X', hL, e1, e2, ⟨⟨r, u, hv, hp, hb⟩, hF⟩, st⟩ | ⟨q, st₀, t, T', L, E, ce, h0, X', hL, e1, e2, ⟨u, hp, hb, hF⟩, hce, hcv, hcl, st⟩
  · cases hv
    obtain ⟨k1, k2, k3⟩ := vx_keep h0 e1 hS hA hf hL hF
    obtain ⟨t2, a1, b1⟩ := kk r u t T'.heap (locs ++ L) e1.symm (by rw [← e2]; exact X'.warmed.alike) hp hb k1 k2 k3 T' rfl X'
    exact ⟨t2, st t2 a1, b1⟩
  · obtain ⟨k1, k2, k3⟩ := vx_keep h0 e1 hS hAX hf hL hF
    obtain ⟨t2, a1, b1⟩ := kx E ce q u t T'.heap (locs ++ L) e1.symm (by rw [← e2]; exact X'.warmed.alike) hp hb k1 k2 k3 (by rw [e1]; exact hce) hcv hcl T' rfl X'
    exact ⟨t2, st.trans a1, b1⟩
theorem vx_callv {S SX : Type} {post : S → Prop} {px : SX → Prop} {B : S → State → Prop} {BX : String → SX → State → Prop} {AX : Nat → Prop} (hr : vx_Run p l e R s m args below meth c H locs cells slots mc ms (F0 m pc ls st0) rest (va_Qv post B A1 a) (vx_X px BX AX) free) (hS : va_S A0 H0 H locs) (hA : ∀ q, q < H.size → A1 q → A0 q) (hf : ∀ q, free q → A0 q) (hAX : ∀ q, q < H.size → AX q → A0 q)
    (kx : ∀ (E : String) (ce : Cell) (q9 : Addr) (u : SX) (t : State) (H1 : Heap) (locs1 : List Loc), t.heap = H1 → s.vm.Alike t.vm → px u → BX E u t → H.size ≤ H1.size → (∀ q : Nat, q < H.size → ¬ AX q → H1[q]? = H[q]?) → va_S A0 H0 H1 locs1 → H1[q9]? = some ce → ce.vm = .none → s.vm.findClass E = some ce.cls → vx_W p l e R s m args below meth c H1 locs1 (cells + mc) (slots + ms) Q (F0 m pc ls rest) q9)
    (kk : ∀ (u : S) (t : State) (H1 : Heap) (locs1 : List Loc), t.heap = H1 → s.vm.Alike t.vm → post u → B u t → H.size ≤ H1.size → (∀ q : Nat, q < H.size → ¬ A1 q → H1[q]? = H[q]?) → va_S A0 H0 H1 locs1 → W p l e R s m args below meth c H1 locs1 (cells + mc) (slots + ms) Q (F0 m (pc + 3) ls (rest))) : W p l e R s m args below meth c H locs cells slots Q (F0 m pc ls st0) := by
  intro T hT X
  rcases hr T hT X with ⟨v, st₀, t, T', L, h0, X', hL, e1, e2, ⟨⟨u, hv, hp, hb⟩, hF⟩, st⟩ | ⟨q, st₀, t, T', L, E, ce, h0, X', hL, e1, e2, ⟨u, hp, hb, hF⟩, hce, hcv, hcl, st⟩
  · cases hv
    obtain ⟨k1, k2, k3⟩ := vx_keep h0 e1 hS hA hf hL hF
    obtain ⟨t2, a1, b1⟩ := kk u t T'.heap (locs ++ L) e1.symm (by rw [← e2]; exact X'.warmed.alike) hp hb k1 k2 k3 T' rfl X'
    exact ⟨t2, st t2 a1, b1⟩
  · obtain ⟨k1, k2, k3⟩ := vx_keep h0 e1 hS hAX hf hL hF
    obtain ⟨t2, a1, b1⟩ := kx E ce q u t T'.heap (locs ++ L) e1.symm (by rw [← e2]; exact X'.warmed.alike) hp hb k1 k2 k3 (by rw [e1]; exact hce) hcv hcl T' rfl X'
    exact ⟨t2, st.trans a1, b1⟩
/-- caught by the row x of this method's table; the rows ahead don't take it -/
theorem vx_catch {own name : String} {E : String} {ce : Cell} {q : Addr} (hown : s.vm.findClass own = some m.cls) (pre : List ExceptionTableEntry) (x : ExceptionTableEntry) (suf : List ExceptionTableEntry) (hsplit : c.exceptionTable.toList = pre ++ x :: suf)
    (hpass : ∀ z ∈ pre, covers z pc = false ∨ (z.catchType ≠ 0 ∧ ∃ nm : String, (Cond.classLink own z.catchType nm).before args s = true ∧ va_Nc E nm s)) (hx : covers x pc = true) (h0 : x.catchType ≠ 0)
    (hlink : (Cond.classLink own x.catchType name).before args s = true) (hcast : (Cond.castable E name).before args s = true) (hcell : H[q]? = some ce) (hv : ce.vm = .none) (hcl : s.vm.findClass E = some ce.cls)
    (kk : W p l e R s m args below meth c H locs cells slots Q (F0 m x.handlerPc ls [.ref q])) : vx_W p l e R s m args below meth c H locs cells slots Q (F0 m pc ls rest) q := by
  intro T hT X
  have hpl : e.platform.magicAccessors = ({} : Platform).magicAccessors := by rw [X.admits.platform]
  obtain ⟨c3, c4, hc3, hc4, hasg⟩ := Cond.castable_spec hcast
  cases Option.some.inj (hc3.symm.trans hcl)
  obtain ⟨c5, hc5, hcl5⟩ := Cond.classLink_spec hown hlink e.platform hpl
  cases Option.some.inj (hc4.symm.trans hc5)
  obtain ⟨vm', X', st⟩ := X.thenCaughtThrough q (g := F0 m pc ls rest) rfl (Steps.refl _) (by rw [hT]; exact hcell) (by rw [hv]; rfl) (by obtain ⟨k9, h9, -⟩ := Vm.findClass_spec hcl; exact ⟨k9, h9⟩) pre x suf hsplit
    (fun z hz => by
      rcases hpass z hz with h | ⟨hz0, nm, hl1, hn1⟩
      · exact Or.inl h
      · obtain ⟨c6, hc6, hcl6⟩ := Cond.classLink_spec hown hl1 e.platform hpl
        obtain ⟨a8, b8, h1, h2, h3⟩ := hn1
        cases Option.some.inj (h1.symm.trans hcl)
        cases Option.some.inj (h2.symm.trans hc6)
        exact Or.inr ⟨hz0, _, hcl6, h3⟩) hx (Or.inr ⟨h0, c4, hcl5, hasg⟩)
  obtain ⟨t, a1, b1⟩ := kk (T.setVm vm') hT X'
  exact ⟨t, st.trans a1, b1⟩
end Rows
section Ends
variable {p : Program} {l : Launch} {e : Env} {R : Room} {s : State} {m : MethodId} {args : Array Value} {below : List Frame} {meth : Method} {c : Code} {H : Heap} {locs : List Loc} {cells slots : Nat} {Q : State → Prop}
variable {mc ms : Nat} {free : Addr → Prop} {A0 A1 : Nat → Prop} {H0 : Heap} {a : Array Value} {ls : Array Slot} {st0 rest : List Value}
variable {Qc : Array Value → State → Outcome → State → Prop} {XC : String → State → State → Prop}
/-- what a body that may throw owes at its end -/
def vx_MQ (below : List Frame) (Qc : Array Value → State → Outcome → State → Prop) (XC : String → State → State → Prop) (a : Array Value) (s : State) (mc ms : Nat) (free : Addr → Prop) : State → Prop := fun t =>
  ∃ o, t.status = .running ∧ Ended t below o ∧ vx_Q Qc XC mc ms free a s o t
theorem vx_ret {g : JFrame} {mc ms : Nat} (k : W p l e R s m args below meth c H locs cells slots (MQ below Qc args s mc ms free) g) : W p l e R s m args below meth c H locs cells slots (vx_MQ below Qc XC args s mc ms free) g := by
  intro T hT X
  obtain ⟨t, a1, o, b1, b2, b3, b4⟩ := k T hT X
  exact ⟨t, a1, o, b1, b2, Or.inl ⟨b3, b4⟩⟩
/-- not caught here: it goes on to the caller -/
theorem vx_widen {g : JFrame} {q : Addr} {k n : Nat} (h1 : cells ≤ k) (h2 : slots ≤ n) (kk : vx_W p l e R s m args below meth c H locs k n Q g q) : vx_W p l e R s m args below meth c H locs cells slots Q g q := fun T hT X => kk T hT (stand_widen X h1 h2)
theorem vx_out {pc : Nat} {E : String} {ce : Cell} {q : Addr} {mc ms : Nat} (hout : ∀ x ∈ c.exceptionTable.toList, covers x pc = false) (hlocks : meth.locks = false) (hcell : H[q]? = some ce) (hv : ce.vm = .none) (hcl : s.vm.findClass E = some ce.cls)
    (hx : ∀ t : State, t.heap = H → s.vm.Alike t.vm → XC E s t) (hf : ∀ z ∈ locs, free z.base) (hc : cells ≤ mc) (hs : slots ≤ ms) :
    vx_W p l e R s m args below meth c H locs cells slots (vx_MQ below Qc XC args s mc ms free) (F0 m pc ls rest) q := by
  intro T hT X
  obtain ⟨st1, hrun, hend, hW, hsm⟩ := X.leaveThrown q (g := F0 m pc ls rest) rfl rfl rfl hout hlocks
  have hcell9 : (T.setFrames (.throwing q :: below)).heap[q]? = some ce := by
    show T.heap[q]? = some ce
    rw [hT]; exact hcell
  exact ⟨_, st1, .threw q, hrun, hend, Or.inr ⟨q, rfl, E, ce, locs, hx _ hT hW.alike, hcell9, hv, hcl, hW, hsm.mono hc hs, hf⟩⟩
theorem vx_frame {U : State} {k n : Nat} (h : s.sameButNew ({ U with vm := s.vm } : State) locs k n) : s.heap.size ≤ U.heap.size ∧ ∀ q : Nat, q < s.heap.size → (∀ z ∈ locs, z.base ≠ q) → U.heap[q]? = s.heap[q]? := by
  obtain ⟨-, h2, -, -, -, h6⟩ := h
  refine ⟨h2, fun q hq hz => ?_⟩
  obtain ⟨c9, e1, e2, e3, e4⟩ := h6 q _ (Array.getElem?_eq_getElem hq)
  have hs : c9.slots = (s.heap[q]).slots := Array.ext_getElem? fun i => e4 i fun hm => hz _ hm rfl
  have h9 : c9 = s.heap[q] := by
    rw [hs] at e2
    exact e2
  have e5 : U.heap[q]? = some c9 := e1
  rw [e5, h9, Array.getElem?_eq_getElem hq]
/-- the words of a throw but the four that speak of the heap -/
def vx_no (w : Cond) : Bool := decide (w ≠ .isRef (.static Bundle.tN "UNASSIGNED_STACK" Bundle.steD)) && decide (w ≠ .isRef (.static Bundle.tN "SUPPRESSED_SENTINEL" Bundle.listD)) && decide (w ≠ .laysStatic Bundle.tN "UNASSIGNED_STACK" Bundle.steD) && decide (w ≠ .laysStatic Bundle.tN "SUPPRESSED_SENTINEL" Bundle.listD)
def vx_at0 (own : String) (ic : Nat) (X : String) (names : List String) : List Cond := (Bundle.ownAtoms0 own ic X names).filter vx_no
def vx_atS (own : String) (ic : Nat) (X : String) (names : List String) : List Cond := (Bundle.ownAtoms own ic X names).filter vx_no
/-- a word that the tables alone decide, or a good one -/
def vx_ot (w : Cond) : Bool := w.onTables || goodWord w
theorem vx_ot_at {args a' : Array Value} {s U : State} {w : Cond} (hW : s.WarmedH U.vm) (hvm : s.vm = U.vm) (hg : vx_ot w = true) (h : w.before args s = true) : w.before a' U = true := by
  simp only [vx_ot, Bool.or_eq_true] at hg
  rcases hg with hg | hg
  · exact va_tabs hg hvm h
  · exact word_at hW (good_of_word hg) h
/-- a list's words: the good ones out of the method's own list, the others by premises of their own -/
theorem vx_hat {args : Array Value} {s : State} {L B : List Cond} (h1 : ∀ w ∈ L.filter goodWord, w.before args s = true) (h2 : ∀ w ∈ L.filter (fun w => !goodWord w), w ∈ B) (h3 : ∀ w ∈ B, w.before args s = true) : ∀ w ∈ L, w.before args s = true := by
  intro w hw
  by_cases g : goodWord w = true
  · exact h1 w (List.mem_filter.mpr ⟨hw, g⟩)
  · refine h3 w (h2 w (List.mem_filter.mpr ⟨hw, ?_⟩))
    show (!goodWord w) = true
    cases hgw : goodWord w
    · rfl
    · exact absurd hgw g
theorem vx_c {args : Array Value} {s : State} {w : Cond} {B : List Cond} (h : w.before args s = true) (t : ∀ w ∈ B, w.before args s = true) : ∀ w' ∈ w :: B, w'.before args s = true := fun w' h' => (List.mem_cons.mp h').elim (fun e => by rw [e]; exact h) (t w')
theorem vx_n {args : Array Value} {s : State} : ∀ w ∈ ([] : List Cond), w.before args s = true := fun _ h => nomatch h
theorem vx_own {args : Array Value} {s : State} {L : List Cond} (h1 : ∀ w ∈ L.filter vx_no, w.before args s = true)
    (hU : (Cond.isRef (.static Bundle.tN "UNASSIGNED_STACK" Bundle.steD)).before args s = true) (hN : (Cond.isRef (.static Bundle.tN "SUPPRESSED_SENTINEL" Bundle.listD)).before args s = true)
    (lU : (Cond.laysStatic Bundle.tN "UNASSIGNED_STACK" Bundle.steD).before args s = true) (lN : (Cond.laysStatic Bundle.tN "SUPPRESSED_SENTINEL" Bundle.listD).before args s = true) : ∀ w ∈ L, w.before args s = true := by
  intro w hw
  by_cases e1 : w = .isRef (.static Bundle.tN "UNASSIGNED_STACK" Bundle.steD)
  · rw [e1]; exact hU
  · by_cases e2 : w = .isRef (.static Bundle.tN "SUPPRESSED_SENTINEL" Bundle.listD)
    · rw [e2]; exact hN
    · by_cases e3 : w = .laysStatic Bundle.tN "UNASSIGNED_STACK" Bundle.steD
      · rw [e3]; exact lU
      · by_cases e4 : w = .laysStatic Bundle.tN "SUPPRESSED_SENTINEL" Bundle.listD
        · rw [e4]; exact lN
        · exact h1 w (List.mem_filter.mpr ⟨hw, by unfold vx_no; rw [decide_eq_true e1, decide_eq_true e2, decide_eq_true e3, decide_eq_true e4]; rfl⟩)
/-- where a static field lies, its class's statics cell in H -/
def vx_L (C n d : String) (A : Nat → Prop) (U : State) (H : Heap) : Prop := ∃ (c : ClassId) (k : Class) (i : Nat) (f : Field) (a : Nat) (cell : Cell), U.vm.findClass C = some c ∧ U.fieldFound? C n d = some (c, k, i, f) ∧ f.isStatic = true ∧ k.statics = some a ∧ H[a]? = some cell ∧ cell.vm.isStatics = true ∧ cell.cls = c ∧ f.slot < cell.slots.size ∧ k.staticTypes[f.slot]? = some f.type ∧ ¬ A a
theorem vx_L.moved {C n d : String} {A : Nat → Prop} {u U : State} {H : Heap} (hvm : u.vm.Alike U.vm) (h : vx_L C n d A u H) : vx_L C n d A U H := by
  obtain ⟨c, k, i, f, a, cell, h1, h2, h3, h4, h5, h6, h7, h8, h9, h10⟩ := h
  obtain ⟨k', hi', he⟩ := State.fieldFound?_setVm hvm h2
  exact ⟨c, k', i, f, a, cell, by rw [hvm.findClass]; exact h1, hi', h3, by rw [he]; exact h4, h5, h6, h7, h8, by rw [he]; exact h9, h10⟩
theorem vx_L.kept {C n d : String} {A : Nat → Prop} {U : State} {H H1 : Heap} (h : vx_L C n d A U H) (hq : ∀ a : Nat, a < H.size → ¬ A a → H1[a]? = H[a]?) : vx_L C n d A U H1 := by
  obtain ⟨c, k, i, f, a, cell, h1, h2, h3, h4, h5, h6, h7, h8, h9, h10⟩ := h
  exact ⟨c, k, i, f, a, cell, h1, h2, h3, h4, by rw [hq a (Array.getElem?_eq_some_iff.mp h5).1 h10]; exact h5, h6, h7, h8, h9, h10⟩
theorem vx_L.narrow {C n d : String} {A B : Nat → Prop} {U : State} {H : Heap} (h : vx_L C n d A U H) (hAB : ∀ q, B q → A q) : vx_L C n d B U H := by
  obtain ⟨c, k, i, f, a, cell, h1, h2, h3, h4, h5, h6, h7, h8, h9, h10⟩ := h
  exact ⟨c, k, i, f, a, cell, h1, h2, h3, h4, h5, h6, h7, h8, h9, fun z => h10 (hAB _ z)⟩
theorem vx_L.word {C n d : String} {A : Nat → Prop} {s : State} {args : Array Value} (h : vx_L C n d A s s.heap) : (Cond.laysStatic C n d).before args s = true := by
  obtain ⟨c, k, i, f, a, cell, h1, h2, h3, h4, h5, h6, h7, h8, h9, -⟩ := h
  show (Cond.laysStatic C n d).holds args s none s [] = true
  exact Cond.laysStatic_of h1 h2 h3 h4 h5 h6 h7 h8 h9
/-- .. and what it holds: null or some reference -/
def vx_Zq (C n d : String) (A : Nat → Prop) (U : State) (H : Heap) : Prop := va_Zq C n d A U H ∧ vx_L C n d A U H
theorem vx_Zq.moved {C n d : String} {A : Nat → Prop} {u U : State} {H : Heap} (hvm : u.vm.Alike U.vm) (h : vx_Zq C n d A u H) : vx_Zq C n d A U H := ⟨va_Zq.moved hvm h.1, vx_L.moved hvm h.2⟩
theorem vx_Zq.kept {C n d : String} {A : Nat → Prop} {U : State} {H H1 : Heap} (h : vx_Zq C n d A U H) (hq : ∀ a : Nat, a < H.size → ¬ A a → H1[a]? = H[a]?) : vx_Zq C n d A U H1 := ⟨va_Zq.kept h.1 hq, vx_L.kept h.2 hq⟩
theorem vx_Zq.narrow {C n d : String} {A B : Nat → Prop} {U : State} {H : Heap} (h : vx_Zq C n d A U H) (hAB : ∀ q, B q → A q) : vx_Zq C n d B U H := ⟨va_Zq.narrow h.1 hAB, vx_L.narrow h.2 hAB⟩
theorem vx_Zqof {args : Array Value} {s : State} {C n d : String} {A : Nat → Prop} (hl : (Cond.laysStatic C n d).before args s = true) (hini : (Cond.initialized C).before args s = true) (h : (Cond.isRef (.static C n d)).before args s = true) (hA : ∀ a : Nat, a < s.heap.size → ¬ A a) : vx_Zq C n d A s s.heap := by
  refine ⟨va_Zqof hl hini h hA, ?_⟩
  obtain ⟨c, k, i, f, a, cell, h1, h2, h3, h4, h5, h6, h7, h8, h9⟩ := Cond.laysStatic_spec hl
  exact ⟨c, k, i, f, a, cell, h1, h2, h3, h4, h5, h6, h7, h8, h9, hA a (Array.getElem?_eq_some_iff.mp h5).1⟩
theorem vx_isRef {C n d : String} {v : Value} {A : Nat → Prop} {s : State} {args : Array Value} (h : va_Z C n d v A s s.heap) (hv : v.isRef = true) : (Cond.isRef (.static C n d)).before args s = true := by
  obtain ⟨cf, kf, fi, f, a, cell, h1, h2, h3, h4, h5, h6, h7, -⟩ := h
  have he : (Term.static C n d).eval args s none [] s = some v := by
    simp [Term.eval, State.fieldNamed?, h1, h2, h4, h5, h6, h7]
  simp only [Cond.before, Cond.holds, Cond.value, he]
  cases v <;> simp_all [Value.isRef]
theorem vx_isRefq {C n d : String} {A : Nat → Prop} {s : State} {args : Array Value} (h : va_Zq C n d A s s.heap) : (Cond.isRef (.static C n d)).before args s = true := by
  rcases h with h | ⟨t, h⟩
  · exact vx_isRef h rfl
  · exact vx_isRef h rfl
/-- the same frame, seen from here: as if the method were called anew in this heap -/
theorem vx_rebase {T : State} (X : Stand p l e R s m args below meth c T locs cells slots) {R' : Room} (hf : R'.frames ≤ R.frames) (hl : R'.locals ≤ R.locals) (hc : cells + R'.cells ≤ R.cells) (hs : slots + R'.slots ≤ R.slots) :
    Stand p l e R' ((T.setVm s.vm).setFrames (.invoking m args :: below)) m args below meth c T [] 0 0 := by
  have htop : (T.setVm s.vm).topJava?.isSome := X.here.top
  have hF : ((T.setVm s.vm).setFrames (.invoking m args :: below)).frames = .invoking m args :: below := State.frames_setFrames _ (State.cur_lt_of_top htop)
  obtain ⟨g₀, hg0⟩ := Option.isSome_iff_exists.mp htop
  obtain ⟨r, hr⟩ := State.topJava?_eq_some.mp hg0
  have hl9 : e.platform.stackLimits (T.setVm s.vm).me = e.platform.stackLimits s.me := X.limits
  have hb9 : (T.setVm s.vm).me.stackBytes = s.me.stackBytes := X.bytes
  refine ⟨X.admits, X.cas, X.clock, hF, ?_, X.hears, X.method, X.code, X.here, X.tail, X.warmed, ?_, ?_, ?_⟩
  · have h := X.room
    have hU : ((T.setVm s.vm).setFrames (.invoking m args :: below)).localsInUse = s.localsInUse := by
      rw [State.localsInUse_invoking hF (meth := meth) (c := c) X.method X.code, State.localsInUse_invoking X.frames X.method X.code]
    simp only [State.hasRoom, Bool.and_eq_true, decide_eq_true_eq] at h ⊢
    obtain ⟨⟨⟨⟨h1, h2, h3, h4, h5, h6⟩, h7⟩, h8⟩, h9⟩ := h
    rw [X.frames, List.length_cons] at h2 h3
    have q1 := X.heapSize
    have q2 := X.used
    simp only [hF, hU, List.length_cons, State.stackLimits_setFrames, State.stackBytes_setFrames, hl9, hb9]
    refine ⟨⟨⟨⟨by omega, by omega, by omega, by omega, by omega, h6⟩, ?_⟩, ?_⟩, X.book⟩
    · show T.heap.size + R'.cells ≤ e.platform.maxCells
      omega
    · show T.slotsUsed + R'.slots ≤ e.platform.maxSlots
      omega
  · rw [State.stackLimits_setFrames]; rfl
  · rw [State.stackBytes_setFrames]; rfl
  · refine ⟨?_, Nat.le_refl _, Nat.le_refl _, ?_, ?_, fun a c9 h9 => ⟨c9, h9, rfl, rfl, fun _ _ => rfl⟩⟩
    · obtain ⟨t, ht, -⟩ := State.frames_cons hr
      show T.setVm s.vm = { ((T.setVm s.vm).setFrames (.invoking m args :: below)).setFrames (T.setVm s.vm).frames with heap := T.heap, slotsUsed := T.slotsUsed }
      rw [State.setFrames_setFrames, State.setFrames_self ht]
      rfl
    · show T.slotsUsed = T.slotsUsed + ((T.heap.toList.drop T.heap.size).map (·.slots.size)).sum
      rw [List.drop_eq_nil_of_le (Nat.le_of_eq Array.length_toList)]
      rfl
    · show ((T.heap.toList.drop T.heap.size).map (·.slots.size)).sum ≤ 0
      rw [List.drop_eq_nil_of_le (Nat.le_of_eq Array.length_toList)]
      exact Nat.le_refl _
/-- 'throw new E()': new; dup; invokespecial; athrow -/
theorem vx_throw0 {cc : ByteArray} {pc : Nat} (hexec : p.tables.exec = Jvm.exec) (hb : c.code = cc) (hl : l.stackTraces = false) {own cls : String} {names : List String} {ik ic mc ms : Nat} {A : Nat → Prop}
    (hown : s.vm.findClass own = some m.cls) (hcls : Bundle.fit cls = true) (hnames : ∀ n ∈ names, Bundle.fit n = true)
    (hk : (Cond.classLink own ik cls).before args s = true) (hini : (Cond.initialized cls).before args s = true) (hat : ∀ w ∈ vx_at0 own ic cls names, w.before args s = true)
    (hgood : ∀ w ∈ Cond.classLink own ik cls :: Cond.initialized cls :: vx_at0 own ic cls names, vx_ot w = true)
    (hU : vx_Zq Bundle.tN "UNASSIGNED_STACK" Bundle.steD A s s.heap) (hN : vx_Zq Bundle.tN "SUPPRESSED_SENTINEL" Bundle.listD A s s.heap) (hS : va_S A s.heap H locs) (hsize : ls.size = c.maxLocals)
    (d0 : decode cc pc = .ok (.new ik, 3)) (d3 : decode cc (pc + 3) = .ok (.dup, 1)) (d4 : decode cc (pc + 4) = .ok (.invokespecial ic, 3)) (d7 : decode cc (pc + 7) = .ok (.athrow, 1))
    (hout : ∀ x ∈ c.exceptionTable.toList, covers x (pc + 7) = false)
    (hRframes : names.length + 3 < R.frames) (hRlocals : (rest.map fun v => v.category).sum + (13 * (names.length + 1) + 42) ≤ R.locals) (hRcells : cells + 1 ≤ R.cells) (hRslots : slots + 6 ≤ R.slots) (hlocks : meth.locks = false)
    (hx : ∀ t : State, s.vm.Alike t.vm → H.size ≤ t.heap.size → (∀ q : Nat, q < H.size → t.heap[q]? = H[q]?) → XC cls s t)
    (hf : ∀ z ∈ locs, free z.base) (hc : cells + 1 ≤ mc) (hs : slots + 6 ≤ ms) :
    W p l e R s m args below meth c H locs cells slots (vx_MQ below Qc XC args s mc ms free) (F0 m pc ls rest) := by
  intro T hT X
  have htr : e.platform.stackTraces = false := (show e.platform.stackTraces = l.stackTraces by rw [X.admits.platform]).trans hl
  have Y := vx_rebase X (R' := { frames := R.frames, locals := R.locals, cells := 1, slots := 6 }) (Nat.le_refl _) (Nat.le_refl _) hRcells hRslots
  obtain ⟨s', hA⟩ : ∃ z, z = (T.setVm s.vm).setFrames (.invoking m args :: below) := ⟨_, rfl⟩
  rw [← hA] at Y
  have hvm : s'.vm = s.vm := by rw [hA]; rfl
  have hhp : s'.heap = H := by rw [hA]; exact hT
  have hW0 : s.WarmedH s'.vm := by rw [hvm]; exact State.WarmedH.refl s
  have hat' : ∀ w ∈ vx_at0 own ic cls names, w.before args s' = true := fun w hw => vx_ot_at hW0 hvm.symm (hgood w (List.mem_cons_of_mem _ (List.mem_cons_of_mem _ hw))) (hat w hw)
  have hk' : (Cond.classLink own ik cls).before args s' = true := vx_ot_at hW0 hvm.symm (hgood _ List.mem_cons_self) hk
  have hini' : (Cond.initialized cls).before args s' = true := vx_ot_at hW0 hvm.symm (hgood _ (List.mem_cons_of_mem _ List.mem_cons_self)) hini
  have hU' : vx_Zq Bundle.tN "UNASSIGNED_STACK" Bundle.steD A s' s'.heap := by rw [hhp]; exact vx_Zq.moved hW0.alike (hU.kept hS.2.1)
  have hN' : vx_Zq Bundle.tN "SUPPRESSED_SENTINEL" Bundle.listD A s' s'.heap := by rw [hhp]; exact vx_Zq.moved hW0.alike (hN.kept hS.2.1)
  have h : ∀ w ∈ Bundle.ownAtoms0 own ic cls names, w.before args s' = true := vx_own hat' (vx_isRefq hU'.1) (vx_isRefq hN'.1) hU'.2.word hN'.2.word
  have hown' : s'.vm.findClass own = some m.cls := by rw [hvm]; exact hown
  have hins : (Cond.instantiable cls 6).before args s' = true := h _ (by simp [Bundle.ownAtoms0])
  obtain ⟨vm₁, cX, kX, hfX, hkX, -, -, X₁, st1⟩ := Y.newCold hexec (own := own) (C := cls) (index := ik) (n := 6) hown' hk' hins hini'
    (g := F0 m pc ls rest) rfl (by rw [hb]; exact d0) (Nat.le_refl _) (Nat.le_refl _)
  generalize hT1 : (T.setVm vm₁).pushCell { cls := cX, slots := kX.instanceTypes.map defaultValue, vm := .none } = T1 at X₁ st1
  have hcat : (Value.ref T.heap.size).category = 1 := rfl
  have hcellA : T1.heap[T.heap.size]? = some (freshCell cX kX) := by rw [← hT1]; exact State.heap_pushCell_size _ _
  have d3' : decode c.code (pc + 3) = .ok (.dup, 1) := by rw [hb]; exact d3
  obtain ⟨U, hsteps, hrun, hend, hW, hsame, ce, hce, hO⟩ := X₁.ctorThrow0 hexec htr (own := own) (cls := cls) (names := names) (ic := ic) hown' hcls hnames h (fun x hx => nomatch hx) hfX hkX hcellA (by rw [hhp, hT]; exact Nat.le_refl _)
    (g := { method := m, pc := pc + 4, locals := ls, stack := .ref T.heap.size :: .ref T.heap.size :: rest, locked := none }) rfl hsize rfl rfl (rest := rest) rfl
    (by rw [hb]; exact d4) (by rw [hb]; exact d7) hout hRframes (by simp only [List.map_cons, List.sum_cons, hcat]; omega) hlocks
  obtain ⟨f1, f2⟩ := vx_frame hsame
  rw [hhp] at f1 f2
  have hWs : s.WarmedH U.vm := State.WarmedH.trans hW0 hW
  have hcl : s.vm.findClass cls = some ce.cls := by
    have h9 := hO.cls
    rw [hvm] at h9
    exact h9
  have hall : s.sameButNew ({ U with vm := s.vm } : State) locs mc ms := by
    subst hA
    obtain ⟨e1, e2⟩ := hsame
    rw [State.setFrames_setFrames] at e1
    have h2 : (T.setVm s.vm).sameButNew ({ U with vm := s.vm } : State) [] (0 + 1) (0 + 6) := ⟨e1, e2⟩
    have h3 := X.same.trans h2
    rw [List.append_nil] at h3
    exact h3.mono hc hs
  refine ⟨U, ?_, .threw T.heap.size, hrun, hend, Or.inr ⟨T.heap.size, rfl, cls, ce, locs, hx U hWs.alike f1 (fun q hq => f2 q hq (fun z hz => nomatch hz)), hce, hO.vm, hcl, hWs, hall, hf⟩⟩
  refine st1 _ ?_
  show Steps p.tables e below (T1.setTop { method := m, pc := pc + 3, locals := ls, stack := .ref T.heap.size :: rest, locked := none }) _
  jvm_step X₁.here [X₁.here.top, hexec, d3', Value.category]
  exact hsteps
/-- 'throw new E("text")': new; dup; ldc; invokespecial; athrow -/
theorem vx_throwS {cc : ByteArray} {pc : Nat} (hexec : p.tables.exec = Jvm.exec) (hb : c.code = cc) (hl : l.stackTraces = false) {own cls text : String} {names : List String} {ik is ic mc ms sa : Nat} {A : Nat → Prop}
    (hown : s.vm.findClass own = some m.cls) (hcls : Bundle.fit cls = true) (hnames : ∀ n ∈ names, Bundle.fit n = true)
    (hk : (Cond.classLink own ik cls).before args s = true) (hini : (Cond.initialized cls).before args s = true) (hstr : vk_R own is text sa s) (hat : ∀ w ∈ vx_atS own ic cls names, w.before args s = true)
    (hgood : ∀ w ∈ Cond.classLink own ik cls :: Cond.initialized cls :: vx_atS own ic cls names, vx_ot w = true)
    (hU : vx_Zq Bundle.tN "UNASSIGNED_STACK" Bundle.steD A s s.heap) (hN : vx_Zq Bundle.tN "SUPPRESSED_SENTINEL" Bundle.listD A s s.heap) (hS : va_S A s.heap H locs) (hsize : ls.size = c.maxLocals)
    (d0 : decode cc pc = .ok (.new ik, 3)) (d3 : decode cc (pc + 3) = .ok (.dup, 1)) (d4 : decode cc (pc + 4) = .ok (.ldc is, 2)) (d6 : decode cc (pc + 6) = .ok (.invokespecial ic, 3)) (d9 : decode cc (pc + 9) = .ok (.athrow, 1))
    (hout : ∀ x ∈ c.exceptionTable.toList, covers x (pc + 9) = false)
    (hRframes : names.length + 3 < R.frames) (hRlocals : (rest.map fun v => v.category).sum + (13 * (names.length + 1) + 43) ≤ R.locals) (hRcells : cells + 1 ≤ R.cells) (hRslots : slots + 6 ≤ R.slots) (hlocks : meth.locks = false)
    (hx : ∀ t : State, s.vm.Alike t.vm → H.size ≤ t.heap.size → (∀ q : Nat, q < H.size → t.heap[q]? = H[q]?) → XC cls s t)
    (hf : ∀ z ∈ locs, free z.base) (hc : cells + 1 ≤ mc) (hs : slots + 6 ≤ ms) :
    W p l e R s m args below meth c H locs cells slots (vx_MQ below Qc XC args s mc ms free) (F0 m pc ls rest) := by
  intro T hT X
  have htr : e.platform.stackTraces = false := (show e.platform.stackTraces = l.stackTraces by rw [X.admits.platform]).trans hl
  have Y := vx_rebase X (R' := { frames := R.frames, locals := R.locals, cells := 1, slots := 6 }) (Nat.le_refl _) (Nat.le_refl _) hRcells hRslots
  obtain ⟨s', hA⟩ : ∃ z, z = (T.setVm s.vm).setFrames (.invoking m args :: below) := ⟨_, rfl⟩
  rw [← hA] at Y
  have hvm : s'.vm = s.vm := by rw [hA]; rfl
  have hhp : s'.heap = H := by rw [hA]; exact hT
  have hW0 : s.WarmedH s'.vm := by rw [hvm]; exact State.WarmedH.refl s
  have hat' : ∀ w ∈ vx_atS own ic cls names, w.before args s' = true := fun w hw => vx_ot_at hW0 hvm.symm (hgood w (List.mem_cons_of_mem _ (List.mem_cons_of_mem _ hw))) (hat w hw)
  have hk' : (Cond.classLink own ik cls).before args s' = true := vx_ot_at hW0 hvm.symm (hgood _ List.mem_cons_self) hk
  have hini' : (Cond.initialized cls).before args s' = true := vx_ot_at hW0 hvm.symm (hgood _ (List.mem_cons_of_mem _ List.mem_cons_self)) hini
  have hU' : vx_Zq Bundle.tN "UNASSIGNED_STACK" Bundle.steD A s' s'.heap := by rw [hhp]; exact vx_Zq.moved hW0.alike (hU.kept hS.2.1)
  have hN' : vx_Zq Bundle.tN "SUPPRESSED_SENTINEL" Bundle.listD A s' s'.heap := by rw [hhp]; exact vx_Zq.moved hW0.alike (hN.kept hS.2.1)
  have h : ∀ w ∈ Bundle.ownAtoms own ic cls names, w.before args s' = true := vx_own hat' (vx_isRefq hU'.1) (vx_isRefq hN'.1) hU'.2.word hN'.2.word
  have hown' : s'.vm.findClass own = some m.cls := by rw [hvm]; exact hown
  have hins : (Cond.instantiable cls 6).before args s' = true := h _ (by simp [Bundle.ownAtoms])
  obtain ⟨vm₁, cX, kX, hfX, hkX, -, -, X₁, st1⟩ := Y.newCold hexec (own := own) (C := cls) (index := ik) (n := 6) hown' hk' hins hini'
    (g := F0 m pc ls rest) rfl (by rw [hb]; exact d0) (Nat.le_refl _) (Nat.le_refl _)
  generalize hT1 : (T.setVm vm₁).pushCell { cls := cX, slots := kX.instanceTypes.map defaultValue, vm := .none } = T1 at X₁ st1
  have hcat : (Value.ref T.heap.size).category = 1 := rfl
  have hcellA : T1.heap[T.heap.size]? = some (freshCell cX kX) := by rw [← hT1]; exact State.heap_pushCell_size _ _
  have d3' : decode c.code (pc + 3) = .ok (.dup, 1) := by rw [hb]; exact d3
  have d4' : decode c.code (pc + 4) = .ok (.ldc is, 2) := by rw [hb]; exact d4
  have hstr' : vk_R own is text sa s' := vk_R.warm hW0 hstr
  obtain ⟨U, hsteps, hrun, hend, hW, hsame, ce, hce, hO⟩ := X₁.ctorThrowS hexec htr (own := own) (cls := cls) (names := names) (ic := ic) hown' hcls hnames h (fun x hx => nomatch hx) hfX hkX hcellA (by rw [hhp, hT]; exact Nat.le_refl _) (msg := .ref sa) rfl
    (g := { method := m, pc := pc + 6, locals := ls, stack := .ref sa :: .ref T.heap.size :: .ref T.heap.size :: rest, locked := none }) rfl hsize rfl rfl (rest := rest) rfl
    (by rw [hb]; exact d6) (by rw [hb]; exact d9) hout hRframes (by simp only [List.map_cons, List.sum_cons, hcat]; omega) hlocks
  obtain ⟨f1, f2⟩ := vx_frame hsame
  rw [hhp] at f1 f2
  have hWs : s.WarmedH U.vm := State.WarmedH.trans hW0 hW
  have hcl : s.vm.findClass cls = some ce.cls := by
    have h9 := hO.cls
    rw [hvm] at h9
    exact h9
  have hall : s.sameButNew ({ U with vm := s.vm } : State) locs mc ms := by
    subst hA
    obtain ⟨e1, e2⟩ := hsame
    rw [State.setFrames_setFrames] at e1
    have h2 : (T.setVm s.vm).sameButNew ({ U with vm := s.vm } : State) [] (0 + 1) (0 + 6) := ⟨e1, e2⟩
    have h3 := X.same.trans h2
    rw [List.append_nil] at h3
    exact h3.mono hc hs
  refine ⟨U, ?_, .threw T.heap.size, hrun, hend, Or.inr ⟨T.heap.size, rfl, cls, ce, locs, hx U hWs.alike f1 (fun q hq => f2 q hq (fun z hz => nomatch hz)), hce, hO.vm, hcl, hWs, hall, hf⟩⟩
  refine st1 _ ?_
  show Steps p.tables e below (T1.setTop { method := m, pc := pc + 3, locals := ls, stack := .ref T.heap.size :: rest, locked := none }) _
  jvm_step X₁.here [X₁.here.top, hexec, d3', Value.category]
  exact X₁.ldcString hexec (own := own) (text := text) (index := is) (a := sa) hown' hstr'.1 hstr'.2
    (g := { method := m, pc := pc + 4, locals := ls, stack := .ref T.heap.size :: .ref T.heap.size :: rest, locked := none }) rfl d4' _ hsteps
/-- 'throw new E("text")', the text by a wide index -/
theorem vx_throwSW {cc : ByteArray} {pc : Nat} (hexec : p.tables.exec = Jvm.exec) (hb : c.code = cc) (hl : l.stackTraces = false) {own cls text : String} {names : List String} {ik is ic mc ms sa : Nat} {A : Nat → Prop}
    (hown : s.vm.findClass own = some m.cls) (hcls : Bundle.fit cls = true) (hnames : ∀ n ∈ names, Bundle.fit n = true)
    (hk : (Cond.classLink own ik cls).before args s = true) (hini : (Cond.initialized cls).before args s = true) (hstr : vk_R own is text sa s) (hat : ∀ w ∈ vx_atS own ic cls names, w.before args s = true)
    (hgood : ∀ w ∈ Cond.classLink own ik cls :: Cond.initialized cls :: vx_atS own ic cls names, vx_ot w = true)
    (hU : vx_Zq Bundle.tN "UNASSIGNED_STACK" Bundle.steD A s s.heap) (hN : vx_Zq Bundle.tN "SUPPRESSED_SENTINEL" Bundle.listD A s s.heap) (hS : va_S A s.heap H locs) (hsize : ls.size = c.maxLocals)
    (d0 : decode cc pc = .ok (.new ik, 3)) (d3 : decode cc (pc + 3) = .ok (.dup, 1)) (d4 : decode cc (pc + 4) = .ok (.ldc_w is, 3)) (d7 : decode cc (pc + 7) = .ok (.invokespecial ic, 3)) (d10 : decode cc (pc + 10) = .ok (.athrow, 1))
    (hout : ∀ x ∈ c.exceptionTable.toList, covers x (pc + 10) = false)
    (hRframes : names.length + 3 < R.frames) (hRlocals : (rest.map fun v => v.category).sum + (13 * (names.length + 1) + 43) ≤ R.locals) (hRcells : cells + 1 ≤ R.cells) (hRslots : slots + 6 ≤ R.slots) (hlocks : meth.locks = false)
    (hx : ∀ t : State, s.vm.Alike t.vm → H.size ≤ t.heap.size → (∀ q : Nat, q < H.size → t.heap[q]? = H[q]?) → XC cls s t)
    (hf : ∀ z ∈ locs, free z.base) (hc : cells + 1 ≤ mc) (hs : slots + 6 ≤ ms) :
    W p l e R s m args below meth c H locs cells slots (vx_MQ below Qc XC args s mc ms free) (F0 m pc ls rest) := by
  intro T hT X
  have htr : e.platform.stackTraces = false := (show e.platform.stackTraces = l.stackTraces by rw [X.admits.platform]).trans hl
  have Y := vx_rebase X (R' := { frames := R.frames, locals := R.locals, cells := 1, slots := 6 }) (Nat.le_refl _) (Nat.le_refl _) hRcells hRslots
  obtain ⟨s', hA⟩ : ∃ z, z = (T.setVm s.vm).setFrames (.invoking m args :: below) := ⟨_, rfl⟩
  rw [← hA] at Y
  have hvm : s'.vm = s.vm := by rw [hA]; rfl
  have hhp : s'.heap = H := by rw [hA]; exact hT
  have hW0 : s.WarmedH s'.vm := by rw [hvm]; exact State.WarmedH.refl s
  have hat' : ∀ w ∈ vx_atS own ic cls names, w.before args s' = true := fun w hw => vx_ot_at hW0 hvm.symm (hgood w (List.mem_cons_of_mem _ (List.mem_cons_of_mem _ hw))) (hat w hw)
  have hk' : (Cond.classLink own ik cls).before args s' = true := vx_ot_at hW0 hvm.symm (hgood _ List.mem_cons_self) hk
  have hini' : (Cond.initialized cls).before args s' = true := vx_ot_at hW0 hvm.symm (hgood _ (List.mem_cons_of_mem _ List.mem_cons_self)) hini
  have hU' : vx_Zq Bundle.tN "UNASSIGNED_STACK" Bundle.steD A s' s'.heap := by rw [hhp]; exact vx_Zq.moved hW0.alike (hU.kept hS.2.1)
  have hN' : vx_Zq Bundle.tN "SUPPRESSED_SENTINEL" Bundle.listD A s' s'.heap := by rw [hhp]; exact vx_Zq.moved hW0.alike (hN.kept hS.2.1)
  have h : ∀ w ∈ Bundle.ownAtoms own ic cls names, w.before args s' = true := vx_own hat' (vx_isRefq hU'.1) (vx_isRefq hN'.1) hU'.2.word hN'.2.word
  have hown' : s'.vm.findClass own = some m.cls := by rw [hvm]; exact hown
  have hins : (Cond.instantiable cls 6).before args s' = true := h _ (by simp [Bundle.ownAtoms])
  obtain ⟨vm₁, cX, kX, hfX, hkX, -, -, X₁, st1⟩ := Y.newCold hexec (own := own) (C := cls) (index := ik) (n := 6) hown' hk' hins hini'
    (g := F0 m pc ls rest) rfl (by rw [hb]; exact d0) (Nat.le_refl _) (Nat.le_refl _)
  generalize hT1 : (T.setVm vm₁).pushCell { cls := cX, slots := kX.instanceTypes.map defaultValue, vm := .none } = T1 at X₁ st1
  have hcat : (Value.ref T.heap.size).category = 1 := rfl
  have hcellA : T1.heap[T.heap.size]? = some (freshCell cX kX) := by rw [← hT1]; exact State.heap_pushCell_size _ _
  have d3' : decode c.code (pc + 3) = .ok (.dup, 1) := by rw [hb]; exact d3
  have d4' : decode c.code (pc + 4) = .ok (.ldc_w is, 3) := by rw [hb]; exact d4
  have hstr' : vk_R own is text sa s' := vk_R.warm hW0 hstr
  obtain ⟨U, hsteps, hrun, hend, hW, hsame, ce, hce, hO⟩ := X₁.ctorThrowS hexec htr (own := own) (cls := cls) (names := names) (ic := ic) hown' hcls hnames h (fun x hx => nomatch hx) hfX hkX hcellA (by rw [hhp, hT]; exact Nat.le_refl _) (msg := .ref sa) rfl
    (g := { method := m, pc := pc + 7, locals := ls, stack := .ref sa :: .ref T.heap.size :: .ref T.heap.size :: rest, locked := none }) rfl hsize rfl rfl (rest := rest) rfl
    (by rw [hb]; exact d7) (by rw [hb]; exact d10) hout hRframes (by simp only [List.map_cons, List.sum_cons, hcat]; omega) hlocks
  obtain ⟨f1, f2⟩ := vx_frame hsame
  rw [hhp] at f1 f2
  have hWs : s.WarmedH U.vm := State.WarmedH.trans hW0 hW
  have hcl : s.vm.findClass cls = some ce.cls := by
    have h9 := hO.cls
    rw [hvm] at h9
    exact h9
  have hall : s.sameButNew ({ U with vm := s.vm } : State) locs mc ms := by
    subst hA
    obtain ⟨e1, e2⟩ := hsame
    rw [State.setFrames_setFrames] at e1
    have h2 : (T.setVm s.vm).sameButNew ({ U with vm := s.vm } : State) [] (0 + 1) (0 + 6) := ⟨e1, e2⟩
    have h3 := X.same.trans h2
    rw [List.append_nil] at h3
    exact h3.mono hc hs
  refine ⟨U, ?_, .threw T.heap.size, hrun, hend, Or.inr ⟨T.heap.size, rfl, cls, ce, locs, hx U hWs.alike f1 (fun q hq => f2 q hq (fun z hz => nomatch hz)), hce, hO.vm, hcl, hWs, hall, hf⟩⟩
  refine st1 _ ?_
  show Steps p.tables e below (T1.setTop { method := m, pc := pc + 3, locals := ls, stack := .ref T.heap.size :: rest, locked := none }) _
  jvm_step X₁.here [X₁.here.top, hexec, d3', Value.category]
  exact X₁.ldcStringW hexec (own := own) (text := text) (index := is) (a := sa) hown' hstr'.1 hstr'.2
    (g := { method := m, pc := pc + 4, locals := ls, stack := .ref T.heap.size :: .ref T.heap.size :: rest, locked := none }) rfl d4' _ hsteps
end Ends
section Bodies
variable {l : Launch}
theorem vx_ofW {y : MethodName} {ws ws' : List Cond} {rm : Room} {Pc : Array Value → State → Prop} {Qc : Array Value → State → Outcome → State → Prop} {XC : String → State → State → Prop} {mc ms : Nat} {free : Addr → Prop} {cc : ByteArray} {maxL : Nat} {ret : Option FieldType}
    (hy : plainName y.cls = true) (hw : ws = Cond.code y cc maxL ret :: ws')
    (body : ∀ p e s m args below meth c s₁, BodyLoose p l y (headSpec ws rm) cc maxL ret e s m args below meth c s₁ → c.maxLocals = maxL → (∀ x ∈ c.exceptionTable.toList, False) → Pc args s →
      W p l e (headSpec ws rm).room s m args below meth c s.heap [] 0 0 (vx_MQ below Qc XC args s mc ms free) (entryFrame m args maxL)) : vx_Met l y ws rm Pc Qc XC mc ms free := by
  refine MetFree.of_bodyS (code := cc) (maxLocals := maxL) (ret := ret) hy ?_ ?_
  · intro args s m h hn
    obtain ⟨meth, c, h1, h2, h3, h4, h5, h6, -, -⟩ := Cond.code_spec hn (atoms_spec (ws := ws) h _ (by rw [hw]; exact List.mem_cons_self))
    exact ⟨meth, c, h1, h2, h3, h4, h5, h6⟩
  · intro p e s m args below meth c s₁ B hml hP _
    have hh0 : s₁.heap = s.heap := by rw [B.state]; rfl
    have ht : ∀ x ∈ c.exceptionTable.toList, False := by
      obtain ⟨meth9, c9, h1, h2, -, -, -, -, h7, -⟩ := Cond.code_spec B.named (atoms_spec (ws := ws) B.pre _ (by rw [hw]; exact List.mem_cons_self))
      cases Option.some.inj (h1.symm.trans B.method)
      cases Option.some.inj (h2.symm.trans (Stand.of_body B).code)
      intro x hx
      rw [Array.isEmpty_iff.mp h7] at hx
      cases hx
    obtain ⟨t, a1, o, b1, b2, b3⟩ := body p e s m args below meth c s₁ B hml ht hP s₁ hh0 (Stand.of_body B)
    exact ⟨t, o, a1, b1, b2, b3⟩
/-- the table of a body with handlers -/
theorem vx_table {p : Program} {x y : MethodName} {S : Spec} {cc bytes : ByteArray} {maxL maxL' : Nat} {ret ret' : Option FieldType} {e : Env} {s s₁ : State} {m : MethodId} {args : Array Value} {below : List Frame} {meth : Method} {c : Code} {hh : List (Nat × Nat × Nat × Nat)}
    (B : BodyLoose p l y S cc maxL ret e s m args below meth c s₁) (h : (Cond.codeWith y bytes maxL' ret' hh).before args s = true) : c.exceptionTable.toList = tableOf hh := by
  obtain ⟨m9, meth9, c9, hn9, h1, h2, -, -, h6, -⟩ := Cond.codeWith_spec h
  cases Option.some.inj (hn9.symm.trans B.named)
  cases Option.some.inj (h1.symm.trans B.method)
  cases Option.some.inj (h2.symm.trans (Stand.of_body B).code)
  rw [← h6, table_eq]
end Bodies
end VXA
/-! ===== END ===== -/
/-! ===== BEGIN a static call of a method with an exception table ===== -/
section VXS
variable {p : Program} {l : Launch} {e : Env} {R : Room} {s : State} {m : MethodId} {args : Array Value} {below : List Frame} {meth : Method} {c : Code} {T : State} {H : Heap} {locs : List Loc} {cells slots : Nat}
abbrev vx_CSW (R : Room) (s : State) (args : Array Value) (own : String) (index : Nat) (y : MethodName) (bytes : ByteArray) (maxL : Nat) (ret : Option FieldType) (hh : List (Nat × Nat × Nat × Nat)) (ws : List Cond) (rm : Room) (mc ms n : Nat) : Prop :=
  (rm.cells = mc ∧ rm.slots = ms ∧ rm.frames + 1 ≤ R.frames ∧ 8 + (maxL + 11) + rm.locals ≤ R.locals ∧ (∀ w ∈ ws, ∀ (a' : Array Value) (U : State), s.WarmedH U.vm → w.before a' U = true) ∧ Cond.codeWith y bytes maxL ret hh ∈ ws) ∧
  (Cond.codeWith y bytes maxL ret hh).before args s = true ∧ (Cond.initialized y.cls).before args s = true ∧ (y.cls ≠ "java/lang/invoke/MethodHandle" ∧ y.cls ≠ "java/lang/invoke/VarHandle") ∧
  (∀ sig, parseMethodDescriptor y.desc = some sig → n = sig.parameters.length) ∧ (Cond.methodLink own index y).before args s = true ∧ (Cond.static y).before args s = true
theorem vx_cwSW {own : String} {index maxL mc ms : Nat} {y : MethodName} {bytes : ByteArray} {ret : Option FieldType} {hh : List (Nat × Nat × Nat × Nat)} {Ts ws ws' : List Cond} {rm : Room} (n : Nat) (ht : ∀ w ∈ Ts, w.before args s = true) (hT : GoodIn Ts (va_wsS own index y ws)) (hw : ws = Cond.codeWith y bytes maxL ret hh :: ws') (hrc : rm.cells = mc) (hrs : rm.slots = ms)
    (hd : y.cls ≠ "java/lang/invoke/MethodHandle" ∧ y.cls ≠ "java/lang/invoke/VarHandle" ∧ (parseMethodDescriptor y.desc).map (fun d => d.parameters.length) = some n) (hR : rm.frames + 1 ≤ R.frames ∧ 8 + (maxL + 11) + rm.locals ≤ R.locals) :
    vx_CSW R s args own index y bytes maxL ret hh ws rm mc ms n := by
  have ok : ∀ w ∈ va_wsS own index y ws, w.before args s = true := fun w h => ht w (hT w h).1
  have hG : GoodIn Ts ws := fun w h => hT w (by unfold va_wsS; exact List.mem_append_right _ h)
  have hc : Cond.codeWith y bytes maxL ret hh ∈ ws := by rw [hw]; exact List.mem_cons_self
  refine ⟨⟨hrc, hrs, hR.1, hR.2, pay_in ht hG, hc⟩, ht _ (hG _ hc).1, ok _ (by simp [va_wsS]), ⟨hd.1, hd.2.1⟩, fun sig h => ?_, ok _ (by simp [va_wsS]), ok _ (by simp [va_wsS])⟩
  have h2 := hd.2.2
  rw [h] at h2
  exact (Option.some.inj h2).symm
theorem vx_callSW (X : Stand p l e R s m args below meth c T locs cells slots) (hexec : p.tables.exec = Jvm.exec) {own : String} {index : Nat} {y : MethodName} {bytes : ByteArray} {maxL : Nat} {ret : Option FieldType} {hh : List (Nat × Nat × Nat × Nat)}
    (hown : s.vm.findClass own = some m.cls) (hlink : (Cond.methodLink own index y).before args s = true) (hstat : (Cond.static y).before args s = true) (hinit : (Cond.initialized y.cls).before args s = true)
    (hcode : (Cond.codeWith y bytes maxL ret hh).before args s = true) (hy : y.cls ≠ "java/lang/invoke/MethodHandle" ∧ y.cls ≠ "java/lang/invoke/VarHandle")
    {W9 : Nat} {Pre : Pt → Array Value → Prop} {Post : Pt → Array Value → Option Value → Pt → Prop} (hK : Back l R p e below s args y 3 W9 Pre Post)
    {g : JFrame} (hg : g.method = m) (hsize : g.locals.size = c.maxLocals) {argsL rest : List Value} (hlen : ∀ sig, parseMethodDescriptor y.desc = some sig → argsL.length = sig.parameters.length)
    (hstack : g.stack = argsL.reverse ++ rest) (hW : 2 * g.monitorRoom + (rest.map fun v => v.category).sum ≤ W9) (hdg : decode c.code g.pc = .ok (.invokestatic index, 3))
    (hpre : ∀ vm₁, s.WarmedH vm₁ → Pre ⟨T.setVm vm₁, locs, cells, slots⟩ argsL.toArray) :
    ∃ (v : Option Value) (vm₁ : Vm) (B : Pt), s.WarmedH vm₁ ∧ Stand p l e R s m args below meth c B.U B.locs B.cells B.slots ∧ Post ⟨T.setVm vm₁, locs, cells, slots⟩ argsL.toArray v B ∧
      ∀ target, Steps p.tables e below (B.U.setTop { g with pc := g.pc + 3, stack := v.toList ++ rest }) target → Steps p.tables e below (T.setTop g) target := by
  obtain ⟨mk, methM, cM, hnamed, hmethM, -, -, -, -, -, -, hsigM⟩ := Cond.codeWith_spec hcode
  have hstatic : methM.isStatic = true := Cond.static_spec hnamed hmethM hstat
  obtain ⟨kP, hkP, -⟩ := className_of_methodNamed hnamed
  have hinitP : kP.init = .initialized := Cond.initialized_spec (findClass_of_methodNamed hnamed) hkP hinit
  obtain ⟨vm₁, X₁, hstep₁⟩ := X.invokestatic hexec hown hlink hnamed hmethM hstatic hkP hinitP hy (g := g) hg (argsL := argsL) (rest := rest) (hlen _ hsigM) hstack hdg
  obtain ⟨v, B, X', hpost, hsteps⟩ := hK m meth c ⟨T.setVm vm₁, locs, cells, slots⟩ { g with stack := rest } (.invokestatic index) mk argsL.toArray X₁ hg hsize hdg hW (X₁.named hnamed) (hpre vm₁ X₁.warmed)
  exact ⟨v, vm₁, B, X₁.warmed, X', hpost, fun target h => hstep₁ _ fun acts => by rw [doInvoke_state]; exact hsteps.trans h⟩
theorem vx_runSW {y : MethodName} {bytes cc : ByteArray} {maxL nL mc ms n index : Nat} {ret : Option FieldType} {hh : List (Nat × Nat × Nat × Nat)} {ws : List Cond} {rm : Room} {Pc : Array Value → State → Prop} {Qc : Array Value → State → Outcome → State → Prop} {free : Addr → Prop} {Ts : List Cond} {own : String} {As rest : List Value} {g : JFrame}
    (S : CallFix p m c cc nL s args Ts own) (hM : Met l y ws rm Pc Qc mc ms free) (cw : vx_CSW R s args own index y bytes maxL ret hh ws rm mc ms n) (hp : PreS s H Pc As)
    (hg : g.method = m) (hn : As.length = n) (hsize : g.locals.size = nL) (hstack : g.stack = As.reverse ++ rest) (hW : 2 * g.monitorRoom + (rest.map fun v => v.category).sum ≤ 8) (hdg : decode cc g.pc = .ok (.invokestatic index, 3)) (hf : cells + mc ≤ R.cells ∧ slots + ms ≤ R.slots) :
    va_Run p l e R s m args below meth c H locs cells slots mc ms g rest (Qc As.toArray) (free) := by
  obtain ⟨⟨hrc, hrs, hfr, hlo, hws, hcw⟩, hcode, hini, hy, hlen, hl, hstt⟩ := cw
  have hK : Back l R p e below s args y 3 8 (PreOf R mc ms Pc) (PostOf Qc mc ms free) := va_backW (hh := hh) (bytes := bytes) (maxL := maxL) (ret := ret) hM hp.1 hrc hrs hfr hlo hws hcw (fun a' U hW => word_at hW (Or.inl (by first | rfl | simp [Cond.onTables, Cond.keeps, Cond.steady])) hini)
  obtain ⟨hx, hb, hml, ho, -⟩ := S
  intro T hT X
  obtain ⟨v, vm₁, ⟨U', l2, c2, s2⟩, hW₁, X', ⟨g', mk, t, L, e1, e2, hq, h1, hL, h2, h3⟩, st⟩ := vx_callSW X hx (hh := hh) (bytes := bytes) (maxL := maxL) (ret := ret) ho hl hstt hini hcode hy hK hg (hsize.trans hml.symm) (argsL := As) (rest := rest) (fun sig h => hn.trans (hlen sig h)) hstack hW (by rw [hb]; exact hdg)
    (fun vm₁ hW₁ => ⟨hf.1, hf.2, hp.2 (T.setVm vm₁) hT hW₁⟩)
  dsimp only [Pt.U, Pt.locs, Pt.cells, Pt.slots] at X' e1 e2 h1 h2 h3 st
  subst h1; subst h2; subst h3
  exact ⟨v, (T.setVm vm₁).calling g' mk As.toArray, t, U', L, hT, X', hL, e1, e2, hq, st⟩
/-- not caught here, past rows that name other classes: it goes on to the caller -/
theorem vx_outP {p : Program} {l : Launch} {e : Env} {R : Room} {s : State} {m : MethodId} {args : Array Value} {below : List Frame} {meth : Method} {c : Code} {H : Heap} {locs : List Loc} {cells slots : Nat} {free : Addr → Prop} {ls : Array Slot} {rest : List Value} {Qc : Array Value → State → Outcome → State → Prop} {XC : String → State → State → Prop}
    {pc : Nat} {own E : String} {ce : Cell} {q : Addr} {mc ms : Nat} (hown : s.vm.findClass own = some m.cls) (hlocks : meth.locks = false)
    (hpass : ∀ z ∈ c.exceptionTable.toList, covers z pc = false ∨ (z.catchType ≠ 0 ∧ ∃ nm : String, (Cond.classLink own z.catchType nm).before args s = true ∧ va_Nc E nm s)) (hcell : H[q]? = some ce) (hv : ce.vm = .none) (hcl : s.vm.findClass E = some ce.cls)
    (hx : ∀ t : State, t.heap = H → s.vm.Alike t.vm → XC E s t) (hf : ∀ z ∈ locs, free z.base) (hc : cells ≤ mc) (hs : slots ≤ ms) :
    vx_W p l e R s m args below meth c H locs cells slots (vx_MQ below Qc XC args s mc ms free) (F0 m pc ls rest) q := by
  intro T hT X
  have hpl : e.platform.magicAccessors = ({} : Platform).magicAccessors := by rw [X.admits.platform]
  obtain ⟨vm', hW', X', st⟩ := X.outThrough hlocks q (g := F0 m pc ls rest) rfl rfl rfl (cell := ce) (by rw [hT]; exact hcell) (by rw [hv]; rfl)
    (by obtain ⟨k9, h9, -⟩ := Vm.findClass_spec hcl; exact ⟨k9, h9⟩) (fun z hz => by
      rcases hpass z hz with h | ⟨hz0, nm, hl1, hn1⟩
      · exact Or.inl h
      · obtain ⟨c6, hc6, hcl6⟩ := Cond.classLink_spec hown hl1 e.platform hpl
        obtain ⟨a8, b8, h1, h2, h3⟩ := hn1
        cases Option.some.inj (h1.symm.trans hcl)
        cases Option.some.inj (h2.symm.trans hc6)
        exact Or.inr ⟨hz0, _, hcl6, h3⟩)
  obtain ⟨g₀, hfr⟩ := X'.frames_eq
  have hcell9 : ((T.setVm vm').setFrames (.throwing q :: below)).heap[q]? = some ce := by
    show T.heap[q]? = some ce
    rw [hT]; exact hcell
  have hend : Ended ((T.setVm vm').setFrames (.throwing q :: below)) below (.threw q) := State.frames_setFrames _ (State.cur_lt_of_frames hfr)
  refine ⟨(T.setVm vm').setFrames (.throwing q :: below), ?_, .threw q, X'.here.running, hend, Or.inr ⟨q, rfl, E, ce, locs, hx _ hT (X'.ends _).1.alike, hcell9, hv, hcl, (X'.ends _).1, (X'.ends _).2.mono hc hs, hf⟩⟩
  rw [X.pushThrowing_eq]
  exact st
/-- a thing of a world lies in the heap -/
theorem vx_lt {D : va_G} {cl : List vw_C} {ws : va_W} {H1 : Heap} (h : va_P D cl ws H1) {k : Nat} {q : Nat × va_E} (hk : ws[k]? = some q) : q.1 < H1.size := (h k q hk).lt
end VXS
/-! ===== END ===== -/
/-! ===== BEGIN methods with a table of their own: called by a name, returning or throwing ===== -/
section VXH
/-! vx_backW, vx_callVX, vx_callSX, vx_callVW, vx_runVW, vx_runVX, vx_runSX, vx_ofWH follow the same proofs as their sisters above (Free/Laws.lean, Shelf42/LK1.lean); vx_outP calls Shelf42/NT130.lean (outThrough). -/
section
variable {l : Launch} {R : Room} {p : Program} {e : Env} {below : List Frame} {s : State} {sargs : Array Value} {y : MethodName} {len W9 : Nat}
theorem vx_backW {ws : List Cond} {rm : Room} {Pc : Array Value → State → Prop} {Qc : Array Value → State → Outcome → State → Prop} {XC : String → State → State → Prop} {mc ms : Nat} {free : Addr → Prop} {bytes : ByteArray} {maxL : Nat} {ret : Option FieldType} {hh : List (Nat × Nat × Nat × Nat)}
    (hM : vx_Met l y ws rm Pc Qc XC mc ms free) (hblind : FrameBlind Pc) (hrc : rm.cells = mc) (hrs : rm.slots = ms)
    (hframes : rm.frames + 1 ≤ R.frames) (hlocals : W9 + (maxL + 11) + rm.locals ≤ R.locals)
    (hws : ∀ w ∈ ws, ∀ a' U, s.WarmedH U.vm → w.before a' U = true) (hcode : Cond.codeWith y bytes maxL ret hh ∈ ws) (hinit : ∀ a' U, s.WarmedH U.vm → (Cond.initialized y.cls).before a' U = true) :
    vx_Back l R p e below s sargs y len W9 (PreOf R mc ms Pc) (PostOf Qc mc ms free) (vx_Post XC mc ms free) := by
  intro m meth c A g ig mk a X hg hsize hdg hW hn hp
  have h1 : (headSpec ws rm).pre.before a A.U = true := atoms_intro fun w hw => hws w hw _ _ X.warmed
  have h2 : (Cond.codeWith y bytes maxL ret hh).before a A.U = true := hws _ hcode _ _ X.warmed
  have h3 : (Cond.initialized y.cls).before a A.U = true := hinit _ _ X.warmed
  have h4 : A.cells + (headSpec ws rm).room.cells ≤ R.cells := by rw [show (headSpec ws rm).room.cells = mc from hrc]; exact hp.1
  have h5 : A.slots + (headSpec ws rm).room.slots ≤ R.slots := by rw [show (headSpec ws rm).room.slots = ms from hrs]; exact hp.2.1
  have hPc : Pc a (A.U.calling g mk a) := hblind _ _ _ _ hp.2.2
  obtain ⟨U, Ls, c0, s0⟩ := A
  dsimp only [Pt.U, Pt.locs, Pt.cells, Pt.slots] at h1 h2 h3 h4 h5 X hn hPc ⊢
  obtain ⟨m9, methY, cY, hn9, hmY, hcY, -, hlY, -⟩ := Cond.codeWith_spec h2
  cases Option.some.inj (hn9.symm.trans hn)
  obtain ⟨kY, hkY, -⟩ := className_of_methodNamed hn
  have hinitY : kY.init = .initialized := Cond.initialized_spec (findClass_of_methodNamed hn) hkY h3
  have h : At U g.method c below := by rw [hg]; exact X.here
  have hlocals9 : W9 + (maxL + 11) + (headSpec ws rm).room.locals ≤ R.locals := hlocals
  have happ : (headSpec ws rm).appliesLoose y e.platform (U.calling g mk a) = true :=
    Spec.appliesLoose_calling (g := g) h hdg hn hkY hinitY
      (X.room_calling (g := g) (R' := (headSpec ws rm).room) hsize hmY hcY hframes (by rw [hlY]; omega) h4 h5) h1
  obtain ⟨mid, hmid⟩ := h.above
  have hfr : (U.setTop g).frames = (.java g :: mid) ++ below := by rw [State.frames_setTop' g h.top, hmid]; rfl
  obtain ⟨o, s₂, hsteps, -, hend, hq⟩ := Steps.callFree hM p X.admits X.cas X.clock (acts := []) hfr happ hPc trivial
  have hq' : vx_Q Qc XC mc ms free a (U.calling g mk a) o s₂ := hq
  rw [State.frames_setTop' g h.top] at hend
  obtain ⟨g₀, hg0⟩ := Option.isSome_iff_exists.mp h.top
  obtain ⟨r, hr⟩ := State.topJava?_eq_some.mp hg0
  have hr' : (({ U with heap := s₂.heap, slotsUsed := s₂.slotsUsed } : State).setVm s₂.vm).frames = .java g₀ :: r := hr
  rcases hq' with ⟨hqc, L, hfe, hL⟩ | ⟨q, rfl, E, ce, L, hx, hce, hcv, hcl, hW₂, hsm, hL⟩
  · obtain ⟨⟨v, rfl⟩, hW₂, e2, q2, q3, q4, q5, q6⟩ := id hfe
    have e3 : s₂ = ({ (U.calling g mk a).setFrames s₂.frames with heap := s₂.heap, slotsUsed := s₂.slotsUsed } : State).setVm s₂.vm := by
      have : s₂ = ({ s₂ with vm := (U.calling g mk a).vm } : State).setVm s₂.vm := rfl
      rw [e2] at this
      exact this
    obtain ⟨c₂, i₂, len₂, hc₂, hd₂, hf₂⟩ := hend
    have hW' : U.WarmedH s₂.vm := hW₂
    have hcc : c₂ = c := by
      have h1 : s₂.code? g.method = U.code? g.method := by
        rw [State.code?_eq, State.code?_eq, hW'.alike.method?]
      exact Option.some.inj (hc₂.symm.trans (h1.trans h.code))
    subst hcc
    have hlen : len₂ = len := by rw [hdg] at hd₂; cases hd₂; rfl
    subst hlen
    have hs₂ : s₂ = (({ U with heap := s₂.heap, slotsUsed := s₂.slotsUsed } : State).setVm s₂.vm).setTop { g with pc := g.pc + len₂, stack := v.toList ++ g.stack } := by
      refine e3.trans ?_
      rw [hf₂, State.calling_eq h.top, State.setFrames_setFrames, State.setTop_of_frames _ hr', hr]
      rfl
    have hsame : U.sameButNew ({ U with heap := s₂.heap, slotsUsed := s₂.slotsUsed } : State) L mc ms := by
      refine ⟨?_, q2, q3, q4, q5, q6⟩
      obtain ⟨t, ht, -⟩ := State.frames_cons hr
      show ({ U with heap := s₂.heap, slotsUsed := s₂.slotsUsed } : State) = { U.setFrames U.frames with heap := s₂.heap, slotsUsed := s₂.slotsUsed }
      rw [State.setFrames_self ht]
    subst hg
    refine Or.inl ⟨v, ⟨(({ U with heap := s₂.heap, slotsUsed := s₂.slotsUsed } : State).setVm s₂.vm), Ls ++ L, c0 + mc, s0 + ms⟩,
      ⟨X.admits, X.cas, X.clock, X.frames, X.room, X.hears, X.method, X.code, (X.here.setHeapUsed s₂.heap s₂.slotsUsed).setVm hW'.alike, X.tail, State.WarmedH.trans X.warmed hW', X.limits, X.bytes, X.same.trans (hsame.setVm s.vm)⟩,
      ⟨g, mk, s₂, L, rfl, rfl, hqc, rfl, hL, rfl, rfl⟩, ?_⟩
    show Steps p.tables e below _ ((({ U with heap := s₂.heap, slotsUsed := s₂.slotsUsed } : State).setVm s₂.vm).setTop { g with pc := g.pc + len₂, stack := v.toList ++ g.stack })
    rw [← hs₂]
    exact hsteps
  · obtain ⟨e2, q2, q3, q4, q5, q6⟩ := id hsm
    have e3 : s₂ = ({ (U.calling g mk a).setFrames s₂.frames with heap := s₂.heap, slotsUsed := s₂.slotsUsed } : State).setVm s₂.vm := by
      have : s₂ = ({ s₂ with vm := (U.calling g mk a).vm } : State).setVm s₂.vm := rfl
      rw [e2] at this
      exact this
    have hf₂ : s₂.frames = .throwing q :: .java g :: U.frames.tail := hend
    have hW' : U.WarmedH s₂.vm := hW₂
    have hs₂ : s₂ = ((({ U with heap := s₂.heap, slotsUsed := s₂.slotsUsed } : State).setVm s₂.vm).setTop g).pushFrame (.throwing q) := by
      refine e3.trans ?_
      rw [hf₂, State.calling_eq h.top, State.setFrames_setFrames, State.pushFrame, State.frames_setTop _ hr', State.setTop_of_frames _ hr', State.setFrames_setFrames, hr]
      rfl
    have hsame : U.sameButNew ({ U with heap := s₂.heap, slotsUsed := s₂.slotsUsed } : State) L mc ms := by
      refine ⟨?_, q2, q3, q4, q5, q6⟩
      obtain ⟨t, ht, -⟩ := State.frames_cons hr
      show ({ U with heap := s₂.heap, slotsUsed := s₂.slotsUsed } : State) = { U.setFrames U.frames with heap := s₂.heap, slotsUsed := s₂.slotsUsed }
      rw [State.setFrames_self ht]
    subst hg
    refine Or.inr ⟨q, ⟨(({ U with heap := s₂.heap, slotsUsed := s₂.slotsUsed } : State).setVm s₂.vm), Ls ++ L, c0 + mc, s0 + ms⟩,
      ⟨X.admits, X.cas, X.clock, X.frames, X.room, X.hears, X.method, X.code, (X.here.setHeapUsed s₂.heap s₂.slotsUsed).setVm hW'.alike, X.tail, State.WarmedH.trans X.warmed hW', X.limits, X.bytes, X.same.trans (hsame.setVm s.vm)⟩,
      ⟨g, mk, s₂, L, E, ce, rfl, rfl, hx, hce, hcv, hcl, rfl, hL, rfl, rfl⟩, ?_⟩
    show Steps p.tables e below _ (((({ U with heap := s₂.heap, slotsUsed := s₂.slotsUsed } : State).setVm s₂.vm).setTop g).pushFrame (.throwing q))
    rw [← hs₂]
    exact hsteps
end
variable {p : Program} {l : Launch} {e : Env} {R : Room} {s : State} {m : MethodId} {args : Array Value} {below : List Frame} {meth : Method} {c : Code} {T : State} {H : Heap} {locs : List Loc} {cells slots : Nat}
theorem vx_callVX (X : Stand p l e R s m args below meth c T locs cells slots) (hexec : p.tables.exec = Jvm.exec) {own C : String} {index : Nat} {y : MethodName} {bytes : ByteArray} {maxL : Nat} {ret : Option FieldType} {hh : List (Nat × Nat × Nat × Nat)}
    (hown : s.vm.findClass own = some m.cls) (hlink : (Cond.methodLink own index y).before args s = true) (hinst : (Cond.instanceMethod y).before args s = true) (hsel : (Cond.selects C y y).before args s = true)
    (hcode : (Cond.codeWith y bytes maxL ret hh).before args s = true) (hy : y.cls ≠ "java/lang/invoke/MethodHandle" ∧ y.cls ≠ "java/lang/invoke/VarHandle")
    {W9 : Nat} {Pre : Pt → Array Value → Prop} {Post : Pt → Array Value → Option Value → Pt → Prop} {PostX : Pt → Array Value → Addr → Pt → Prop} (hK : vx_Back l R p e below s args y 3 W9 Pre Post PostX)
    {b : Addr} {cellB : Cell} (hcell : T.heap[b]? = some cellB) (hobj : cellB.vm.isStatics = false) (hcls : s.vm.findClass C = some cellB.cls)
    {g : JFrame} (hg : g.method = m) (hsize : g.locals.size = c.maxLocals) {argsL rest : List Value} (hlen : ∀ sig, parseMethodDescriptor y.desc = some sig → argsL.length = sig.parameters.length)
    (hstack : g.stack = argsL.reverse ++ .ref b :: rest) (hW : 2 * g.monitorRoom + (rest.map fun v => v.category).sum ≤ W9) (hdg : decode c.code g.pc = .ok (.invokevirtual index, 3))
    (hpre : ∀ vm₁, s.WarmedH vm₁ → Pre ⟨T.setVm vm₁, locs, cells, slots⟩ (Value.ref b :: argsL).toArray) :
    (∃ (v : Option Value) (vm₁ : Vm) (B : Pt), s.WarmedH vm₁ ∧ Stand p l e R s m args below meth c B.U B.locs B.cells B.slots ∧ Post ⟨T.setVm vm₁, locs, cells, slots⟩ (Value.ref b :: argsL).toArray v B ∧
      ∀ target, Steps p.tables e below (B.U.setTop { g with pc := g.pc + 3, stack := v.toList ++ rest }) target → Steps p.tables e below (T.setTop g) target) ∨
    (∃ (q : Addr) (vm₁ : Vm) (B : Pt), s.WarmedH vm₁ ∧ Stand p l e R s m args below meth c B.U B.locs B.cells B.slots ∧ PostX ⟨T.setVm vm₁, locs, cells, slots⟩ (Value.ref b :: argsL).toArray q B ∧
      Steps p.tables e below (T.setTop g) ((B.U.setTop { g with stack := rest }).pushFrame (.throwing q))) := by
  obtain ⟨mk, methM, hnamed, hmethM, hstM, habM⟩ := Cond.instanceMethod_spec hinst
  obtain ⟨m8, methM', cM, hn8, hmethM', -, -, -, -, -, -, hsigM⟩ := Cond.codeWith_spec hcode
  cases Option.some.inj (hn8.symm.trans hnamed)
  cases hmethM.symm.trans hmethM'
  obtain ⟨c2, r2, m2, q1, q2, q3, q4, kP, hkP, hkPi⟩ := Cond.selects_spec hsel
  cases hcls.symm.trans q1
  cases (State.methodFound?_of_named hnamed hy).symm.trans q2
  cases hnamed.symm.trans q3
  have hselP : selectMethod e.platform s.vm cellB.cls mk = .method mk := by rw [Launch.admits_selectMethod X.admits]; exact q4
  obtain ⟨vm₁, X₁, hstep₁⟩ := X.invokevirtual hexec hown hlink hnamed hmethM hstM hkP hkPi hy (a := b) (cell := cellB) hcell
    (fun z h => by rw [h] at hobj; cases hobj) hselP hmethM habM hkP hkPi (g := g) hg (argsL := argsL) (rest := rest) (hlen _ hsigM) hstack hdg
  rcases hK m meth c ⟨T.setVm vm₁, locs, cells, slots⟩ { g with stack := rest } (.invokevirtual index) mk (Value.ref b :: argsL).toArray X₁ hg hsize hdg hW (X₁.named hnamed) (hpre vm₁ X₁.warmed) with ⟨v, B, X', hpost, hsteps⟩ | ⟨q, B, X', hpost, hsteps⟩
  · exact Or.inl ⟨v, vm₁, B, X₁.warmed, X', hpost, fun target h => hstep₁ _ fun acts => by rw [doInvoke_state]; exact hsteps.trans h⟩
  · exact Or.inr ⟨q, vm₁, B, X₁.warmed, X', hpost, hstep₁ _ fun acts => by rw [doInvoke_state]; exact hsteps⟩
theorem vx_callSX (X : Stand p l e R s m args below meth c T locs cells slots) (hexec : p.tables.exec = Jvm.exec) {own : String} {index : Nat} {y : MethodName} {bytes : ByteArray} {maxL : Nat} {ret : Option FieldType} {hh : List (Nat × Nat × Nat × Nat)}
    (hown : s.vm.findClass own = some m.cls) (hlink : (Cond.methodLink own index y).before args s = true) (hstat : (Cond.static y).before args s = true) (hinit : (Cond.initialized y.cls).before args s = true)
    (hcode : (Cond.codeWith y bytes maxL ret hh).before args s = true) (hy : y.cls ≠ "java/lang/invoke/MethodHandle" ∧ y.cls ≠ "java/lang/invoke/VarHandle")
    {W9 : Nat} {Pre : Pt → Array Value → Prop} {Post : Pt → Array Value → Option Value → Pt → Prop} {PostX : Pt → Array Value → Addr → Pt → Prop} (hK : vx_Back l R p e below s args y 3 W9 Pre Post PostX)
    {g : JFrame} (hg : g.method = m) (hsize : g.locals.size = c.maxLocals) {argsL rest : List Value} (hlen : ∀ sig, parseMethodDescriptor y.desc = some sig → argsL.length = sig.parameters.length)
    (hstack : g.stack = argsL.reverse ++ rest) (hW : 2 * g.monitorRoom + (rest.map fun v => v.category).sum ≤ W9) (hdg : decode c.code g.pc = .ok (.invokestatic index, 3))
    (hpre : ∀ vm₁, s.WarmedH vm₁ → Pre ⟨T.setVm vm₁, locs, cells, slots⟩ argsL.toArray) :
    (∃ (v : Option Value) (vm₁ : Vm) (B : Pt), s.WarmedH vm₁ ∧ Stand p l e R s m args below meth c B.U B.locs B.cells B.slots ∧ Post ⟨T.setVm vm₁, locs, cells, slots⟩ argsL.toArray v B ∧
      ∀ target, Steps p.tables e below (B.U.setTop { g with pc := g.pc + 3, stack := v.toList ++ rest }) target → Steps p.tables e below (T.setTop g) target) ∨
    (∃ (q : Addr) (vm₁ : Vm) (B : Pt), s.WarmedH vm₁ ∧ Stand p l e R s m args below meth c B.U B.locs B.cells B.slots ∧ PostX ⟨T.setVm vm₁, locs, cells, slots⟩ argsL.toArray q B ∧
      Steps p.tables e below (T.setTop g) ((B.U.setTop { g with stack := rest }).pushFrame (.throwing q))) := by
  obtain ⟨mk, methM, cM, hnamed, hmethM, -, -, -, -, -, -, hsigM⟩ := Cond.codeWith_spec hcode
  have hstatic : methM.isStatic = true := Cond.static_spec hnamed hmethM hstat
  obtain ⟨kP, hkP, -⟩ := className_of_methodNamed hnamed
  have hinitP : kP.init = .initialized := Cond.initialized_spec (findClass_of_methodNamed hnamed) hkP hinit
  obtain ⟨vm₁, X₁, hstep₁⟩ := X.invokestatic hexec hown hlink hnamed hmethM hstatic hkP hinitP hy (g := g) hg (argsL := argsL) (rest := rest) (hlen _ hsigM) hstack hdg
  rcases hK m meth c ⟨T.setVm vm₁, locs, cells, slots⟩ { g with stack := rest } (.invokestatic index) mk argsL.toArray X₁ hg hsize hdg hW (X₁.named hnamed) (hpre vm₁ X₁.warmed) with ⟨v, B, X', hpost, hsteps⟩ | ⟨q, B, X', hpost, hsteps⟩
  · exact Or.inl ⟨v, vm₁, B, X₁.warmed, X', hpost, fun target h => hstep₁ _ fun acts => by rw [doInvoke_state]; exact hsteps.trans h⟩
  · exact Or.inr ⟨q, vm₁, B, X₁.warmed, X', hpost, hstep₁ _ fun acts => by rw [doInvoke_state]; exact hsteps⟩
theorem vx_callVW (X : Stand p l e R s m args below meth c T locs cells slots) (hexec : p.tables.exec = Jvm.exec) {own C : String} {index : Nat} {y : MethodName} {bytes : ByteArray} {maxL : Nat} {ret : Option FieldType} {hh : List (Nat × Nat × Nat × Nat)}
    (hown : s.vm.findClass own = some m.cls) (hlink : (Cond.methodLink own index y).before args s = true) (hinst : (Cond.instanceMethod y).before args s = true) (hsel : (Cond.selects C y y).before args s = true)
    (hcode : (Cond.codeWith y bytes maxL ret hh).before args s = true) (hy : y.cls ≠ "java/lang/invoke/MethodHandle" ∧ y.cls ≠ "java/lang/invoke/VarHandle")
    {W9 : Nat} {Pre : Pt → Array Value → Prop} {Post : Pt → Array Value → Option Value → Pt → Prop} (hK : Back l R p e below s args y 3 W9 Pre Post)
    {b : Addr} {cellB : Cell} (hcell : T.heap[b]? = some cellB) (hobj : cellB.vm.isStatics = false) (hcls : s.vm.findClass C = some cellB.cls)
    {g : JFrame} (hg : g.method = m) (hsize : g.locals.size = c.maxLocals) {argsL rest : List Value} (hlen : ∀ sig, parseMethodDescriptor y.desc = some sig → argsL.length = sig.parameters.length)
    (hstack : g.stack = argsL.reverse ++ .ref b :: rest) (hW : 2 * g.monitorRoom + (rest.map fun v => v.category).sum ≤ W9) (hdg : decode c.code g.pc = .ok (.invokevirtual index, 3))
    (hpre : ∀ vm₁, s.WarmedH vm₁ → Pre ⟨T.setVm vm₁, locs, cells, slots⟩ (Value.ref b :: argsL).toArray) :
    ∃ (v : Option Value) (vm₁ : Vm) (B : Pt), s.WarmedH vm₁ ∧ Stand p l e R s m args below meth c B.U B.locs B.cells B.slots ∧ Post ⟨T.setVm vm₁, locs, cells, slots⟩ (Value.ref b :: argsL).toArray v B ∧
      ∀ target, Steps p.tables e below (B.U.setTop { g with pc := g.pc + 3, stack := v.toList ++ rest }) target → Steps p.tables e below (T.setTop g) target := by
  obtain ⟨mk, methM, hnamed, hmethM, hstM, habM⟩ := Cond.instanceMethod_spec hinst
  obtain ⟨m8, methM', cM, hn8, hmethM', -, -, -, -, -, -, hsigM⟩ := Cond.codeWith_spec hcode
  cases Option.some.inj (hn8.symm.trans hnamed)
  cases hmethM.symm.trans hmethM'
  obtain ⟨c2, r2, m2, q1, q2, q3, q4, kP, hkP, hkPi⟩ := Cond.selects_spec hsel
  cases hcls.symm.trans q1
  cases (State.methodFound?_of_named hnamed hy).symm.trans q2
  cases hnamed.symm.trans q3
  have hselP : selectMethod e.platform s.vm cellB.cls mk = .method mk := by rw [Launch.admits_selectMethod X.admits]; exact q4
  obtain ⟨vm₁, X₁, hstep₁⟩ := X.invokevirtual hexec hown hlink hnamed hmethM hstM hkP hkPi hy (a := b) (cell := cellB) hcell
    (fun z h => by rw [h] at hobj; cases hobj) hselP hmethM habM hkP hkPi (g := g) hg (argsL := argsL) (rest := rest) (hlen _ hsigM) hstack hdg
  obtain ⟨v, B, X', hpost, hsteps⟩ := hK m meth c ⟨T.setVm vm₁, locs, cells, slots⟩ { g with stack := rest } (.invokevirtual index) mk (Value.ref b :: argsL).toArray X₁ hg hsize hdg hW (X₁.named hnamed) (hpre vm₁ X₁.warmed)
  exact ⟨v, vm₁, B, X₁.warmed, X', hpost, fun target h => hstep₁ _ fun acts => by rw [doInvoke_state]; exact hsteps.trans h⟩
abbrev vx_CVW (R : Room) (s : State) (args : Array Value) (own C : String) (index : Nat) (y : MethodName) (bytes : ByteArray) (maxL : Nat) (ret : Option FieldType) (hh : List (Nat × Nat × Nat × Nat)) (ws : List Cond) (rm : Room) (mc ms n : Nat) : Prop :=
  (rm.cells = mc ∧ rm.slots = ms ∧ rm.frames + 1 ≤ R.frames ∧ 8 + (maxL + 11) + rm.locals ≤ R.locals ∧ (∀ w ∈ ws, ∀ (a' : Array Value) (U : State), s.WarmedH U.vm → w.before a' U = true) ∧ Cond.codeWith y bytes maxL ret hh ∈ ws) ∧
  (Cond.codeWith y bytes maxL ret hh).before args s = true ∧ (Cond.initialized y.cls).before args s = true ∧ (y.cls ≠ "java/lang/invoke/MethodHandle" ∧ y.cls ≠ "java/lang/invoke/VarHandle") ∧
  (∀ sig, parseMethodDescriptor y.desc = some sig → n = sig.parameters.length) ∧ (Cond.methodLink own index y).before args s = true ∧ (Cond.instanceMethod y).before args s = true ∧ (Cond.selects C y y).before args s = true
theorem vx_cwVW {own C : String} {index maxL mc ms : Nat} {y : MethodName} {bytes : ByteArray} {ret : Option FieldType} {hh : List (Nat × Nat × Nat × Nat)} {Ts ws ws' : List Cond} {rm : Room} (n : Nat) (ht : ∀ w ∈ Ts, w.before args s = true) (hT : GoodIn Ts (wsV own index C y ws)) (hw : ws = Cond.codeWith y bytes maxL ret hh :: ws') (hrc : rm.cells = mc) (hrs : rm.slots = ms)
    (hd : y.cls = C ∧ y.cls ≠ "java/lang/invoke/MethodHandle" ∧ y.cls ≠ "java/lang/invoke/VarHandle" ∧ (parseMethodDescriptor y.desc).map (fun d => d.parameters.length) = some n) (hR : rm.frames + 1 ≤ R.frames ∧ 8 + (maxL + 11) + rm.locals ≤ R.locals) :
    vx_CVW R s args own C index y bytes maxL ret hh ws rm mc ms n := by
  obtain ⟨hC, hd⟩ := hd
  subst hC
  have ok : ∀ w ∈ wsV own index y.cls y ws, w.before args s = true := fun w h => ht w (hT w h).1
  have hG : GoodIn Ts ws := fun w h => hT w (by unfold wsV; exact List.mem_append_right _ h)
  have hc : Cond.codeWith y bytes maxL ret hh ∈ ws := by rw [hw]; exact List.mem_cons_self
  refine ⟨⟨hrc, hrs, hR.1, hR.2, pay_in ht hG, hc⟩, ht _ (hG _ hc).1, ok _ (by simp [wsV]), ⟨hd.1, hd.2.1⟩, fun sig h => ?_, ok _ (by simp [wsV]), ok _ (by simp [wsV]), ok _ (by simp [wsV])⟩
  have h2 := hd.2.2
  rw [h] at h2
  exact (Option.some.inj h2).symm
theorem vx_runVW {y : MethodName} {bytes cc : ByteArray} {maxL nL mc ms n index : Nat} {ret : Option FieldType} {hh : List (Nat × Nat × Nat × Nat)} {ws : List Cond} {rm : Room} {Pc : Array Value → State → Prop} {Qc : Array Value → State → Outcome → State → Prop} {free : Addr → Prop} {Ts : List Cond} {own C : String} {b : Addr} {As rest : List Value} {g : JFrame}
    (S : CallFix p m c cc nL s args Ts own) (hM : Met l y ws rm Pc Qc mc ms free) (cw : vx_CVW R s args own C index y bytes maxL ret hh ws rm mc ms n) (hp : PreV s H C b Pc As)
    (hg : g.method = m) (hn : As.length = n) (hsize : g.locals.size = nL) (hstack : g.stack = As.reverse ++ .ref b :: rest) (hW : 2 * g.monitorRoom + (rest.map fun v => v.category).sum ≤ 8) (hdg : decode cc g.pc = .ok (.invokevirtual index, 3)) (hf : cells + mc ≤ R.cells ∧ slots + ms ≤ R.slots) :
    va_Run p l e R s m args below meth c H locs cells slots mc ms g rest (Qc (Value.ref b :: As).toArray) free := by
  obtain ⟨⟨hrc, hrs, hfr, hlo, hws, hcw⟩, hcode, hini, hy, hlen, hl, hin, hse⟩ := cw
  have hK : Back l R p e below s args y 3 8 (PreOf R mc ms Pc) (PostOf Qc mc ms free) := va_backW (hh := hh) (bytes := bytes) (maxL := maxL) (ret := ret) hM hp.1 hrc hrs hfr hlo hws hcw (fun a' U hW => word_at hW (Or.inl (by first | rfl | simp [Cond.onTables, Cond.keeps, Cond.steady])) hini)
  obtain ⟨hx, hb, hml, ho, -⟩ := S
  obtain ⟨-, ⟨cellB, hcB, hoB, hclB⟩, hPc⟩ := hp
  intro T hT X
  obtain ⟨v, vm₁, ⟨U', l2, c2, s2⟩, hW₁, X', ⟨g', mk, t, L, e1, e2, hq, h1, hL, h2, h3⟩, st⟩ := vx_callVW X hx (C := C) (hh := hh) (bytes := bytes) (maxL := maxL) (ret := ret) ho hl hin hse hcode hy hK (by rw [hT]; exact hcB) hoB hclB hg (hsize.trans hml.symm) (argsL := As) (rest := rest) (fun sig h => hn.trans (hlen sig h)) hstack hW (by rw [hb]; exact hdg)
    (fun vm₁ hW₁ => ⟨hf.1, hf.2, hPc (T.setVm vm₁) hT hW₁⟩)
  dsimp only [Pt.U, Pt.locs, Pt.cells, Pt.slots] at X' e1 e2 h1 h2 h3 st
  subst h1; subst h2; subst h3
  exact ⟨v, (T.setVm vm₁).calling g' mk (Value.ref b :: As).toArray, t, U', L, hT, X', hL, e1, e2, hq, st⟩
section
variable {y : MethodName} {bytes cc : ByteArray} {maxL nL mc ms n index : Nat} {ret : Option FieldType} {ws : List Cond} {rm : Room} {Pc : Array Value → State → Prop} {Qc : Array Value → State → Outcome → State → Prop} {XC : String → State → State → Prop} {free : Addr → Prop} {Ts : List Cond} {own C : String} {b : Addr} {As rest : List Value} {g : JFrame}
theorem vx_runVX {hh : List (Nat × Nat × Nat × Nat)} (S : CallFix p m c cc nL s args Ts own) (hM : vx_Met l y ws rm Pc Qc XC mc ms free) (cw : vx_CVW R s args own C index y bytes maxL ret hh ws rm mc ms n) (hp : PreV s H C b Pc As)
    (hg : g.method = m) (hn : As.length = n) (hsize : g.locals.size = nL) (hstack : g.stack = As.reverse ++ .ref b :: rest) (hW : 2 * g.monitorRoom + (rest.map fun v => v.category).sum ≤ 8) (hdg : decode cc g.pc = .ok (.invokevirtual index, 3)) (hf : cells + mc ≤ R.cells ∧ slots + ms ≤ R.slots) :
    vx_Run p l e R s m args below meth c H locs cells slots mc ms g rest (Qc (Value.ref b :: As).toArray) XC free := by
  obtain ⟨⟨hrc, hrs, hfr, hlo, hws, hcw⟩, hcode, hini, hy, hlen, hl, hin, hse⟩ := cw
  have hK : vx_Back l R p e below s args y 3 8 (PreOf R mc ms Pc) (PostOf Qc mc ms free) (vx_Post XC mc ms free) := vx_backW (hh := hh) (bytes := bytes) (maxL := maxL) (ret := ret) hM hp.1 hrc hrs hfr hlo hws hcw (fun a' U hW => word_at hW (Or.inl (by first | rfl | simp [Cond.onTables, Cond.keeps, Cond.steady])) hini)
  obtain ⟨hx, hb, hml, ho, -⟩ := S
  obtain ⟨-, ⟨cellB, hcB, hoB, hclB⟩, hPc⟩ := hp
  intro T hT X
  rcases vx_callVX X hx (C := C) (hh := hh) (bytes := bytes) (maxL := maxL) (ret := ret) ho hl hin hse hcode hy hK (by rw [hT]; exact hcB) hoB hclB hg (hsize.trans hml.symm) (argsL := As) (rest := rest) (fun sig h => hn.trans (hlen sig h)) hstack hW (by rw [hb]; exact hdg)
    (fun vm₁ hW₁ => ⟨hf.1, hf.2, hPc (T.setVm vm₁) hT hW₁⟩) with ⟨v, vm₁, ⟨U', l2, c2, s2⟩, hW₁, X', ⟨g', mk, t, L, e1, e2, hq, h1, hL, h2, h3⟩, st⟩ | ⟨q, vm₁, ⟨U', l2, c2, s2⟩, hW₁, X', ⟨g', mk, t, L, E, ce, e1, e2, hq, hce, hcv, hcl, h1, hL, h2, h3⟩, st⟩
  · dsimp only [Pt.U, Pt.locs, Pt.cells, Pt.slots] at X' e1 e2 h1 h2 h3 st
    subst h1; subst h2; subst h3
    exact Or.inl ⟨v, (T.setVm vm₁).calling g' mk (Value.ref b :: As).toArray, t, U', L, hT, X', hL, e1, e2, hq, st⟩
  · dsimp only [Pt.U, Pt.locs, Pt.cells, Pt.slots] at X' e1 e2 h1 h2 h3 st hcl
    subst h1; subst h2; subst h3
    exact Or.inr ⟨q, (T.setVm vm₁).calling g' mk (Value.ref b :: As).toArray, t, U', L, E, ce, hT, X', hL, e1, e2, hq, hce, hcv, vx_cls hW₁ hcl, st⟩
theorem vx_runSX {hh : List (Nat × Nat × Nat × Nat)} (S : CallFix p m c cc nL s args Ts own) (hM : vx_Met l y ws rm Pc Qc XC mc ms free) (cw : vx_CSW R s args own index y bytes maxL ret hh ws rm mc ms n) (hp : PreS s H Pc As)
    (hg : g.method = m) (hn : As.length = n) (hsize : g.locals.size = nL) (hstack : g.stack = As.reverse ++ rest) (hW : 2 * g.monitorRoom + (rest.map fun v => v.category).sum ≤ 8) (hdg : decode cc g.pc = .ok (.invokestatic index, 3)) (hf : cells + mc ≤ R.cells ∧ slots + ms ≤ R.slots) :
    vx_Run p l e R s m args below meth c H locs cells slots mc ms g rest (Qc As.toArray) XC free := by
  obtain ⟨⟨hrc, hrs, hfr, hlo, hws, hcw⟩, hcode, hini, hy, hlen, hl, hstt⟩ := cw
  have hK : vx_Back l R p e below s args y 3 8 (PreOf R mc ms Pc) (PostOf Qc mc ms free) (vx_Post XC mc ms free) := vx_backW (hh := hh) (bytes := bytes) (maxL := maxL) (ret := ret) hM hp.1 hrc hrs hfr hlo hws hcw (fun a' U hW => word_at hW (Or.inl (by first | rfl | simp [Cond.onTables, Cond.keeps, Cond.steady])) hini)
  obtain ⟨hx, hb, hml, ho, -⟩ := S
  intro T hT X
  rcases vx_callSX X hx (hh := hh) (bytes := bytes) (maxL := maxL) (ret := ret) ho hl hstt hini hcode hy hK hg (hsize.trans hml.symm) (argsL := As) (rest := rest) (fun sig h => hn.trans (hlen sig h)) hstack hW (by rw [hb]; exact hdg)
    (fun vm₁ hW₁ => ⟨hf.1, hf.2, hp.2 (T.setVm vm₁) hT hW₁⟩) with ⟨v, vm₁, ⟨U', l2, c2, s2⟩, hW₁, X', ⟨g', mk, t, L, e1, e2, hq, h1, hL, h2, h3⟩, st⟩ | ⟨q, vm₁, ⟨U', l2, c2, s2⟩, hW₁, X', ⟨g', mk, t, L, E, ce, e1, e2, hq, hce, hcv, hcl, h1, hL, h2, h3⟩, st⟩
  · dsimp only [Pt.U, Pt.locs, Pt.cells, Pt.slots] at X' e1 e2 h1 h2 h3 st
    subst h1; subst h2; subst h3
    exact Or.inl ⟨v, (T.setVm vm₁).calling g' mk As.toArray, t, U', L, hT, X', hL, e1, e2, hq, st⟩
  · dsimp only [Pt.U, Pt.locs, Pt.cells, Pt.slots] at X' e1 e2 h1 h2 h3 st hcl
    subst h1; subst h2; subst h3
    exact Or.inr ⟨q, (T.setVm vm₁).calling g' mk As.toArray, t, U', L, E, ce, hT, X', hL, e1, e2, hq, hce, hcv, vx_cls hW₁ hcl, st⟩
end
end VXH
theorem vx_ofWH {l : Launch} {y : MethodName} {ws ws' : List Cond} {rm : Room} {Pc : Array Value → State → Prop} {Qc : Array Value → State → Outcome → State → Prop} {XC : String → State → State → Prop} {mc ms : Nat} {free : Addr → Prop} {cc : ByteArray} {maxL : Nat} {ret : Option FieldType} {hh : List (Nat × Nat × Nat × Nat)}
    (hy : plainName y.cls = true) (hw : ws = Cond.codeWith y cc maxL ret hh :: ws')
    (body : ∀ p e s m args below meth c s₁, BodyLoose p l y (headSpec ws rm) cc maxL ret e s m args below meth c s₁ → c.maxLocals = maxL → Pc args s →
      W p l e (headSpec ws rm).room s m args below meth c s.heap [] 0 0 (vx_MQ below Qc XC args s mc ms free) (entryFrame m args maxL)) : vx_Met l y ws rm Pc Qc XC mc ms free := by
  refine MetFree.of_bodyS (code := cc) (maxLocals := maxL) (ret := ret) hy ?_ ?_
  · intro args s m h hn
    obtain ⟨m9, meth, c, hn9, h1, h2, h3, h4, -, h5, h6, -⟩ := Cond.codeWith_spec (atoms_spec (ws := ws) h _ (by rw [hw]; exact List.mem_cons_self))
    cases hn.symm.trans hn9
    exact ⟨meth, c, h1, h2, h3, h4, h5, h6⟩
  · intro p e s m args below meth c s₁ B hml hP _
    have hh0 : s₁.heap = s.heap := by rw [B.state]; rfl
    obtain ⟨t, a1, o, b1, b2, b3⟩ := body p e s m args below meth c s₁ B hml hP s₁ hh0 (Stand.of_body B)
    exact ⟨t, o, a1, b1, b2, b3⟩
/-! ===== END ===== -/
end
section
def RX0 : String := "CheckpointedStream$Channels"
def TX0 : u_T := fun k => match k with
  | 0 => ("CheckpointedStream$Channels", "items", "[I", true)
  | 1 => ("CheckpointedStream$Channels", "sizes", "[I", true)
  | _ => ("CheckpointedStream$Channels", "blocked", "[Z", true)
def tyX0 : Nat → FieldType := fun k => match k with
  | 0 => .array .int
  | 1 => .array .int
  | _ => .array .boolean
abbrev wsX00 : List Cond := u_ws RX0 TX0 3
theorem nmX0 : ∀ a, a < 3 → ∀ b, b < 3 → a ≠ b → (TX0 a).2.1 ≠ (TX0 b).2.1 := by decide +kernel
theorem tyX0_ok : ∀ k, k < 3 → parseFieldDescriptor (TX0 k).2.2.1 = some (tyX0 k) := by decide +kernel
abbrev cX0_init : ByteArray := prog_2_method_1_code
def yX0_init : MethodName := ⟨RX0, "<init>", "()V"⟩
abbrev cX0_channelOf : ByteArray := prog_2_method_2_code
def yX0_channelOf : MethodName := ⟨RX0, "channelOf", "(II)I"⟩
abbrev cX0_size : ByteArray := prog_2_method_3_code
def yX0_size : MethodName := ⟨RX0, "size", "(II)I"⟩
abbrev cX0_get : ByteArray := prog_2_method_4_code
def yX0_get : MethodName := ⟨RX0, "get", "(III)I"⟩
abbrev cX0_hasRoom : ByteArray := prog_2_method_5_code
def yX0_hasRoom : MethodName := ⟨RX0, "hasRoom", "(II)Z"⟩
abbrev cX0_isShut : ByteArray := prog_2_method_6_code
def yX0_isShut : MethodName := ⟨RX0, "isShut", "(II)Z"⟩
abbrev cX0_canGive : ByteArray := prog_2_method_7_code
def yX0_canGive : MethodName := ⟨RX0, "canGive", "(II)Z"⟩
abbrev cX0_put : ByteArray := prog_2_method_8_code
def yX0_put : MethodName := ⟨RX0, "put", "(III)V"⟩
abbrev cX0_removeFirst : ByteArray := prog_2_method_9_code
def yX0_removeFirst : MethodName := ⟨RX0, "removeFirst", "(II)I"⟩
abbrev cX0_block : ByteArray := prog_2_method_10_code
def yX0_block : MethodName := ⟨RX0, "block", "(II)V"⟩
abbrev cX0_areAllBlocked : ByteArray := prog_2_method_11_code
def yX0_areAllBlocked : MethodName := ⟨RX0, "areAllBlocked", "(I)Z"⟩
abbrev cX0_unblockAll : ByteArray := prog_2_method_12_code
def yX0_unblockAll : MethodName := ⟨RX0, "unblockAll", "(I)V"⟩
abbrev cX0_clearAll : ByteArray := prog_2_method_13_code
def yX0_clearAll : MethodName := ⟨RX0, "clearAll", "()V"⟩
abbrev cX0_sumOfKey : ByteArray := prog_2_method_14_code
def yX0_sumOfKey : MethodName := ⟨RX0, "sumOfKey", "(I)I"⟩
def RX1 : String := "CheckpointedStream$EventRows"
def TX1 : u_T := fun k => match k with
  | 0 => ("CheckpointedStream$EventRows", "lengths", "[I", true)
  | _ => ("CheckpointedStream$EventRows", "events", "[I", true)
def tyX1 : Nat → FieldType := fun k => match k with
  | 0 => .array .int
  | _ => .array .int
abbrev wsX10 : List Cond := u_ws RX1 TX1 2
theorem nmX1 : ∀ a, a < 2 → ∀ b, b < 2 → a ≠ b → (TX1 a).2.1 ≠ (TX1 b).2.1 := by decide +kernel
theorem tyX1_ok : ∀ k, k < 2 → parseFieldDescriptor (TX1 k).2.2.1 = some (tyX1 k) := by decide +kernel
abbrev cX1_init : ByteArray := prog_3_method_1_code
def yX1_init : MethodName := ⟨RX1, "<init>", "()V"⟩
abbrev cX1_add : ByteArray := prog_3_method_2_code
def yX1_add : MethodName := ⟨RX1, "add", "(II)I"⟩
abbrev cX1_get : ByteArray := prog_3_method_3_code
def yX1_get : MethodName := ⟨RX1, "get", "(II)I"⟩
abbrev cX1_sumAhead : ByteArray := prog_3_method_4_code
def yX1_sumAhead : MethodName := ⟨RX1, "sumAhead", "(III)I"⟩
def RX2 : String := "CheckpointedStream$Readers"
def TX2 : u_T := fun k => match k with
  | 0 => ("CheckpointedStream$Readers", "offsets", "[I", true)
  | 1 => ("CheckpointedStream$Readers", "kept", "[I", true)
  | 2 => ("CheckpointedStream$Readers", "sent", "[Z", true)
  | _ => ("CheckpointedStream$Readers", "keeping", "[I", true)
def tyX2 : Nat → FieldType := fun k => match k with
  | 0 => .array .int
  | 1 => .array .int
  | 2 => .array .boolean
  | _ => .array .int
abbrev wsX20 : List Cond := u_ws RX2 TX2 4
theorem nmX2 : ∀ a, a < 4 → ∀ b, b < 4 → a ≠ b → (TX2 a).2.1 ≠ (TX2 b).2.1 := by decide +kernel
theorem tyX2_ok : ∀ k, k < 4 → parseFieldDescriptor (TX2 k).2.2.1 = some (tyX2 k) := by decide +kernel
abbrev cX2_init : ByteArray := prog_4_method_1_code
def yX2_init : MethodName := ⟨RX2, "<init>", "()V"⟩
abbrev cX2_keepForBarrier : ByteArray := prog_4_method_2_code
def yX2_keepForBarrier : MethodName := ⟨RX2, "keepForBarrier", "(I)I"⟩
abbrev cX2_forgetBarriers : ByteArray := prog_4_method_3_code
def yX2_forgetBarriers : MethodName := ⟨RX2, "forgetBarriers", "()V"⟩
abbrev cX2_keepAll : ByteArray := prog_4_method_4_code
def yX2_keepAll : MethodName := ⟨RX2, "keepAll", "()V"⟩
abbrev cX2_returnToKept : ByteArray := prog_4_method_5_code
def yX2_returnToKept : MethodName := ⟨RX2, "returnToKept", "()V"⟩
def RX3 : String := "CheckpointedStream$Tally"
def TX3 : u_T := fun k => match k with
  | 0 => ("CheckpointedStream$Tally", "counts", "[I", true)
  | _ => ("CheckpointedStream$Tally", "sums", "[I", true)
def tyX3 : Nat → FieldType := fun k => match k with
  | 0 => .array .int
  | _ => .array .int
abbrev wsX30 : List Cond := u_ws RX3 TX3 2
theorem nmX3 : ∀ a, a < 2 → ∀ b, b < 2 → a ≠ b → (TX3 a).2.1 ≠ (TX3 b).2.1 := by decide +kernel
theorem tyX3_ok : ∀ k, k < 2 → parseFieldDescriptor (TX3 k).2.2.1 = some (tyX3 k) := by decide +kernel
abbrev cX3_init : ByteArray := prog_5_method_1_code
def yX3_init : MethodName := ⟨RX3, "<init>", "()V"⟩
abbrev cX3_add : ByteArray := prog_5_method_2_code
def yX3_add : MethodName := ⟨RX3, "add", "(III)V"⟩
abbrev cX3_copyKey : ByteArray := prog_5_method_3_code
def yX3_copyKey : MethodName := ⟨RX3, "copyKey", "(LCheckpointedStream$Tally;I)V"⟩
abbrev cX3_copyAll : ByteArray := prog_5_method_4_code
def yX3_copyAll : MethodName := ⟨RX3, "copyAll", "(LCheckpointedStream$Tally;)V"⟩
abbrev cX3_clearKey : ByteArray := prog_5_method_5_code
def yX3_clearKey : MethodName := ⟨RX3, "clearKey", "(I)V"⟩
abbrev cX3_clearAll : ByteArray := prog_5_method_6_code
def yX3_clearAll : MethodName := ⟨RX3, "clearAll", "()V"⟩
def RX4 : String := "CheckpointedStream"
def TX4 : u_T := fun k => match k with
  | 0 => ("CheckpointedStream", "rows", "LCheckpointedStream$EventRows;", true)
  | 1 => ("CheckpointedStream", "readers", "LCheckpointedStream$Readers;", true)
  | 2 => ("CheckpointedStream", "channels", "LCheckpointedStream$Channels;", true)
  | 3 => ("CheckpointedStream", "state", "LCheckpointedStream$Tally;", true)
  | 4 => ("CheckpointedStream", "openTallies", "LCheckpointedStream$Tally;", true)
  | 5 => ("CheckpointedStream", "sealedTallies", "LCheckpointedStream$Tally;", true)
  | 6 => ("CheckpointedStream", "keeping", "LCheckpointedStream$Tally;", true)
  | 7 => ("CheckpointedStream", "kept", "LCheckpointedStream$Tally;", true)
  | 8 => ("CheckpointedStream", "sink", "LCheckpointedStream$Tally;", true)
  | 9 => ("CheckpointedStream", "sealedFor", "[I", true)
  | 10 => ("CheckpointedStream", "workerCount", "I", false)
  | 11 => ("CheckpointedStream", "lastBegun", "I", false)
  | 12 => ("CheckpointedStream", "numberUnderWay", "I", false)
  | _ => ("CheckpointedStream", "latestComplete", "I", false)
def tyX4 : Nat → FieldType := fun k => match k with
  | 0 => .object "CheckpointedStream$EventRows"
  | 1 => .object "CheckpointedStream$Readers"
  | 2 => .object "CheckpointedStream$Channels"
  | 3 => .object "CheckpointedStream$Tally"
  | 4 => .object "CheckpointedStream$Tally"
  | 5 => .object "CheckpointedStream$Tally"
  | 6 => .object "CheckpointedStream$Tally"
  | 7 => .object "CheckpointedStream$Tally"
  | 8 => .object "CheckpointedStream$Tally"
  | 9 => .array .int
  | 10 => .int
  | 11 => .int
  | 12 => .int
  | _ => .int
abbrev wsX40 : List Cond := u_ws RX4 TX4 14
theorem nmX4 : ∀ a, a < 14 → ∀ b, b < 14 → a ≠ b → (TX4 a).2.1 ≠ (TX4 b).2.1 := by decide +kernel
theorem tyX4_ok : ∀ k, k < 14 → parseFieldDescriptor (TX4 k).2.2.1 = some (tyX4 k) := by decide +kernel
abbrev cX4_init : ByteArray := prog_1_method_1_code
def yX4_init : MethodName := ⟨RX4, "<init>", "()V"⟩
abbrev cX4_append : ByteArray := prog_1_method_2_code
def yX4_append : MethodName := ⟨RX4, "append", "(III)I"⟩
abbrev cX4_read : ByteArray := prog_1_method_3_code
def yX4_read : MethodName := ⟨RX4, "read", "(I)I"⟩
abbrev cX4_sendBarrier : ByteArray := prog_1_method_4_code
def yX4_sendBarrier : MethodName := ⟨RX4, "sendBarrier", "(I)I"⟩
abbrev cX4_take : ByteArray := prog_1_method_5_code
def yX4_take : MethodName := ⟨RX4, "take", "(II)I"⟩
abbrev cX4_pump : ByteArray := prog_1_method_6_code
def yX4_pump : MethodName := ⟨RX4, "pump", "(I)I"⟩
abbrev cX4_commit : ByteArray := prog_1_method_7_code
def yX4_commit : MethodName := ⟨RX4, "commit", "(I)I"⟩
abbrev cX4_beginCheckpoint : ByteArray := prog_1_method_8_code
def yX4_beginCheckpoint : MethodName := ⟨RX4, "beginCheckpoint", "()I"⟩
abbrev cX4_abandon : ByteArray := prog_1_method_9_code
def yX4_abandon : MethodName := ⟨RX4, "abandon", "()I"⟩
abbrev cX4_crash : ByteArray := prog_1_method_10_code
def yX4_crash : MethodName := ⟨RX4, "crash", "()I"⟩
abbrev cX4_rescale : ByteArray := prog_1_method_11_code
def yX4_rescale : MethodName := ⟨RX4, "rescale", "(I)I"⟩
abbrev cX4_events : ByteArray := prog_1_method_12_code
def yX4_events : MethodName := ⟨RX4, "events", "(I)I"⟩
abbrev cX4_offset : ByteArray := prog_1_method_13_code
def yX4_offset : MethodName := ⟨RX4, "offset", "(I)I"⟩
abbrev cX4_eventAt : ByteArray := prog_1_method_14_code
def yX4_eventAt : MethodName := ⟨RX4, "eventAt", "(II)I"⟩
abbrev cX4_queued : ByteArray := prog_1_method_15_code
def yX4_queued : MethodName := ⟨RX4, "queued", "(II)I"⟩
abbrev cX4_itemAt : ByteArray := prog_1_method_16_code
def yX4_itemAt : MethodName := ⟨RX4, "itemAt", "(III)I"⟩
abbrev cX4_isBlocked : ByteArray := prog_1_method_17_code
def yX4_isBlocked : MethodName := ⟨RX4, "isBlocked", "(II)Z"⟩
abbrev cX4_workers : ByteArray := prog_1_method_18_code
def yX4_workers : MethodName := ⟨RX4, "workers", "()I"⟩
abbrev cX4_workerOf : ByteArray := prog_1_method_19_code
def yX4_workerOf : MethodName := ⟨RX4, "workerOf", "(I)I"⟩
abbrev cX4_groupsOf : ByteArray := prog_1_method_20_code
def yX4_groupsOf : MethodName := ⟨RX4, "groupsOf", "(I)I"⟩
abbrev cX4_count : ByteArray := prog_1_method_21_code
def yX4_count : MethodName := ⟨RX4, "count", "(I)I"⟩
abbrev cX4_sum : ByteArray := prog_1_method_22_code
def yX4_sum : MethodName := ⟨RX4, "sum", "(I)I"⟩
abbrev cX4_open : ByteArray := prog_1_method_23_code
def yX4_open : MethodName := ⟨RX4, "open", "(I)I"⟩
abbrev cX4_sealed : ByteArray := prog_1_method_24_code
def yX4_sealed : MethodName := ⟨RX4, "sealed", "(I)I"⟩
abbrev cX4_underWay : ByteArray := prog_1_method_25_code
def yX4_underWay : MethodName := ⟨RX4, "underWay", "()I"⟩
abbrev cX4_complete : ByteArray := prog_1_method_26_code
def yX4_complete : MethodName := ⟨RX4, "complete", "()I"⟩
abbrev cX4_hasSent : ByteArray := prog_1_method_27_code
def yX4_hasSent : MethodName := ⟨RX4, "hasSent", "(I)Z"⟩
abbrev cX4_keptOffset : ByteArray := prog_1_method_28_code
def yX4_keptOffset : MethodName := ⟨RX4, "keptOffset", "(I)I"⟩
abbrev cX4_keptSum : ByteArray := prog_1_method_29_code
def yX4_keptSum : MethodName := ⟨RX4, "keptSum", "(I)I"⟩
abbrev cX4_committedCount : ByteArray := prog_1_method_30_code
def yX4_committedCount : MethodName := ⟨RX4, "committedCount", "(I)I"⟩
abbrev cX4_committedSum : ByteArray := prog_1_method_31_code
def yX4_committedSum : MethodName := ⟨RX4, "committedSum", "(I)I"⟩
abbrev cX4_committed : ByteArray := prog_1_method_32_code
def yX4_committed : MethodName := ⟨RX4, "committed", "()I"⟩
abbrev cX4_readSum : ByteArray := prog_1_method_33_code
def yX4_readSum : MethodName := ⟨RX4, "readSum", "(I)I"⟩
abbrev cX4_sumInChannels : ByteArray := prog_1_method_34_code
def yX4_sumInChannels : MethodName := ⟨RX4, "sumInChannels", "(I)I"⟩
abbrev cX4_requirePartition : ByteArray := prog_1_method_35_code
def yX4_requirePartition : MethodName := ⟨RX4, "requirePartition", "(I)V"⟩
abbrev cX4_requireKey : ByteArray := prog_1_method_36_code
def yX4_requireKey : MethodName := ⟨RX4, "requireKey", "(I)V"⟩
abbrev cX4_requireWorker : ByteArray := prog_1_method_37_code
def yX4_requireWorker : MethodName := ⟨RX4, "requireWorker", "(I)V"⟩
abbrev cX4_keyOf : ByteArray := prog_1_method_38_code
def yX4_keyOf : MethodName := ⟨RX4, "keyOf", "(I)I"⟩
abbrev cX4_valueOf : ByteArray := prog_1_method_39_code
def yX4_valueOf : MethodName := ⟨RX4, "valueOf", "(I)I"⟩
abbrev cX4_ownerOfGroup : ByteArray := prog_1_method_40_code
def yX4_ownerOfGroup : MethodName := ⟨RX4, "ownerOfGroup", "(II)I"⟩
abbrev cX4_ownerOfKey : ByteArray := prog_1_method_41_code
def yX4_ownerOfKey : MethodName := ⟨RX4, "ownerOfKey", "(I)I"⟩
abbrev cX4_canReadFrom : ByteArray := prog_1_method_42_code
def yX4_canReadFrom : MethodName := ⟨RX4, "canReadFrom", "(I)Z"⟩
abbrev cX4_readFrom : ByteArray := prog_1_method_43_code
def yX4_readFrom : MethodName := ⟨RX4, "readFrom", "(I)I"⟩
abbrev cX4_hasRoomInAllChannels : ByteArray := prog_1_method_44_code
def yX4_hasRoomInAllChannels : MethodName := ⟨RX4, "hasRoomInAllChannels", "(I)Z"⟩
abbrev cX4_takeFrom : ByteArray := prog_1_method_45_code
def yX4_takeFrom : MethodName := ⟨RX4, "takeFrom", "(II)I"⟩
abbrev cX4_takeEvent : ByteArray := prog_1_method_46_code
def yX4_takeEvent : MethodName := ⟨RX4, "takeEvent", "(II)I"⟩
abbrev cX4_takeBarrier : ByteArray := prog_1_method_47_code
def yX4_takeBarrier : MethodName := ⟨RX4, "takeBarrier", "(II)V"⟩
abbrev cX4_readRound : ByteArray := prog_1_method_48_code
def yX4_readRound : MethodName := ⟨RX4, "readRound", "()I"⟩
abbrev cX4_takeRound : ByteArray := prog_1_method_49_code
def yX4_takeRound : MethodName := ⟨RX4, "takeRound", "()I"⟩
abbrev cX4_sealTransaction : ByteArray := prog_1_method_50_code
def yX4_sealTransaction : MethodName := ⟨RX4, "sealTransaction", "(I)V"⟩
abbrev cX4_completeCheckpoint : ByteArray := prog_1_method_51_code
def yX4_completeCheckpoint : MethodName := ⟨RX4, "completeCheckpoint", "()V"⟩
abbrev cX4_haveAllSealed : ByteArray := prog_1_method_52_code
def yX4_haveAllSealed : MethodName := ⟨RX4, "haveAllSealed", "()Z"⟩
abbrev cX4_hasAnySealed : ByteArray := prog_1_method_53_code
def yX4_hasAnySealed : MethodName := ⟨RX4, "hasAnySealed", "()Z"⟩
abbrev cX4_isReadyToCommit : ByteArray := prog_1_method_54_code
def yX4_isReadyToCommit : MethodName := ⟨RX4, "isReadyToCommit", "(I)Z"⟩
abbrev cX4_commitSealed : ByteArray := prog_1_method_55_code
def yX4_commitSealed : MethodName := ⟨RX4, "commitSealed", "(I)I"⟩
abbrev cX4_moveTallies : ByteArray := prog_1_method_56_code
def yX4_moveTallies : MethodName := ⟨RX4, "moveTallies", "(LCheckpointedStream$Tally;LCheckpointedStream$Tally;I)I"⟩
abbrev cX4_startAgain : ByteArray := prog_1_method_57_code
def yX4_startAgain : MethodName := ⟨RX4, "startAgain", "(I)V"⟩
def RX5 : String := "CheckpointedStreamModel"
def TX5 : u_T := fun k => match k with
  | 0 => ("CheckpointedStreamModel", "thrown", "I", false)
  | 1 => ("CheckpointedStreamModel", "workers", "I", false)
  | 2 => ("CheckpointedStreamModel", "sizes", "[I", true)
  | 3 => ("CheckpointedStreamModel", "offsets", "[I", true)
  | 4 => ("CheckpointedStreamModel", "events", "[I", true)
  | 5 => ("CheckpointedStreamModel", "items", "[I", true)
  | 6 => ("CheckpointedStreamModel", "lengths", "[I", true)
  | 7 => ("CheckpointedStreamModel", "areBlocked", "[Z", true)
  | 8 => ("CheckpointedStreamModel", "counts", "[I", true)
  | 9 => ("CheckpointedStreamModel", "sums", "[I", true)
  | 10 => ("CheckpointedStreamModel", "openCounts", "[I", true)
  | 11 => ("CheckpointedStreamModel", "openSums", "[I", true)
  | 12 => ("CheckpointedStreamModel", "sealedCounts", "[I", true)
  | 13 => ("CheckpointedStreamModel", "sealedSums", "[I", true)
  | 14 => ("CheckpointedStreamModel", "sealedFor", "[I", true)
  | 15 => ("CheckpointedStreamModel", "sinkCounts", "[I", true)
  | 16 => ("CheckpointedStreamModel", "sinkSums", "[I", true)
  | 17 => ("CheckpointedStreamModel", "begun", "I", false)
  | 18 => ("CheckpointedStreamModel", "underWay", "I", false)
  | 19 => ("CheckpointedStreamModel", "complete", "I", false)
  | 20 => ("CheckpointedStreamModel", "haveSent", "[Z", true)
  | 21 => ("CheckpointedStreamModel", "nextOffsets", "[I", true)
  | 22 => ("CheckpointedStreamModel", "nextCounts", "[I", true)
  | 23 => ("CheckpointedStreamModel", "nextSums", "[I", true)
  | 24 => ("CheckpointedStreamModel", "keptOffsets", "[I", true)
  | 25 => ("CheckpointedStreamModel", "keptCounts", "[I", true)
  | _ => ("CheckpointedStreamModel", "keptSums", "[I", true)
def tyX5 : Nat → FieldType := fun k => match k with
  | 0 => .int
  | 1 => .int
  | 2 => .array .int
  | 3 => .array .int
  | 4 => .array .int
  | 5 => .array .int
  | 6 => .array .int
  | 7 => .array .boolean
  | 8 => .array .int
  | 9 => .array .int
  | 10 => .array .int
  | 11 => .array .int
  | 12 => .array .int
  | 13 => .array .int
  | 14 => .array .int
  | 15 => .array .int
  | 16 => .array .int
  | 17 => .int
  | 18 => .int
  | 19 => .int
  | 20 => .array .boolean
  | 21 => .array .int
  | 22 => .array .int
  | 23 => .array .int
  | 24 => .array .int
  | 25 => .array .int
  | _ => .array .int
abbrev wsX50 : List Cond := u_ws RX5 TX5 27
theorem nmX5 : ∀ a, a < 27 → ∀ b, b < 27 → a ≠ b → (TX5 a).2.1 ≠ (TX5 b).2.1 := by decide +kernel
theorem tyX5_ok : ∀ k, k < 27 → parseFieldDescriptor (TX5 k).2.2.1 = some (tyX5 k) := by decide +kernel
abbrev cX5_init : ByteArray := prog_7_method_1_code
def yX5_init : MethodName := ⟨RX5, "<init>", "()V"⟩
abbrev cX5_thrown : ByteArray := prog_7_method_2_code
def yX5_thrown : MethodName := ⟨RX5, "thrown", "()I"⟩
abbrev cX5_holds : ByteArray := prog_7_method_3_code
def yX5_holds : MethodName := ⟨RX5, "holds", "(I)Z"⟩
abbrev cX5_in : ByteArray := prog_7_method_4_code
def yX5_in : MethodName := ⟨RX5, "in", "(III)Z"⟩
abbrev cX5_isPartition : ByteArray := prog_7_method_5_code
def yX5_isPartition : MethodName := ⟨RX5, "isPartition", "(I)Z"⟩
abbrev cX5_isKey : ByteArray := prog_7_method_6_code
def yX5_isKey : MethodName := ⟨RX5, "isKey", "(I)Z"⟩
abbrev cX5_isWorker : ByteArray := prog_7_method_7_code
def yX5_isWorker : MethodName := ⟨RX5, "isWorker", "(I)Z"⟩
abbrev cX5_workerOfGroup : ByteArray := prog_7_method_8_code
def yX5_workerOfGroup : MethodName := ⟨RX5, "workerOfGroup", "(II)I"⟩
abbrev cX5_workerOfKey : ByteArray := prog_7_method_9_code
def yX5_workerOfKey : MethodName := ⟨RX5, "workerOfKey", "(I)I"⟩
abbrev cX5_channel : ByteArray := prog_7_method_10_code
def yX5_channel : MethodName := ⟨RX5, "channel", "(II)I"⟩
abbrev cX5_unseals : ByteArray := prog_7_method_11_code
def yX5_unseals : MethodName := ⟨RX5, "unseals", "()V"⟩
abbrev cX5_copies : ByteArray := prog_7_method_12_code
def yX5_copies : MethodName := ⟨RX5, "copies", "([I[I)V"⟩
abbrev cX5_clears : ByteArray := prog_7_method_13_code
def yX5_clears : MethodName := ⟨RX5, "clears", "([I)V"⟩
abbrev cX5_append : ByteArray := prog_7_method_14_code
def yX5_append : MethodName := ⟨RX5, "append", "(III)I"⟩
abbrev cX5_puts : ByteArray := prog_7_method_15_code
def yX5_puts : MethodName := ⟨RX5, "puts", "(II)V"⟩
abbrev cX5_nextEvent : ByteArray := prog_7_method_16_code
def yX5_nextEvent : MethodName := ⟨RX5, "nextEvent", "(I)I"⟩
abbrev cX5_canRead : ByteArray := prog_7_method_17_code
def yX5_canRead : MethodName := ⟨RX5, "canRead", "(I)Z"⟩
abbrev cX5_reads : ByteArray := prog_7_method_18_code
def yX5_reads : MethodName := ⟨RX5, "reads", "(I)I"⟩
abbrev cX5_read : ByteArray := prog_7_method_19_code
def yX5_read : MethodName := ⟨RX5, "read", "(I)I"⟩
abbrev cX5_canSend : ByteArray := prog_7_method_20_code
def yX5_canSend : MethodName := ⟨RX5, "canSend", "(I)Z"⟩
abbrev cX5_sendBarrier : ByteArray := prog_7_method_21_code
def yX5_sendBarrier : MethodName := ⟨RX5, "sendBarrier", "(I)I"⟩
abbrev cX5_canTake : ByteArray := prog_7_method_22_code
def yX5_canTake : MethodName := ⟨RX5, "canTake", "(II)Z"⟩
abbrev cX5_takes : ByteArray := prog_7_method_23_code
def yX5_takes : MethodName := ⟨RX5, "takes", "(II)I"⟩
abbrev cX5_aligns : ByteArray := prog_7_method_24_code
def yX5_aligns : MethodName := ⟨RX5, "aligns", "(I)V"⟩
abbrev cX5_completes : ByteArray := prog_7_method_25_code
def yX5_completes : MethodName := ⟨RX5, "completes", "()V"⟩
abbrev cX5_take : ByteArray := prog_7_method_26_code
def yX5_take : MethodName := ⟨RX5, "take", "(II)I"⟩
abbrev cX5_pump : ByteArray := prog_7_method_27_code
def yX5_pump : MethodName := ⟨RX5, "pump", "(I)I"⟩
abbrev cX5_commits : ByteArray := prog_7_method_28_code
def yX5_commits : MethodName := ⟨RX5, "commits", "(I)I"⟩
abbrev cX5_mayCommit : ByteArray := prog_7_method_29_code
def yX5_mayCommit : MethodName := ⟨RX5, "mayCommit", "(I)Z"⟩
abbrev cX5_commit : ByteArray := prog_7_method_30_code
def yX5_commit : MethodName := ⟨RX5, "commit", "(I)I"⟩
abbrev cX5_isAnySealed : ByteArray := prog_7_method_31_code
def yX5_isAnySealed : MethodName := ⟨RX5, "isAnySealed", "()Z"⟩
abbrev cX5_lifts : ByteArray := prog_7_method_32_code
def yX5_lifts : MethodName := ⟨RX5, "lifts", "()V"⟩
abbrev cX5_beginCheckpoint : ByteArray := prog_7_method_33_code
def yX5_beginCheckpoint : MethodName := ⟨RX5, "beginCheckpoint", "()I"⟩
abbrev cX5_abandon : ByteArray := prog_7_method_34_code
def yX5_abandon : MethodName := ⟨RX5, "abandon", "()I"⟩
abbrev cX5_startsAgain : ByteArray := prog_7_method_35_code
def yX5_startsAgain : MethodName := ⟨RX5, "startsAgain", "(I)V"⟩
abbrev cX5_crash : ByteArray := prog_7_method_36_code
def yX5_crash : MethodName := ⟨RX5, "crash", "()I"⟩
abbrev cX5_rescale : ByteArray := prog_7_method_37_code
def yX5_rescale : MethodName := ⟨RX5, "rescale", "(I)I"⟩
abbrev cX5_events : ByteArray := prog_7_method_38_code
def yX5_events : MethodName := ⟨RX5, "events", "(I)I"⟩
abbrev cX5_offset : ByteArray := prog_7_method_39_code
def yX5_offset : MethodName := ⟨RX5, "offset", "(I)I"⟩
abbrev cX5_eventAt : ByteArray := prog_7_method_40_code
def yX5_eventAt : MethodName := ⟨RX5, "eventAt", "(II)I"⟩
abbrev cX5_isChannel : ByteArray := prog_7_method_41_code
def yX5_isChannel : MethodName := ⟨RX5, "isChannel", "(II)Z"⟩
abbrev cX5_queued : ByteArray := prog_7_method_42_code
def yX5_queued : MethodName := ⟨RX5, "queued", "(II)I"⟩
abbrev cX5_itemAt : ByteArray := prog_7_method_43_code
def yX5_itemAt : MethodName := ⟨RX5, "itemAt", "(III)I"⟩
abbrev cX5_isBlocked : ByteArray := prog_7_method_44_code
def yX5_isBlocked : MethodName := ⟨RX5, "isBlocked", "(II)Z"⟩
abbrev cX5_workers : ByteArray := prog_7_method_45_code
def yX5_workers : MethodName := ⟨RX5, "workers", "()I"⟩
abbrev cX5_workerOf : ByteArray := prog_7_method_46_code
def yX5_workerOf : MethodName := ⟨RX5, "workerOf", "(I)I"⟩
abbrev cX5_groupsOf : ByteArray := prog_7_method_47_code
def yX5_groupsOf : MethodName := ⟨RX5, "groupsOf", "(I)I"⟩
abbrev cX5_ofKey : ByteArray := prog_7_method_48_code
def yX5_ofKey : MethodName := ⟨RX5, "ofKey", "([II)I"⟩
abbrev cX5_count : ByteArray := prog_7_method_49_code
def yX5_count : MethodName := ⟨RX5, "count", "(I)I"⟩
abbrev cX5_sum : ByteArray := prog_7_method_50_code
def yX5_sum : MethodName := ⟨RX5, "sum", "(I)I"⟩
abbrev cX5_open : ByteArray := prog_7_method_51_code
def yX5_open : MethodName := ⟨RX5, "open", "(I)I"⟩
abbrev cX5_sealed : ByteArray := prog_7_method_52_code
def yX5_sealed : MethodName := ⟨RX5, "sealed", "(I)I"⟩
abbrev cX5_underWay : ByteArray := prog_7_method_53_code
def yX5_underWay : MethodName := ⟨RX5, "underWay", "()I"⟩
abbrev cX5_complete : ByteArray := prog_7_method_54_code
def yX5_complete : MethodName := ⟨RX5, "complete", "()I"⟩
abbrev cX5_hasSent : ByteArray := prog_7_method_55_code
def yX5_hasSent : MethodName := ⟨RX5, "hasSent", "(I)Z"⟩
abbrev cX5_keptOffset : ByteArray := prog_7_method_56_code
def yX5_keptOffset : MethodName := ⟨RX5, "keptOffset", "(I)I"⟩
abbrev cX5_keptSum : ByteArray := prog_7_method_57_code
def yX5_keptSum : MethodName := ⟨RX5, "keptSum", "(I)I"⟩
abbrev cX5_committedCount : ByteArray := prog_7_method_58_code
def yX5_committedCount : MethodName := ⟨RX5, "committedCount", "(I)I"⟩
abbrev cX5_committedSum : ByteArray := prog_7_method_59_code
def yX5_committedSum : MethodName := ⟨RX5, "committedSum", "(I)I"⟩
abbrev cX5_committed : ByteArray := prog_7_method_60_code
def yX5_committed : MethodName := ⟨RX5, "committed", "()I"⟩
abbrev cX5_readSum : ByteArray := prog_7_method_61_code
def yX5_readSum : MethodName := ⟨RX5, "readSum", "(I)I"⟩
abbrev cX5_sumInChannels : ByteArray := prog_7_method_62_code
def yX5_sumInChannels : MethodName := ⟨RX5, "sumInChannels", "(I)I"⟩
def RJ0 : String := "java/lang/String"
def TJ0 : u_T := fun k => match k with
  | _ => ("", "", "", false)
def tyJ0 : Nat → FieldType := fun k => match k with
  | _ => .int
abbrev wsJ00 : List Cond := u_ws RJ0 TJ0 0
theorem nmJ0 : ∀ a, a < 0 → ∀ b, b < 0 → a ≠ b → (TJ0 a).2.1 ≠ (TJ0 b).2.1 := by decide +kernel
theorem tyJ0_ok : ∀ k, k < 0 → parseFieldDescriptor (TJ0 k).2.2.1 = some (tyJ0 k) := by decide +kernel
def RL : String := "CheckpointedStreamLaw"
abbrev cL_append : ByteArray := method_3_code
def yL_append : MethodName := ⟨RL, "append", "(LCheckpointedStream;III[J)I"⟩
abbrev cL_read : ByteArray := method_4_code
def yL_read : MethodName := ⟨RL, "read", "(LCheckpointedStream;I[J)I"⟩
abbrev cL_sendBarrier : ByteArray := method_5_code
def yL_sendBarrier : MethodName := ⟨RL, "sendBarrier", "(LCheckpointedStream;I[J)I"⟩
abbrev cL_take : ByteArray := method_6_code
def yL_take : MethodName := ⟨RL, "take", "(LCheckpointedStream;II[J)I"⟩
abbrev cL_pump : ByteArray := method_7_code
def yL_pump : MethodName := ⟨RL, "pump", "(LCheckpointedStream;I[J)I"⟩
abbrev cL_commit : ByteArray := method_8_code
def yL_commit : MethodName := ⟨RL, "commit", "(LCheckpointedStream;I[J)I"⟩
abbrev cL_beginCheckpoint : ByteArray := method_9_code
def yL_beginCheckpoint : MethodName := ⟨RL, "beginCheckpoint", "(LCheckpointedStream;[J)I"⟩
abbrev cL_abandon : ByteArray := method_10_code
def yL_abandon : MethodName := ⟨RL, "abandon", "(LCheckpointedStream;[J)I"⟩
abbrev cL_rescale : ByteArray := method_11_code
def yL_rescale : MethodName := ⟨RL, "rescale", "(LCheckpointedStream;I[J)I"⟩
abbrev cL_events : ByteArray := method_12_code
def yL_events : MethodName := ⟨RL, "events", "(LCheckpointedStream;I[J)I"⟩
abbrev cL_offset : ByteArray := method_13_code
def yL_offset : MethodName := ⟨RL, "offset", "(LCheckpointedStream;I[J)I"⟩
abbrev cL_eventAt : ByteArray := method_14_code
def yL_eventAt : MethodName := ⟨RL, "eventAt", "(LCheckpointedStream;II[J)I"⟩
abbrev cL_queued : ByteArray := method_15_code
def yL_queued : MethodName := ⟨RL, "queued", "(LCheckpointedStream;II[J)I"⟩
abbrev cL_itemAt : ByteArray := method_16_code
def yL_itemAt : MethodName := ⟨RL, "itemAt", "(LCheckpointedStream;III[J)I"⟩
abbrev cL_isBlocked : ByteArray := method_17_code
def yL_isBlocked : MethodName := ⟨RL, "isBlocked", "(LCheckpointedStream;II[J)I"⟩
abbrev cL_workerOf : ByteArray := method_18_code
def yL_workerOf : MethodName := ⟨RL, "workerOf", "(LCheckpointedStream;I[J)I"⟩
abbrev cL_groupsOf : ByteArray := method_19_code
def yL_groupsOf : MethodName := ⟨RL, "groupsOf", "(LCheckpointedStream;I[J)I"⟩
abbrev cL_count : ByteArray := method_20_code
def yL_count : MethodName := ⟨RL, "count", "(LCheckpointedStream;I[J)I"⟩
abbrev cL_sum : ByteArray := method_21_code
def yL_sum : MethodName := ⟨RL, "sum", "(LCheckpointedStream;I[J)I"⟩
abbrev cL_open : ByteArray := method_22_code
def yL_open : MethodName := ⟨RL, "open", "(LCheckpointedStream;I[J)I"⟩
abbrev cL_sealed : ByteArray := method_23_code
def yL_sealed : MethodName := ⟨RL, "sealed", "(LCheckpointedStream;I[J)I"⟩
abbrev cL_hasSent : ByteArray := method_24_code
def yL_hasSent : MethodName := ⟨RL, "hasSent", "(LCheckpointedStream;I[J)I"⟩
abbrev cL_keptOffset : ByteArray := method_25_code
def yL_keptOffset : MethodName := ⟨RL, "keptOffset", "(LCheckpointedStream;I[J)I"⟩
abbrev cL_keptSum : ByteArray := method_26_code
def yL_keptSum : MethodName := ⟨RL, "keptSum", "(LCheckpointedStream;I[J)I"⟩
abbrev cL_committedCount : ByteArray := method_27_code
def yL_committedCount : MethodName := ⟨RL, "committedCount", "(LCheckpointedStream;I[J)I"⟩
abbrev cL_committedSum : ByteArray := method_28_code
def yL_committedSum : MethodName := ⟨RL, "committedSum", "(LCheckpointedStream;I[J)I"⟩
abbrev cL_readSum : ByteArray := method_29_code
def yL_readSum : MethodName := ⟨RL, "readSum", "(LCheckpointedStream;I[J)I"⟩
abbrev cL_sumInChannels : ByteArray := method_30_code
def yL_sumInChannels : MethodName := ⟨RL, "sumInChannels", "(LCheckpointedStream;I[J)I"⟩
abbrev cL_law : ByteArray := code
def yL_law : MethodName := ⟨RL, "law", "([I)Z"⟩
def wsX0_init : List Cond := .code yX0_init cX0_init 1 none :: ([.methodLink RX0 3 objectInit, .instanceMethod objectInit, .code objectInit ⟨#[0xb1]⟩ 1 none, .arrayClass .int, .fieldLink RX0 9 "CheckpointedStream$Channels" "items" "[I", .fieldLink RX0 15 "CheckpointedStream$Channels" "sizes" "[I", .arrayClass .boolean, .fieldLink RX0 18 "CheckpointedStream$Channels" "blocked" "[Z"] ++ wsX00)
def wsX0_channelOf : List Cond := .code yX0_channelOf cX0_channelOf 2 (some .int) :: ([])
def wsX0_size : List Cond := .code yX0_size cX0_size 3 (some .int) :: ([.fieldLink RX0 15 "CheckpointedStream$Channels" "sizes" "[I", .methodLink RX0 22 yX0_channelOf, .static yX0_channelOf, .initialized RX0, .code yX0_channelOf cX0_channelOf 2 (some .int)] ++ wsX00)
def wsX0_get : List Cond := .code yX0_get cX0_get 4 (some .int) :: ([.fieldLink RX0 9 "CheckpointedStream$Channels" "items" "[I", .methodLink RX0 22 yX0_channelOf, .static yX0_channelOf, .initialized RX0, .code yX0_channelOf cX0_channelOf 2 (some .int)] ++ wsX00)
def wsX0_hasRoom : List Cond := .code yX0_hasRoom cX0_hasRoom 3 (some .boolean) :: ([.methodLink RX0 26 yX0_size, .instanceMethod yX0_size, .selects RX0 yX0_size yX0_size, .initialized RX0, .code yX0_size cX0_size 3 (some .int), .fieldLink RX0 15 "CheckpointedStream$Channels" "sizes" "[I", .methodLink RX0 22 yX0_channelOf, .static yX0_channelOf, .code yX0_channelOf cX0_channelOf 2 (some .int)] ++ wsX00)
def wsX0_isShut : List Cond := .code yX0_isShut cX0_isShut 3 (some .boolean) :: ([.fieldLink RX0 18 "CheckpointedStream$Channels" "blocked" "[Z", .methodLink RX0 22 yX0_channelOf, .static yX0_channelOf, .initialized RX0, .code yX0_channelOf cX0_channelOf 2 (some .int)] ++ wsX00)
def wsX0_canGive : List Cond := .code yX0_canGive cX0_canGive 3 (some .boolean) :: ([.methodLink RX0 26 yX0_size, .instanceMethod yX0_size, .selects RX0 yX0_size yX0_size, .initialized RX0, .code yX0_size cX0_size 3 (some .int), .fieldLink RX0 15 "CheckpointedStream$Channels" "sizes" "[I", .methodLink RX0 22 yX0_channelOf, .static yX0_channelOf, .code yX0_channelOf cX0_channelOf 2 (some .int), .methodLink RX0 29 yX0_isShut, .instanceMethod yX0_isShut, .selects RX0 yX0_isShut yX0_isShut, .code yX0_isShut cX0_isShut 3 (some .boolean), .fieldLink RX0 18 "CheckpointedStream$Channels" "blocked" "[Z"] ++ wsX00)
def wsX0_put : List Cond := .code yX0_put cX0_put 5 none :: ([.fieldLink RX0 9 "CheckpointedStream$Channels" "items" "[I", .fieldLink RX0 15 "CheckpointedStream$Channels" "sizes" "[I", .methodLink RX0 22 yX0_channelOf, .static yX0_channelOf, .initialized RX0, .code yX0_channelOf cX0_channelOf 2 (some .int)] ++ wsX00)
def wsX0_removeFirst : List Cond := .code yX0_removeFirst cX0_removeFirst 7 (some .int) :: ([.fieldLink RX0 9 "CheckpointedStream$Channels" "items" "[I", .fieldLink RX0 15 "CheckpointedStream$Channels" "sizes" "[I", .methodLink RX0 22 yX0_channelOf, .static yX0_channelOf, .initialized RX0, .code yX0_channelOf cX0_channelOf 2 (some .int)] ++ wsX00)
def wsX0_block : List Cond := .code yX0_block cX0_block 3 none :: ([.fieldLink RX0 18 "CheckpointedStream$Channels" "blocked" "[Z", .methodLink RX0 22 yX0_channelOf, .static yX0_channelOf, .initialized RX0, .code yX0_channelOf cX0_channelOf 2 (some .int)] ++ wsX00)
def wsX0_areAllBlocked : List Cond := .code yX0_areAllBlocked cX0_areAllBlocked 3 (some .boolean) :: ([.methodLink RX0 29 yX0_isShut, .instanceMethod yX0_isShut, .selects RX0 yX0_isShut yX0_isShut, .initialized RX0, .code yX0_isShut cX0_isShut 3 (some .boolean), .fieldLink RX0 18 "CheckpointedStream$Channels" "blocked" "[Z", .methodLink RX0 22 yX0_channelOf, .static yX0_channelOf, .code yX0_channelOf cX0_channelOf 2 (some .int)] ++ wsX00)
def wsX0_unblockAll : List Cond := .code yX0_unblockAll cX0_unblockAll 3 none :: ([.fieldLink RX0 18 "CheckpointedStream$Channels" "blocked" "[Z", .methodLink RX0 22 yX0_channelOf, .static yX0_channelOf, .initialized RX0, .code yX0_channelOf cX0_channelOf 2 (some .int)] ++ wsX00)
def wsX0_clearAll : List Cond := .code yX0_clearAll cX0_clearAll 2 none :: ([.fieldLink RX0 15 "CheckpointedStream$Channels" "sizes" "[I", .fieldLink RX0 18 "CheckpointedStream$Channels" "blocked" "[Z"] ++ wsX00)
def wsX4_keyOf : List Cond := .code yX4_keyOf cX4_keyOf 1 (some .int) :: ([])
def wsX4_valueOf : List Cond := .code yX4_valueOf cX4_valueOf 1 (some .int) :: ([])
def wsX0_sumOfKey : List Cond := .code yX0_sumOfKey cX0_sumOfKey 6 (some .int) :: ([.fieldLink RX0 15 "CheckpointedStream$Channels" "sizes" "[I", .fieldLink RX0 9 "CheckpointedStream$Channels" "items" "[I", .static yX4_keyOf, .initialized RX4, .code yX4_keyOf cX4_keyOf 1 (some .int), .static yX4_valueOf, .code yX4_valueOf cX4_valueOf 1 (some .int)] ++ wsX00)
def wsX1_init : List Cond := .code yX1_init cX1_init 1 none :: ([.methodLink RX1 3 objectInit, .instanceMethod objectInit, .code objectInit ⟨#[0xb1]⟩ 1 none, .arrayClass .int, .fieldLink RX1 9 "CheckpointedStream$EventRows" "lengths" "[I", .fieldLink RX1 15 "CheckpointedStream$EventRows" "events" "[I"] ++ wsX10)
def wsX1_add : List Cond := .code yX1_add cX1_add 4 (some .int) :: ([.fieldLink RX1 9 "CheckpointedStream$EventRows" "lengths" "[I", .fieldLink RX1 15 "CheckpointedStream$EventRows" "events" "[I"] ++ wsX10)
def wsX1_get : List Cond := .code yX1_get cX1_get 3 (some .int) :: ([.fieldLink RX1 15 "CheckpointedStream$EventRows" "events" "[I"] ++ wsX10)
def wsX1_sumAhead : List Cond := .code yX1_sumAhead cX1_sumAhead 7 (some .int) :: ([.methodLink RX1 18 yX1_get, .instanceMethod yX1_get, .selects RX1 yX1_get yX1_get, .initialized RX1, .code yX1_get cX1_get 3 (some .int), .fieldLink RX1 15 "CheckpointedStream$EventRows" "events" "[I", .static yX4_keyOf, .initialized RX4, .code yX4_keyOf cX4_keyOf 1 (some .int), .static yX4_valueOf, .code yX4_valueOf cX4_valueOf 1 (some .int)] ++ wsX10)
def wsX2_init : List Cond := .code yX2_init cX2_init 1 none :: ([.methodLink RX2 3 objectInit, .instanceMethod objectInit, .code objectInit ⟨#[0xb1]⟩ 1 none, .arrayClass .int, .fieldLink RX2 9 "CheckpointedStream$Readers" "offsets" "[I", .fieldLink RX2 15 "CheckpointedStream$Readers" "kept" "[I", .arrayClass .boolean, .fieldLink RX2 18 "CheckpointedStream$Readers" "sent" "[Z", .fieldLink RX2 22 "CheckpointedStream$Readers" "keeping" "[I"] ++ wsX20)
def wsX2_keepForBarrier : List Cond := .code yX2_keepForBarrier cX2_keepForBarrier 2 (some .int) :: ([.fieldLink RX2 18 "CheckpointedStream$Readers" "sent" "[Z", .fieldLink RX2 22 "CheckpointedStream$Readers" "keeping" "[I", .fieldLink RX2 9 "CheckpointedStream$Readers" "offsets" "[I"] ++ wsX20)
def wsX2_forgetBarriers : List Cond := .code yX2_forgetBarriers cX2_forgetBarriers 2 none :: ([.fieldLink RX2 18 "CheckpointedStream$Readers" "sent" "[Z"] ++ wsX20)
def wsX2_keepAll : List Cond := .code yX2_keepAll cX2_keepAll 2 none :: ([.fieldLink RX2 15 "CheckpointedStream$Readers" "kept" "[I", .fieldLink RX2 22 "CheckpointedStream$Readers" "keeping" "[I"] ++ wsX20)
def wsX2_returnToKept : List Cond := .code yX2_returnToKept cX2_returnToKept 2 none :: ([.fieldLink RX2 9 "CheckpointedStream$Readers" "offsets" "[I", .fieldLink RX2 15 "CheckpointedStream$Readers" "kept" "[I"] ++ wsX20)
def wsX3_init : List Cond := .code yX3_init cX3_init 1 none :: ([.methodLink RX3 3 objectInit, .instanceMethod objectInit, .code objectInit ⟨#[0xb1]⟩ 1 none, .arrayClass .int, .fieldLink RX3 9 "CheckpointedStream$Tally" "counts" "[I", .fieldLink RX3 15 "CheckpointedStream$Tally" "sums" "[I"] ++ wsX30)
def wsX3_add : List Cond := .code yX3_add cX3_add 4 none :: ([.fieldLink RX3 9 "CheckpointedStream$Tally" "counts" "[I", .fieldLink RX3 15 "CheckpointedStream$Tally" "sums" "[I"] ++ wsX30)
def wsX3_copyKey : List Cond := .code yX3_copyKey cX3_copyKey 3 none :: ([.fieldLink RX3 9 "CheckpointedStream$Tally" "counts" "[I", .fieldLink RX3 15 "CheckpointedStream$Tally" "sums" "[I"] ++ wsX30)
def wsX3_copyAll : List Cond := .code yX3_copyAll cX3_copyAll 3 none :: ([.fieldLink RX3 9 "CheckpointedStream$Tally" "counts" "[I", .fieldLink RX3 15 "CheckpointedStream$Tally" "sums" "[I"] ++ wsX30)
def wsX3_clearKey : List Cond := .code yX3_clearKey cX3_clearKey 2 none :: ([.fieldLink RX3 9 "CheckpointedStream$Tally" "counts" "[I", .fieldLink RX3 15 "CheckpointedStream$Tally" "sums" "[I"] ++ wsX30)
def wsX3_clearAll : List Cond := .code yX3_clearAll cX3_clearAll 2 none :: ([.methodLink RX3 18 yX3_clearKey, .instanceMethod yX3_clearKey, .selects RX3 yX3_clearKey yX3_clearKey, .initialized RX3, .code yX3_clearKey cX3_clearKey 2 none, .fieldLink RX3 9 "CheckpointedStream$Tally" "counts" "[I", .fieldLink RX3 15 "CheckpointedStream$Tally" "sums" "[I"] ++ wsX30)
def wsX4_init_r1 : List Cond := [Cond.methodLink RX4 1 objectInit, Cond.instanceMethod objectInit, Cond.code objectInit ⟨#[0xb1]⟩ 1 none, Cond.classLink RX4 7 RX1, Cond.instantiable RX1 2, Cond.initialized RX1, Cond.fieldLink RX4 10 "CheckpointedStream" "rows" "LCheckpointedStream$EventRows;", Cond.classLink RX4 16 RX2, Cond.instantiable RX2 4, Cond.initialized RX2, Cond.fieldLink RX4 19 "CheckpointedStream" "readers" "LCheckpointedStream$Readers;", Cond.classLink RX4 23 RX0, Cond.instantiable RX0 3, Cond.initialized RX0, Cond.fieldLink RX4 26 "CheckpointedStream" "channels" "LCheckpointedStream$Channels;", Cond.classLink RX4 30 RX3, Cond.instantiable RX3 2, Cond.initialized RX3, Cond.fieldLink RX4 33 "CheckpointedStream" "state" "LCheckpointedStream$Tally;", Cond.fieldLink RX4 37 "CheckpointedStream" "openTallies" "LCheckpointedStream$Tally;", Cond.fieldLink RX4 40 "CheckpointedStream" "sealedTallies" "LCheckpointedStream$Tally;", Cond.fieldLink RX4 43 "CheckpointedStream" "keeping" "LCheckpointedStream$Tally;", Cond.fieldLink RX4 46 "CheckpointedStream" "kept" "LCheckpointedStream$Tally;", Cond.fieldLink RX4 49 "CheckpointedStream" "sink" "LCheckpointedStream$Tally;"]
def wsX4_init_r2 : List Cond := [Cond.arrayClass .int, Cond.fieldLink RX4 52 "CheckpointedStream" "sealedFor" "[I", Cond.fieldLink RX4 56 "CheckpointedStream" "workerCount" "I", Cond.fieldLink RX4 60 "CheckpointedStream" "lastBegun" "I", Cond.fieldLink RX4 63 "CheckpointedStream" "numberUnderWay" "I", Cond.fieldLink RX4 66 "CheckpointedStream" "latestComplete" "I", Cond.instanceMethod yX1_init, Cond.code yX1_init cX1_init 1 none, Cond.methodLink RX1 3 objectInit, Cond.fieldLink RX1 9 "CheckpointedStream$EventRows" "lengths" "[I", Cond.fieldLink RX1 15 "CheckpointedStream$EventRows" "events" "[I", Cond.instanceMethod yX2_init, Cond.code yX2_init cX2_init 1 none, Cond.methodLink RX2 3 objectInit, Cond.fieldLink RX2 9 "CheckpointedStream$Readers" "offsets" "[I", Cond.fieldLink RX2 15 "CheckpointedStream$Readers" "kept" "[I", Cond.arrayClass .boolean, Cond.fieldLink RX2 18 "CheckpointedStream$Readers" "sent" "[Z", Cond.fieldLink RX2 22 "CheckpointedStream$Readers" "keeping" "[I", Cond.instanceMethod yX0_init, Cond.code yX0_init cX0_init 1 none, Cond.methodLink RX0 3 objectInit, Cond.fieldLink RX0 9 "CheckpointedStream$Channels" "items" "[I", Cond.fieldLink RX0 15 "CheckpointedStream$Channels" "sizes" "[I"]
def wsX4_init_r3 : List Cond := [Cond.fieldLink RX0 18 "CheckpointedStream$Channels" "blocked" "[Z", Cond.instanceMethod yX3_init, Cond.code yX3_init cX3_init 1 none, Cond.methodLink RX3 3 objectInit, Cond.fieldLink RX3 9 "CheckpointedStream$Tally" "counts" "[I", Cond.fieldLink RX3 15 "CheckpointedStream$Tally" "sums" "[I"]
def wsX4_init : List Cond := .code yX4_init cX4_init 2 none :: ((wsX4_init_r1 ++ (wsX4_init_r2 ++ wsX4_init_r3)) ++ wsX10 ++ wsX40 ++ wsX20 ++ wsX00 ++ wsX30)
def wsX4_requirePartition : List Cond := .code yX4_requirePartition cX4_requirePartition 1 none :: ([.classLink RX4 181 "java/lang/IndexOutOfBoundsException", .initialized "java/lang/IndexOutOfBoundsException"] ++ (vx_atS RX4 185 "java/lang/IndexOutOfBoundsException" ["java/lang/RuntimeException", "java/lang/Exception"]).filter goodWord)
def wsX4_requireKey : List Cond := .code yX4_requireKey cX4_requireKey 1 none :: ([.classLink RX4 181 "java/lang/IndexOutOfBoundsException", .initialized "java/lang/IndexOutOfBoundsException"] ++ (vx_atS RX4 185 "java/lang/IndexOutOfBoundsException" ["java/lang/RuntimeException", "java/lang/Exception"]).filter goodWord)
def wsX4_append : List Cond := .code yX4_append cX4_append 4 (some .int) :: ([.classLink RX4 76 "java/lang/IllegalArgumentException", .initialized "java/lang/IllegalArgumentException", .classLink RX4 86 "java/lang/IllegalStateException", .initialized "java/lang/IllegalStateException", .fieldLink RX4 10 "CheckpointedStream" "rows" "LCheckpointedStream$EventRows;", .fieldLink RX4 83 "CheckpointedStream$EventRows" "lengths" "[I", .methodLink RX4 69 yX4_requirePartition, .static yX4_requirePartition, .initialized RX4, .code yX4_requirePartition cX4_requirePartition 1 none, .classLink RX4 181 "java/lang/IndexOutOfBoundsException", .initialized "java/lang/IndexOutOfBoundsException", .methodLink RX4 73 yX4_requireKey, .static yX4_requireKey, .code yX4_requireKey cX4_requireKey 1 none, .methodLink RX4 91 yX1_add, .instanceMethod yX1_add, .selects RX1 yX1_add yX1_add, .initialized RX1, .code yX1_add cX1_add 4 (some .int), .fieldLink RX1 9 "CheckpointedStream$EventRows" "lengths" "[I", .fieldLink RX1 15 "CheckpointedStream$EventRows" "events" "[I"] ++ wsX40 ++ wsX10 ++ (vx_atS RX4 80 "java/lang/IllegalArgumentException" ["java/lang/RuntimeException", "java/lang/Exception"]).filter goodWord ++ (vx_atS RX4 90 "java/lang/IllegalStateException" ["java/lang/RuntimeException", "java/lang/Exception"]).filter goodWord ++ (vx_atS RX4 185 "java/lang/IndexOutOfBoundsException" ["java/lang/RuntimeException", "java/lang/Exception"]).filter goodWord)
def wsX4_ownerOfGroup : List Cond := .code yX4_ownerOfGroup cX4_ownerOfGroup 2 (some .int) :: ([])
def wsX4_ownerOfKey : List Cond := .code yX4_ownerOfKey cX4_ownerOfKey 2 (some .int) :: ([.fieldLink RX4 56 "CheckpointedStream" "workerCount" "I", .methodLink RX4 175 yX4_ownerOfGroup, .static yX4_ownerOfGroup, .initialized RX4, .code yX4_ownerOfGroup cX4_ownerOfGroup 2 (some .int)] ++ wsX40)
def wsX4_canReadFrom_r1 : List Cond := [Cond.fieldLink RX4 19 "CheckpointedStream" "readers" "LCheckpointedStream$Readers;", Cond.fieldLink RX4 178 "CheckpointedStream$Readers" "offsets" "[I", Cond.fieldLink RX4 10 "CheckpointedStream" "rows" "LCheckpointedStream$EventRows;", Cond.fieldLink RX4 83 "CheckpointedStream$EventRows" "lengths" "[I", Cond.fieldLink RX4 26 "CheckpointedStream" "channels" "LCheckpointedStream$Channels;", Cond.methodLink RX4 186 yX1_get, Cond.instanceMethod yX1_get, Cond.selects RX1 yX1_get yX1_get, Cond.initialized RX1, Cond.code yX1_get cX1_get 3 (some .int), Cond.fieldLink RX1 15 "CheckpointedStream$EventRows" "events" "[I", Cond.methodLink RX4 223 yX4_keyOf, Cond.static yX4_keyOf, Cond.initialized RX4, Cond.code yX4_keyOf cX4_keyOf 1 (some .int), Cond.methodLink RX4 200 yX4_ownerOfKey, Cond.instanceMethod yX4_ownerOfKey, Cond.selects RX4 yX4_ownerOfKey yX4_ownerOfKey, Cond.code yX4_ownerOfKey cX4_ownerOfKey 2 (some .int), Cond.fieldLink RX4 56 "CheckpointedStream" "workerCount" "I", Cond.methodLink RX4 175 yX4_ownerOfGroup, Cond.static yX4_ownerOfGroup, Cond.code yX4_ownerOfGroup cX4_ownerOfGroup 2 (some .int), Cond.methodLink RX4 226 yX0_hasRoom]
def wsX4_canReadFrom_r2 : List Cond := [Cond.instanceMethod yX0_hasRoom, Cond.selects RX0 yX0_hasRoom yX0_hasRoom, Cond.initialized RX0, Cond.code yX0_hasRoom cX0_hasRoom 3 (some .boolean), Cond.methodLink RX0 26 yX0_size, Cond.instanceMethod yX0_size, Cond.selects RX0 yX0_size yX0_size, Cond.code yX0_size cX0_size 3 (some .int), Cond.fieldLink RX0 15 "CheckpointedStream$Channels" "sizes" "[I", Cond.methodLink RX0 22 yX0_channelOf, Cond.static yX0_channelOf, Cond.code yX0_channelOf cX0_channelOf 2 (some .int)]
def wsX4_canReadFrom : List Cond := .code yX4_canReadFrom cX4_canReadFrom 4 (some .boolean) :: ((wsX4_canReadFrom_r1 ++ wsX4_canReadFrom_r2) ++ wsX40 ++ wsX20 ++ wsX10 ++ wsX00)
def wsX4_readFrom_r1 : List Cond := [Cond.fieldLink RX4 10 "CheckpointedStream" "rows" "LCheckpointedStream$EventRows;", Cond.fieldLink RX4 19 "CheckpointedStream" "readers" "LCheckpointedStream$Readers;", Cond.fieldLink RX4 178 "CheckpointedStream$Readers" "offsets" "[I", Cond.fieldLink RX4 26 "CheckpointedStream" "channels" "LCheckpointedStream$Channels;", Cond.methodLink RX4 186 yX1_get, Cond.instanceMethod yX1_get, Cond.selects RX1 yX1_get yX1_get, Cond.initialized RX1, Cond.code yX1_get cX1_get 3 (some .int), Cond.fieldLink RX1 15 "CheckpointedStream$EventRows" "events" "[I", Cond.methodLink RX4 223 yX4_keyOf, Cond.static yX4_keyOf, Cond.initialized RX4, Cond.code yX4_keyOf cX4_keyOf 1 (some .int), Cond.methodLink RX4 200 yX4_ownerOfKey, Cond.instanceMethod yX4_ownerOfKey, Cond.selects RX4 yX4_ownerOfKey yX4_ownerOfKey, Cond.code yX4_ownerOfKey cX4_ownerOfKey 2 (some .int), Cond.fieldLink RX4 56 "CheckpointedStream" "workerCount" "I", Cond.methodLink RX4 175 yX4_ownerOfGroup, Cond.static yX4_ownerOfGroup, Cond.code yX4_ownerOfGroup cX4_ownerOfGroup 2 (some .int), Cond.methodLink RX4 116 yX0_put, Cond.instanceMethod yX0_put]
def wsX4_readFrom_r2 : List Cond := [Cond.selects RX0 yX0_put yX0_put, Cond.initialized RX0, Cond.code yX0_put cX0_put 5 none, Cond.fieldLink RX0 9 "CheckpointedStream$Channels" "items" "[I", Cond.fieldLink RX0 15 "CheckpointedStream$Channels" "sizes" "[I", Cond.methodLink RX0 22 yX0_channelOf, Cond.static yX0_channelOf, Cond.code yX0_channelOf cX0_channelOf 2 (some .int)]
def wsX4_readFrom : List Cond := .code yX4_readFrom cX4_readFrom 4 (some .int) :: ((wsX4_readFrom_r1 ++ wsX4_readFrom_r2) ++ wsX40 ++ wsX20 ++ wsX10 ++ wsX00)
def wsX4_read_r1 : List Cond := [Cond.classLink RX4 86 "java/lang/IllegalStateException", Cond.initialized "java/lang/IllegalStateException", Cond.methodLink RX4 69 yX4_requirePartition, Cond.static yX4_requirePartition, Cond.initialized RX4, Cond.code yX4_requirePartition cX4_requirePartition 1 none, Cond.classLink RX4 181 "java/lang/IndexOutOfBoundsException", Cond.initialized "java/lang/IndexOutOfBoundsException", Cond.methodLink RX4 95 yX4_canReadFrom, Cond.instanceMethod yX4_canReadFrom, Cond.selects RX4 yX4_canReadFrom yX4_canReadFrom, Cond.code yX4_canReadFrom cX4_canReadFrom 4 (some .boolean), Cond.fieldLink RX4 19 "CheckpointedStream" "readers" "LCheckpointedStream$Readers;", Cond.fieldLink RX4 178 "CheckpointedStream$Readers" "offsets" "[I", Cond.fieldLink RX4 10 "CheckpointedStream" "rows" "LCheckpointedStream$EventRows;", Cond.fieldLink RX4 83 "CheckpointedStream$EventRows" "lengths" "[I", Cond.fieldLink RX4 26 "CheckpointedStream" "channels" "LCheckpointedStream$Channels;", Cond.methodLink RX4 186 yX1_get, Cond.instanceMethod yX1_get, Cond.selects RX1 yX1_get yX1_get, Cond.initialized RX1, Cond.code yX1_get cX1_get 3 (some .int), Cond.fieldLink RX1 15 "CheckpointedStream$EventRows" "events" "[I", Cond.methodLink RX4 223 yX4_keyOf]
def wsX4_read_r2 : List Cond := [Cond.static yX4_keyOf, Cond.code yX4_keyOf cX4_keyOf 1 (some .int), Cond.methodLink RX4 200 yX4_ownerOfKey, Cond.instanceMethod yX4_ownerOfKey, Cond.selects RX4 yX4_ownerOfKey yX4_ownerOfKey, Cond.code yX4_ownerOfKey cX4_ownerOfKey 2 (some .int), Cond.fieldLink RX4 56 "CheckpointedStream" "workerCount" "I", Cond.methodLink RX4 175 yX4_ownerOfGroup, Cond.static yX4_ownerOfGroup, Cond.code yX4_ownerOfGroup cX4_ownerOfGroup 2 (some .int), Cond.methodLink RX4 226 yX0_hasRoom, Cond.instanceMethod yX0_hasRoom, Cond.selects RX0 yX0_hasRoom yX0_hasRoom, Cond.initialized RX0, Cond.code yX0_hasRoom cX0_hasRoom 3 (some .boolean), Cond.methodLink RX0 26 yX0_size, Cond.instanceMethod yX0_size, Cond.selects RX0 yX0_size yX0_size, Cond.code yX0_size cX0_size 3 (some .int), Cond.fieldLink RX0 15 "CheckpointedStream$Channels" "sizes" "[I", Cond.methodLink RX0 22 yX0_channelOf, Cond.static yX0_channelOf, Cond.code yX0_channelOf cX0_channelOf 2 (some .int), Cond.methodLink RX4 101 yX4_readFrom]
def wsX4_read_r3 : List Cond := [Cond.instanceMethod yX4_readFrom, Cond.selects RX4 yX4_readFrom yX4_readFrom, Cond.code yX4_readFrom cX4_readFrom 4 (some .int), Cond.methodLink RX4 116 yX0_put, Cond.instanceMethod yX0_put, Cond.selects RX0 yX0_put yX0_put, Cond.code yX0_put cX0_put 5 none, Cond.fieldLink RX0 9 "CheckpointedStream$Channels" "items" "[I"]
def wsX4_read : List Cond := .code yX4_read cX4_read 2 (some .int) :: ((wsX4_read_r1 ++ (wsX4_read_r2 ++ wsX4_read_r3)) ++ wsX40 ++ wsX20 ++ wsX10 ++ wsX00 ++ (vx_atS RX4 90 "java/lang/IllegalStateException" ["java/lang/RuntimeException", "java/lang/Exception"]).filter goodWord ++ (vx_atS RX4 185 "java/lang/IndexOutOfBoundsException" ["java/lang/RuntimeException", "java/lang/Exception"]).filter goodWord)
def wsX4_hasRoomInAllChannels : List Cond := .code yX4_hasRoomInAllChannels cX4_hasRoomInAllChannels 3 (some .boolean) :: ([.fieldLink RX4 56 "CheckpointedStream" "workerCount" "I", .fieldLink RX4 26 "CheckpointedStream" "channels" "LCheckpointedStream$Channels;", .methodLink RX4 226 yX0_hasRoom, .instanceMethod yX0_hasRoom, .selects RX0 yX0_hasRoom yX0_hasRoom, .initialized RX0, .code yX0_hasRoom cX0_hasRoom 3 (some .boolean), .methodLink RX0 26 yX0_size, .instanceMethod yX0_size, .selects RX0 yX0_size yX0_size, .code yX0_size cX0_size 3 (some .int), .fieldLink RX0 15 "CheckpointedStream$Channels" "sizes" "[I", .methodLink RX0 22 yX0_channelOf, .static yX0_channelOf, .code yX0_channelOf cX0_channelOf 2 (some .int)] ++ wsX40 ++ wsX00)
def wsX4_sendBarrier_r1 : List Cond := [Cond.classLink RX4 86 "java/lang/IllegalStateException", Cond.initialized "java/lang/IllegalStateException", Cond.fieldLink RX4 63 "CheckpointedStream" "numberUnderWay" "I", Cond.fieldLink RX4 19 "CheckpointedStream" "readers" "LCheckpointedStream$Readers;", Cond.fieldLink RX4 105 "CheckpointedStream$Readers" "sent" "[Z", Cond.fieldLink RX4 56 "CheckpointedStream" "workerCount" "I", Cond.fieldLink RX4 26 "CheckpointedStream" "channels" "LCheckpointedStream$Channels;", Cond.methodLink RX4 69 yX4_requirePartition, Cond.static yX4_requirePartition, Cond.initialized RX4, Cond.code yX4_requirePartition cX4_requirePartition 1 none, Cond.classLink RX4 181 "java/lang/IndexOutOfBoundsException", Cond.initialized "java/lang/IndexOutOfBoundsException", Cond.methodLink RX4 111 yX4_hasRoomInAllChannels, Cond.instanceMethod yX4_hasRoomInAllChannels, Cond.selects RX4 yX4_hasRoomInAllChannels yX4_hasRoomInAllChannels, Cond.code yX4_hasRoomInAllChannels cX4_hasRoomInAllChannels 3 (some .boolean), Cond.methodLink RX4 226 yX0_hasRoom, Cond.instanceMethod yX0_hasRoom, Cond.selects RX0 yX0_hasRoom yX0_hasRoom, Cond.initialized RX0, Cond.code yX0_hasRoom cX0_hasRoom 3 (some .boolean), Cond.methodLink RX0 26 yX0_size, Cond.instanceMethod yX0_size]
def wsX4_sendBarrier_r2 : List Cond := [Cond.selects RX0 yX0_size yX0_size, Cond.code yX0_size cX0_size 3 (some .int), Cond.fieldLink RX0 15 "CheckpointedStream$Channels" "sizes" "[I", Cond.methodLink RX0 22 yX0_channelOf, Cond.static yX0_channelOf, Cond.code yX0_channelOf cX0_channelOf 2 (some .int), Cond.methodLink RX4 116 yX0_put, Cond.instanceMethod yX0_put, Cond.selects RX0 yX0_put yX0_put, Cond.code yX0_put cX0_put 5 none, Cond.fieldLink RX0 9 "CheckpointedStream$Channels" "items" "[I", Cond.methodLink RX4 120 yX2_keepForBarrier, Cond.instanceMethod yX2_keepForBarrier, Cond.selects RX2 yX2_keepForBarrier yX2_keepForBarrier, Cond.initialized RX2, Cond.code yX2_keepForBarrier cX2_keepForBarrier 2 (some .int), Cond.fieldLink RX2 18 "CheckpointedStream$Readers" "sent" "[Z", Cond.fieldLink RX2 22 "CheckpointedStream$Readers" "keeping" "[I", Cond.fieldLink RX2 9 "CheckpointedStream$Readers" "offsets" "[I"]
def wsX4_sendBarrier : List Cond := .code yX4_sendBarrier cX4_sendBarrier 3 (some .int) :: ((wsX4_sendBarrier_r1 ++ wsX4_sendBarrier_r2) ++ wsX40 ++ wsX20 ++ wsX00 ++ (vx_atS RX4 90 "java/lang/IllegalStateException" ["java/lang/RuntimeException", "java/lang/Exception"]).filter goodWord ++ (vx_atS RX4 185 "java/lang/IndexOutOfBoundsException" ["java/lang/RuntimeException", "java/lang/Exception"]).filter goodWord)
def wsX4_requireWorker : List Cond := .code yX4_requireWorker cX4_requireWorker 2 none :: ([.classLink RX4 181 "java/lang/IndexOutOfBoundsException", .initialized "java/lang/IndexOutOfBoundsException", .fieldLink RX4 56 "CheckpointedStream" "workerCount" "I"] ++ wsX40 ++ (vx_atS RX4 185 "java/lang/IndexOutOfBoundsException" ["java/lang/RuntimeException", "java/lang/Exception"]).filter goodWord)
def wsX4_takeEvent : List Cond := .code yX4_takeEvent cX4_takeEvent 3 (some .int) :: ([.fieldLink RX4 33 "CheckpointedStream" "state" "LCheckpointedStream$Tally;", .fieldLink RX4 37 "CheckpointedStream" "openTallies" "LCheckpointedStream$Tally;", .fieldLink RX4 203 "CheckpointedStream$Tally" "counts" "[I", .methodLink RX4 242 yX3_add, .instanceMethod yX3_add, .selects RX3 yX3_add yX3_add, .initialized RX3, .code yX3_add cX3_add 4 none, .fieldLink RX3 9 "CheckpointedStream$Tally" "counts" "[I", .fieldLink RX3 15 "CheckpointedStream$Tally" "sums" "[I"] ++ wsX40 ++ wsX30)
def wsX4_moveTallies : List Cond := .code yX4_moveTallies cX4_moveTallies 6 (some .int) :: ([.fieldLink RX4 203 "CheckpointedStream$Tally" "counts" "[I", .fieldLink RX4 206 "CheckpointedStream$Tally" "sums" "[I", .methodLink RX4 200 yX4_ownerOfKey, .instanceMethod yX4_ownerOfKey, .selects RX4 yX4_ownerOfKey yX4_ownerOfKey, .initialized RX4, .code yX4_ownerOfKey cX4_ownerOfKey 2 (some .int), .fieldLink RX4 56 "CheckpointedStream" "workerCount" "I", .methodLink RX4 175 yX4_ownerOfGroup, .static yX4_ownerOfGroup, .code yX4_ownerOfGroup cX4_ownerOfGroup 2 (some .int), .methodLink RX4 242 yX3_add, .instanceMethod yX3_add, .selects RX3 yX3_add yX3_add, .initialized RX3, .code yX3_add cX3_add 4 none, .fieldLink RX3 9 "CheckpointedStream$Tally" "counts" "[I", .fieldLink RX3 15 "CheckpointedStream$Tally" "sums" "[I", .methodLink RX4 270 yX3_clearKey, .instanceMethod yX3_clearKey, .selects RX3 yX3_clearKey yX3_clearKey, .code yX3_clearKey cX3_clearKey 2 none] ++ wsX30 ++ wsX40)
def wsX4_haveAllSealed : List Cond := .code yX4_haveAllSealed cX4_haveAllSealed 2 (some .boolean) :: ([.fieldLink RX4 56 "CheckpointedStream" "workerCount" "I", .fieldLink RX4 52 "CheckpointedStream" "sealedFor" "[I"] ++ wsX40)
def wsX4_completeCheckpoint : List Cond := .code yX4_completeCheckpoint cX4_completeCheckpoint 1 none :: ([.fieldLink RX4 46 "CheckpointedStream" "kept" "LCheckpointedStream$Tally;", .fieldLink RX4 43 "CheckpointedStream" "keeping" "LCheckpointedStream$Tally;", .fieldLink RX4 19 "CheckpointedStream" "readers" "LCheckpointedStream$Readers;", .fieldLink RX4 63 "CheckpointedStream" "numberUnderWay" "I", .fieldLink RX4 66 "CheckpointedStream" "latestComplete" "I", .methodLink RX4 263 yX3_copyAll, .instanceMethod yX3_copyAll, .selects RX3 yX3_copyAll yX3_copyAll, .initialized RX3, .code yX3_copyAll cX3_copyAll 3 none, .fieldLink RX3 9 "CheckpointedStream$Tally" "counts" "[I", .fieldLink RX3 15 "CheckpointedStream$Tally" "sums" "[I", .methodLink RX4 267 yX2_keepAll, .instanceMethod yX2_keepAll, .selects RX2 yX2_keepAll yX2_keepAll, .initialized RX2, .code yX2_keepAll cX2_keepAll 2 none, .fieldLink RX2 15 "CheckpointedStream$Readers" "kept" "[I", .fieldLink RX2 22 "CheckpointedStream$Readers" "keeping" "[I"] ++ wsX40 ++ wsX30 ++ wsX20)
def wsX4_sealTransaction_r1 : List Cond := [Cond.fieldLink RX4 43 "CheckpointedStream" "keeping" "LCheckpointedStream$Tally;", Cond.fieldLink RX4 33 "CheckpointedStream" "state" "LCheckpointedStream$Tally;", Cond.fieldLink RX4 37 "CheckpointedStream" "openTallies" "LCheckpointedStream$Tally;", Cond.fieldLink RX4 40 "CheckpointedStream" "sealedTallies" "LCheckpointedStream$Tally;", Cond.fieldLink RX4 52 "CheckpointedStream" "sealedFor" "[I", Cond.fieldLink RX4 63 "CheckpointedStream" "numberUnderWay" "I", Cond.fieldLink RX4 26 "CheckpointedStream" "channels" "LCheckpointedStream$Channels;", Cond.methodLink RX4 200 yX4_ownerOfKey, Cond.instanceMethod yX4_ownerOfKey, Cond.selects RX4 yX4_ownerOfKey yX4_ownerOfKey, Cond.initialized RX4, Cond.code yX4_ownerOfKey cX4_ownerOfKey 2 (some .int), Cond.fieldLink RX4 56 "CheckpointedStream" "workerCount" "I", Cond.methodLink RX4 175 yX4_ownerOfGroup, Cond.static yX4_ownerOfGroup, Cond.code yX4_ownerOfGroup cX4_ownerOfGroup 2 (some .int), Cond.methodLink RX4 253 yX3_copyKey, Cond.instanceMethod yX3_copyKey, Cond.selects RX3 yX3_copyKey yX3_copyKey, Cond.initialized RX3, Cond.code yX3_copyKey cX3_copyKey 3 none, Cond.fieldLink RX3 9 "CheckpointedStream$Tally" "counts" "[I", Cond.fieldLink RX3 15 "CheckpointedStream$Tally" "sums" "[I", Cond.methodLink RX4 166 yX4_moveTallies]
def wsX4_sealTransaction_r2 : List Cond := [Cond.instanceMethod yX4_moveTallies, Cond.selects RX4 yX4_moveTallies yX4_moveTallies, Cond.code yX4_moveTallies cX4_moveTallies 6 (some .int), Cond.fieldLink RX4 203 "CheckpointedStream$Tally" "counts" "[I", Cond.fieldLink RX4 206 "CheckpointedStream$Tally" "sums" "[I", Cond.methodLink RX4 242 yX3_add, Cond.instanceMethod yX3_add, Cond.selects RX3 yX3_add yX3_add, Cond.code yX3_add cX3_add 4 none, Cond.methodLink RX4 270 yX3_clearKey, Cond.instanceMethod yX3_clearKey, Cond.selects RX3 yX3_clearKey yX3_clearKey, Cond.code yX3_clearKey cX3_clearKey 2 none, Cond.methodLink RX4 163 yX0_unblockAll, Cond.instanceMethod yX0_unblockAll, Cond.selects RX0 yX0_unblockAll yX0_unblockAll, Cond.initialized RX0, Cond.code yX0_unblockAll cX0_unblockAll 3 none, Cond.fieldLink RX0 18 "CheckpointedStream$Channels" "blocked" "[Z", Cond.methodLink RX0 22 yX0_channelOf, Cond.static yX0_channelOf, Cond.code yX0_channelOf cX0_channelOf 2 (some .int), Cond.methodLink RX4 257 yX4_haveAllSealed, Cond.instanceMethod yX4_haveAllSealed]
def wsX4_sealTransaction_r3 : List Cond := [Cond.selects RX4 yX4_haveAllSealed yX4_haveAllSealed, Cond.code yX4_haveAllSealed cX4_haveAllSealed 2 (some .boolean), Cond.methodLink RX4 260 yX4_completeCheckpoint, Cond.instanceMethod yX4_completeCheckpoint, Cond.selects RX4 yX4_completeCheckpoint yX4_completeCheckpoint, Cond.code yX4_completeCheckpoint cX4_completeCheckpoint 1 none, Cond.fieldLink RX4 46 "CheckpointedStream" "kept" "LCheckpointedStream$Tally;", Cond.fieldLink RX4 19 "CheckpointedStream" "readers" "LCheckpointedStream$Readers;", Cond.fieldLink RX4 66 "CheckpointedStream" "latestComplete" "I", Cond.methodLink RX4 263 yX3_copyAll, Cond.instanceMethod yX3_copyAll, Cond.selects RX3 yX3_copyAll yX3_copyAll, Cond.code yX3_copyAll cX3_copyAll 3 none, Cond.methodLink RX4 267 yX2_keepAll, Cond.instanceMethod yX2_keepAll, Cond.selects RX2 yX2_keepAll yX2_keepAll, Cond.initialized RX2, Cond.code yX2_keepAll cX2_keepAll 2 none, Cond.fieldLink RX2 15 "CheckpointedStream$Readers" "kept" "[I", Cond.fieldLink RX2 22 "CheckpointedStream$Readers" "keeping" "[I"]
def wsX4_sealTransaction : List Cond := .code yX4_sealTransaction cX4_sealTransaction 3 none :: ((wsX4_sealTransaction_r1 ++ (wsX4_sealTransaction_r2 ++ wsX4_sealTransaction_r3)) ++ wsX40 ++ wsX30 ++ wsX00 ++ wsX20)
def wsX4_takeBarrier_r1 : List Cond := [Cond.fieldLink RX4 26 "CheckpointedStream" "channels" "LCheckpointedStream$Channels;", Cond.methodLink RX4 244 yX0_block, Cond.instanceMethod yX0_block, Cond.selects RX0 yX0_block yX0_block, Cond.initialized RX0, Cond.code yX0_block cX0_block 3 none, Cond.fieldLink RX0 18 "CheckpointedStream$Channels" "blocked" "[Z", Cond.methodLink RX0 22 yX0_channelOf, Cond.static yX0_channelOf, Cond.code yX0_channelOf cX0_channelOf 2 (some .int), Cond.methodLink RX4 247 yX0_areAllBlocked, Cond.instanceMethod yX0_areAllBlocked, Cond.selects RX0 yX0_areAllBlocked yX0_areAllBlocked, Cond.code yX0_areAllBlocked cX0_areAllBlocked 3 (some .boolean), Cond.methodLink RX0 29 yX0_isShut, Cond.instanceMethod yX0_isShut, Cond.selects RX0 yX0_isShut yX0_isShut, Cond.code yX0_isShut cX0_isShut 3 (some .boolean), Cond.methodLink RX4 250 yX4_sealTransaction, Cond.instanceMethod yX4_sealTransaction, Cond.selects RX4 yX4_sealTransaction yX4_sealTransaction, Cond.initialized RX4, Cond.code yX4_sealTransaction cX4_sealTransaction 3 none, Cond.fieldLink RX4 43 "CheckpointedStream" "keeping" "LCheckpointedStream$Tally;"]
def wsX4_takeBarrier_r2 : List Cond := [Cond.fieldLink RX4 33 "CheckpointedStream" "state" "LCheckpointedStream$Tally;", Cond.fieldLink RX4 37 "CheckpointedStream" "openTallies" "LCheckpointedStream$Tally;", Cond.fieldLink RX4 40 "CheckpointedStream" "sealedTallies" "LCheckpointedStream$Tally;", Cond.fieldLink RX4 52 "CheckpointedStream" "sealedFor" "[I", Cond.fieldLink RX4 63 "CheckpointedStream" "numberUnderWay" "I", Cond.methodLink RX4 200 yX4_ownerOfKey, Cond.instanceMethod yX4_ownerOfKey, Cond.selects RX4 yX4_ownerOfKey yX4_ownerOfKey, Cond.code yX4_ownerOfKey cX4_ownerOfKey 2 (some .int), Cond.fieldLink RX4 56 "CheckpointedStream" "workerCount" "I", Cond.methodLink RX4 175 yX4_ownerOfGroup, Cond.static yX4_ownerOfGroup, Cond.code yX4_ownerOfGroup cX4_ownerOfGroup 2 (some .int), Cond.methodLink RX4 253 yX3_copyKey, Cond.instanceMethod yX3_copyKey, Cond.selects RX3 yX3_copyKey yX3_copyKey, Cond.initialized RX3, Cond.code yX3_copyKey cX3_copyKey 3 none, Cond.fieldLink RX3 9 "CheckpointedStream$Tally" "counts" "[I", Cond.fieldLink RX3 15 "CheckpointedStream$Tally" "sums" "[I", Cond.methodLink RX4 166 yX4_moveTallies, Cond.instanceMethod yX4_moveTallies, Cond.selects RX4 yX4_moveTallies yX4_moveTallies, Cond.code yX4_moveTallies cX4_moveTallies 6 (some .int)]
def wsX4_takeBarrier_r3 : List Cond := [Cond.fieldLink RX4 203 "CheckpointedStream$Tally" "counts" "[I", Cond.fieldLink RX4 206 "CheckpointedStream$Tally" "sums" "[I", Cond.methodLink RX4 242 yX3_add, Cond.instanceMethod yX3_add, Cond.selects RX3 yX3_add yX3_add, Cond.code yX3_add cX3_add 4 none, Cond.methodLink RX4 270 yX3_clearKey, Cond.instanceMethod yX3_clearKey, Cond.selects RX3 yX3_clearKey yX3_clearKey, Cond.code yX3_clearKey cX3_clearKey 2 none, Cond.methodLink RX4 163 yX0_unblockAll, Cond.instanceMethod yX0_unblockAll, Cond.selects RX0 yX0_unblockAll yX0_unblockAll, Cond.code yX0_unblockAll cX0_unblockAll 3 none, Cond.methodLink RX4 257 yX4_haveAllSealed, Cond.instanceMethod yX4_haveAllSealed, Cond.selects RX4 yX4_haveAllSealed yX4_haveAllSealed, Cond.code yX4_haveAllSealed cX4_haveAllSealed 2 (some .boolean), Cond.methodLink RX4 260 yX4_completeCheckpoint, Cond.instanceMethod yX4_completeCheckpoint, Cond.selects RX4 yX4_completeCheckpoint yX4_completeCheckpoint, Cond.code yX4_completeCheckpoint cX4_completeCheckpoint 1 none, Cond.fieldLink RX4 46 "CheckpointedStream" "kept" "LCheckpointedStream$Tally;", Cond.fieldLink RX4 19 "CheckpointedStream" "readers" "LCheckpointedStream$Readers;"]
def wsX4_takeBarrier_r4 : List Cond := [Cond.fieldLink RX4 66 "CheckpointedStream" "latestComplete" "I", Cond.methodLink RX4 263 yX3_copyAll, Cond.instanceMethod yX3_copyAll, Cond.selects RX3 yX3_copyAll yX3_copyAll, Cond.code yX3_copyAll cX3_copyAll 3 none, Cond.methodLink RX4 267 yX2_keepAll, Cond.instanceMethod yX2_keepAll, Cond.selects RX2 yX2_keepAll yX2_keepAll, Cond.initialized RX2, Cond.code yX2_keepAll cX2_keepAll 2 none, Cond.fieldLink RX2 15 "CheckpointedStream$Readers" "kept" "[I", Cond.fieldLink RX2 22 "CheckpointedStream$Readers" "keeping" "[I"]
def wsX4_takeBarrier : List Cond := .code yX4_takeBarrier cX4_takeBarrier 3 none :: ((wsX4_takeBarrier_r1 ++ (wsX4_takeBarrier_r2 ++ (wsX4_takeBarrier_r3 ++ wsX4_takeBarrier_r4))) ++ wsX40 ++ wsX00 ++ wsX30 ++ wsX20)
def wsX4_takeFrom_r1 : List Cond := [Cond.fieldLink RX4 26 "CheckpointedStream" "channels" "LCheckpointedStream$Channels;", Cond.fieldLink RX4 63 "CheckpointedStream" "numberUnderWay" "I", Cond.methodLink RX4 229 yX0_removeFirst, Cond.instanceMethod yX0_removeFirst, Cond.selects RX0 yX0_removeFirst yX0_removeFirst, Cond.initialized RX0, Cond.code yX0_removeFirst cX0_removeFirst 7 (some .int), Cond.fieldLink RX0 9 "CheckpointedStream$Channels" "items" "[I", Cond.fieldLink RX0 15 "CheckpointedStream$Channels" "sizes" "[I", Cond.methodLink RX0 22 yX0_channelOf, Cond.static yX0_channelOf, Cond.code yX0_channelOf cX0_channelOf 2 (some .int), Cond.methodLink RX4 223 yX4_keyOf, Cond.static yX4_keyOf, Cond.initialized RX4, Cond.code yX4_keyOf cX4_keyOf 1 (some .int), Cond.methodLink RX4 232 yX4_valueOf, Cond.static yX4_valueOf, Cond.code yX4_valueOf cX4_valueOf 1 (some .int), Cond.methodLink RX4 235 yX4_takeEvent, Cond.instanceMethod yX4_takeEvent, Cond.selects RX4 yX4_takeEvent yX4_takeEvent, Cond.code yX4_takeEvent cX4_takeEvent 3 (some .int), Cond.fieldLink RX4 33 "CheckpointedStream" "state" "LCheckpointedStream$Tally;"]
def wsX4_takeFrom_r2 : List Cond := [Cond.fieldLink RX4 37 "CheckpointedStream" "openTallies" "LCheckpointedStream$Tally;", Cond.fieldLink RX4 203 "CheckpointedStream$Tally" "counts" "[I", Cond.methodLink RX4 242 yX3_add, Cond.instanceMethod yX3_add, Cond.selects RX3 yX3_add yX3_add, Cond.initialized RX3, Cond.code yX3_add cX3_add 4 none, Cond.fieldLink RX3 9 "CheckpointedStream$Tally" "counts" "[I", Cond.fieldLink RX3 15 "CheckpointedStream$Tally" "sums" "[I", Cond.methodLink RX4 238 yX4_takeBarrier, Cond.instanceMethod yX4_takeBarrier, Cond.selects RX4 yX4_takeBarrier yX4_takeBarrier, Cond.code yX4_takeBarrier cX4_takeBarrier 3 none, Cond.methodLink RX4 244 yX0_block, Cond.instanceMethod yX0_block, Cond.selects RX0 yX0_block yX0_block, Cond.code yX0_block cX0_block 3 none, Cond.fieldLink RX0 18 "CheckpointedStream$Channels" "blocked" "[Z", Cond.methodLink RX4 247 yX0_areAllBlocked, Cond.instanceMethod yX0_areAllBlocked, Cond.selects RX0 yX0_areAllBlocked yX0_areAllBlocked, Cond.code yX0_areAllBlocked cX0_areAllBlocked 3 (some .boolean), Cond.methodLink RX0 29 yX0_isShut, Cond.instanceMethod yX0_isShut]
def wsX4_takeFrom_r3 : List Cond := [Cond.selects RX0 yX0_isShut yX0_isShut, Cond.code yX0_isShut cX0_isShut 3 (some .boolean), Cond.methodLink RX4 250 yX4_sealTransaction, Cond.instanceMethod yX4_sealTransaction, Cond.selects RX4 yX4_sealTransaction yX4_sealTransaction, Cond.code yX4_sealTransaction cX4_sealTransaction 3 none, Cond.fieldLink RX4 43 "CheckpointedStream" "keeping" "LCheckpointedStream$Tally;", Cond.fieldLink RX4 40 "CheckpointedStream" "sealedTallies" "LCheckpointedStream$Tally;", Cond.fieldLink RX4 52 "CheckpointedStream" "sealedFor" "[I", Cond.methodLink RX4 200 yX4_ownerOfKey, Cond.instanceMethod yX4_ownerOfKey, Cond.selects RX4 yX4_ownerOfKey yX4_ownerOfKey, Cond.code yX4_ownerOfKey cX4_ownerOfKey 2 (some .int), Cond.fieldLink RX4 56 "CheckpointedStream" "workerCount" "I", Cond.methodLink RX4 175 yX4_ownerOfGroup, Cond.static yX4_ownerOfGroup, Cond.code yX4_ownerOfGroup cX4_ownerOfGroup 2 (some .int), Cond.methodLink RX4 253 yX3_copyKey, Cond.instanceMethod yX3_copyKey, Cond.selects RX3 yX3_copyKey yX3_copyKey, Cond.code yX3_copyKey cX3_copyKey 3 none, Cond.methodLink RX4 166 yX4_moveTallies, Cond.instanceMethod yX4_moveTallies, Cond.selects RX4 yX4_moveTallies yX4_moveTallies]
def wsX4_takeFrom_r4 : List Cond := [Cond.code yX4_moveTallies cX4_moveTallies 6 (some .int), Cond.fieldLink RX4 206 "CheckpointedStream$Tally" "sums" "[I", Cond.methodLink RX4 270 yX3_clearKey, Cond.instanceMethod yX3_clearKey, Cond.selects RX3 yX3_clearKey yX3_clearKey, Cond.code yX3_clearKey cX3_clearKey 2 none, Cond.methodLink RX4 163 yX0_unblockAll, Cond.instanceMethod yX0_unblockAll, Cond.selects RX0 yX0_unblockAll yX0_unblockAll, Cond.code yX0_unblockAll cX0_unblockAll 3 none, Cond.methodLink RX4 257 yX4_haveAllSealed, Cond.instanceMethod yX4_haveAllSealed, Cond.selects RX4 yX4_haveAllSealed yX4_haveAllSealed, Cond.code yX4_haveAllSealed cX4_haveAllSealed 2 (some .boolean), Cond.methodLink RX4 260 yX4_completeCheckpoint, Cond.instanceMethod yX4_completeCheckpoint, Cond.selects RX4 yX4_completeCheckpoint yX4_completeCheckpoint, Cond.code yX4_completeCheckpoint cX4_completeCheckpoint 1 none, Cond.fieldLink RX4 46 "CheckpointedStream" "kept" "LCheckpointedStream$Tally;", Cond.fieldLink RX4 19 "CheckpointedStream" "readers" "LCheckpointedStream$Readers;", Cond.fieldLink RX4 66 "CheckpointedStream" "latestComplete" "I", Cond.methodLink RX4 263 yX3_copyAll, Cond.instanceMethod yX3_copyAll, Cond.selects RX3 yX3_copyAll yX3_copyAll]
def wsX4_takeFrom_r5 : List Cond := [Cond.code yX3_copyAll cX3_copyAll 3 none, Cond.methodLink RX4 267 yX2_keepAll, Cond.instanceMethod yX2_keepAll, Cond.selects RX2 yX2_keepAll yX2_keepAll, Cond.initialized RX2, Cond.code yX2_keepAll cX2_keepAll 2 none, Cond.fieldLink RX2 15 "CheckpointedStream$Readers" "kept" "[I", Cond.fieldLink RX2 22 "CheckpointedStream$Readers" "keeping" "[I"]
def wsX4_takeFrom : List Cond := .code yX4_takeFrom cX4_takeFrom 4 (some .int) :: ((wsX4_takeFrom_r1 ++ (wsX4_takeFrom_r2 ++ (wsX4_takeFrom_r3 ++ (wsX4_takeFrom_r4 ++ wsX4_takeFrom_r5)))) ++ wsX40 ++ wsX00 ++ wsX30 ++ wsX20)
def wsX4_take_r1 : List Cond := [Cond.classLink RX4 86 "java/lang/IllegalStateException", Cond.initialized "java/lang/IllegalStateException", Cond.fieldLink RX4 26 "CheckpointedStream" "channels" "LCheckpointedStream$Channels;", Cond.methodLink RX4 123 yX4_requireWorker, Cond.instanceMethod yX4_requireWorker, Cond.selects RX4 yX4_requireWorker yX4_requireWorker, Cond.initialized RX4, Cond.code yX4_requireWorker cX4_requireWorker 2 none, Cond.classLink RX4 181 "java/lang/IndexOutOfBoundsException", Cond.initialized "java/lang/IndexOutOfBoundsException", Cond.fieldLink RX4 56 "CheckpointedStream" "workerCount" "I", Cond.methodLink RX4 69 yX4_requirePartition, Cond.static yX4_requirePartition, Cond.code yX4_requirePartition cX4_requirePartition 1 none, Cond.methodLink RX4 126 yX0_canGive, Cond.instanceMethod yX0_canGive, Cond.selects RX0 yX0_canGive yX0_canGive, Cond.initialized RX0, Cond.code yX0_canGive cX0_canGive 3 (some .boolean), Cond.methodLink RX0 26 yX0_size, Cond.instanceMethod yX0_size, Cond.selects RX0 yX0_size yX0_size, Cond.code yX0_size cX0_size 3 (some .int), Cond.fieldLink RX0 15 "CheckpointedStream$Channels" "sizes" "[I"]
def wsX4_take_r2 : List Cond := [Cond.methodLink RX0 22 yX0_channelOf, Cond.static yX0_channelOf, Cond.code yX0_channelOf cX0_channelOf 2 (some .int), Cond.methodLink RX0 29 yX0_isShut, Cond.instanceMethod yX0_isShut, Cond.selects RX0 yX0_isShut yX0_isShut, Cond.code yX0_isShut cX0_isShut 3 (some .boolean), Cond.fieldLink RX0 18 "CheckpointedStream$Channels" "blocked" "[Z", Cond.methodLink RX4 132 yX4_takeFrom, Cond.instanceMethod yX4_takeFrom, Cond.selects RX4 yX4_takeFrom yX4_takeFrom, Cond.code yX4_takeFrom cX4_takeFrom 4 (some .int), Cond.fieldLink RX4 63 "CheckpointedStream" "numberUnderWay" "I", Cond.methodLink RX4 229 yX0_removeFirst, Cond.instanceMethod yX0_removeFirst, Cond.selects RX0 yX0_removeFirst yX0_removeFirst, Cond.code yX0_removeFirst cX0_removeFirst 7 (some .int), Cond.fieldLink RX0 9 "CheckpointedStream$Channels" "items" "[I", Cond.methodLink RX4 223 yX4_keyOf, Cond.static yX4_keyOf, Cond.code yX4_keyOf cX4_keyOf 1 (some .int), Cond.methodLink RX4 232 yX4_valueOf, Cond.static yX4_valueOf, Cond.code yX4_valueOf cX4_valueOf 1 (some .int)]
def wsX4_take_r3 : List Cond := [Cond.methodLink RX4 235 yX4_takeEvent, Cond.instanceMethod yX4_takeEvent, Cond.selects RX4 yX4_takeEvent yX4_takeEvent, Cond.code yX4_takeEvent cX4_takeEvent 3 (some .int), Cond.fieldLink RX4 33 "CheckpointedStream" "state" "LCheckpointedStream$Tally;", Cond.fieldLink RX4 37 "CheckpointedStream" "openTallies" "LCheckpointedStream$Tally;", Cond.fieldLink RX4 203 "CheckpointedStream$Tally" "counts" "[I", Cond.methodLink RX4 242 yX3_add, Cond.instanceMethod yX3_add, Cond.selects RX3 yX3_add yX3_add, Cond.initialized RX3, Cond.code yX3_add cX3_add 4 none, Cond.fieldLink RX3 9 "CheckpointedStream$Tally" "counts" "[I", Cond.fieldLink RX3 15 "CheckpointedStream$Tally" "sums" "[I", Cond.methodLink RX4 238 yX4_takeBarrier, Cond.instanceMethod yX4_takeBarrier, Cond.selects RX4 yX4_takeBarrier yX4_takeBarrier, Cond.code yX4_takeBarrier cX4_takeBarrier 3 none, Cond.methodLink RX4 244 yX0_block, Cond.instanceMethod yX0_block, Cond.selects RX0 yX0_block yX0_block, Cond.code yX0_block cX0_block 3 none, Cond.methodLink RX4 247 yX0_areAllBlocked, Cond.instanceMethod yX0_areAllBlocked]
def wsX4_take_r4 : List Cond := [Cond.selects RX0 yX0_areAllBlocked yX0_areAllBlocked, Cond.code yX0_areAllBlocked cX0_areAllBlocked 3 (some .boolean), Cond.methodLink RX4 250 yX4_sealTransaction, Cond.instanceMethod yX4_sealTransaction, Cond.selects RX4 yX4_sealTransaction yX4_sealTransaction, Cond.code yX4_sealTransaction cX4_sealTransaction 3 none, Cond.fieldLink RX4 43 "CheckpointedStream" "keeping" "LCheckpointedStream$Tally;", Cond.fieldLink RX4 40 "CheckpointedStream" "sealedTallies" "LCheckpointedStream$Tally;", Cond.fieldLink RX4 52 "CheckpointedStream" "sealedFor" "[I", Cond.methodLink RX4 200 yX4_ownerOfKey, Cond.instanceMethod yX4_ownerOfKey, Cond.selects RX4 yX4_ownerOfKey yX4_ownerOfKey, Cond.code yX4_ownerOfKey cX4_ownerOfKey 2 (some .int), Cond.methodLink RX4 175 yX4_ownerOfGroup, Cond.static yX4_ownerOfGroup, Cond.code yX4_ownerOfGroup cX4_ownerOfGroup 2 (some .int), Cond.methodLink RX4 253 yX3_copyKey, Cond.instanceMethod yX3_copyKey, Cond.selects RX3 yX3_copyKey yX3_copyKey, Cond.code yX3_copyKey cX3_copyKey 3 none, Cond.methodLink RX4 166 yX4_moveTallies, Cond.instanceMethod yX4_moveTallies, Cond.selects RX4 yX4_moveTallies yX4_moveTallies, Cond.code yX4_moveTallies cX4_moveTallies 6 (some .int)]
def wsX4_take_r5 : List Cond := [Cond.fieldLink RX4 206 "CheckpointedStream$Tally" "sums" "[I", Cond.methodLink RX4 270 yX3_clearKey, Cond.instanceMethod yX3_clearKey, Cond.selects RX3 yX3_clearKey yX3_clearKey, Cond.code yX3_clearKey cX3_clearKey 2 none, Cond.methodLink RX4 163 yX0_unblockAll, Cond.instanceMethod yX0_unblockAll, Cond.selects RX0 yX0_unblockAll yX0_unblockAll, Cond.code yX0_unblockAll cX0_unblockAll 3 none, Cond.methodLink RX4 257 yX4_haveAllSealed, Cond.instanceMethod yX4_haveAllSealed, Cond.selects RX4 yX4_haveAllSealed yX4_haveAllSealed, Cond.code yX4_haveAllSealed cX4_haveAllSealed 2 (some .boolean), Cond.methodLink RX4 260 yX4_completeCheckpoint, Cond.instanceMethod yX4_completeCheckpoint, Cond.selects RX4 yX4_completeCheckpoint yX4_completeCheckpoint, Cond.code yX4_completeCheckpoint cX4_completeCheckpoint 1 none, Cond.fieldLink RX4 46 "CheckpointedStream" "kept" "LCheckpointedStream$Tally;", Cond.fieldLink RX4 19 "CheckpointedStream" "readers" "LCheckpointedStream$Readers;", Cond.fieldLink RX4 66 "CheckpointedStream" "latestComplete" "I", Cond.methodLink RX4 263 yX3_copyAll, Cond.instanceMethod yX3_copyAll, Cond.selects RX3 yX3_copyAll yX3_copyAll, Cond.code yX3_copyAll cX3_copyAll 3 none]
def wsX4_take_r6 : List Cond := [Cond.methodLink RX4 267 yX2_keepAll, Cond.instanceMethod yX2_keepAll, Cond.selects RX2 yX2_keepAll yX2_keepAll, Cond.initialized RX2, Cond.code yX2_keepAll cX2_keepAll 2 none, Cond.fieldLink RX2 15 "CheckpointedStream$Readers" "kept" "[I", Cond.fieldLink RX2 22 "CheckpointedStream$Readers" "keeping" "[I"]
def wsX4_take : List Cond := .code yX4_take cX4_take 3 (some .int) :: ((wsX4_take_r1 ++ (wsX4_take_r2 ++ (wsX4_take_r3 ++ (wsX4_take_r4 ++ (wsX4_take_r5 ++ wsX4_take_r6))))) ++ wsX40 ++ wsX00 ++ wsX30 ++ wsX20 ++ (vx_atS RX4 90 "java/lang/IllegalStateException" ["java/lang/RuntimeException", "java/lang/Exception"]).filter goodWord ++ (vx_atS RX4 185 "java/lang/IndexOutOfBoundsException" ["java/lang/RuntimeException", "java/lang/Exception"]).filter goodWord)
def wsX4_readRound_r1 : List Cond := [Cond.methodLink RX4 95 yX4_canReadFrom, Cond.instanceMethod yX4_canReadFrom, Cond.selects RX4 yX4_canReadFrom yX4_canReadFrom, Cond.initialized RX4, Cond.code yX4_canReadFrom cX4_canReadFrom 4 (some .boolean), Cond.fieldLink RX4 19 "CheckpointedStream" "readers" "LCheckpointedStream$Readers;", Cond.fieldLink RX4 178 "CheckpointedStream$Readers" "offsets" "[I", Cond.fieldLink RX4 10 "CheckpointedStream" "rows" "LCheckpointedStream$EventRows;", Cond.fieldLink RX4 83 "CheckpointedStream$EventRows" "lengths" "[I", Cond.fieldLink RX4 26 "CheckpointedStream" "channels" "LCheckpointedStream$Channels;", Cond.methodLink RX4 186 yX1_get, Cond.instanceMethod yX1_get, Cond.selects RX1 yX1_get yX1_get, Cond.initialized RX1, Cond.code yX1_get cX1_get 3 (some .int), Cond.fieldLink RX1 15 "CheckpointedStream$EventRows" "events" "[I", Cond.methodLink RX4 223 yX4_keyOf, Cond.static yX4_keyOf, Cond.code yX4_keyOf cX4_keyOf 1 (some .int), Cond.methodLink RX4 200 yX4_ownerOfKey, Cond.instanceMethod yX4_ownerOfKey, Cond.selects RX4 yX4_ownerOfKey yX4_ownerOfKey, Cond.code yX4_ownerOfKey cX4_ownerOfKey 2 (some .int), Cond.fieldLink RX4 56 "CheckpointedStream" "workerCount" "I"]
def wsX4_readRound_r2 : List Cond := [Cond.methodLink RX4 175 yX4_ownerOfGroup, Cond.static yX4_ownerOfGroup, Cond.code yX4_ownerOfGroup cX4_ownerOfGroup 2 (some .int), Cond.methodLink RX4 226 yX0_hasRoom, Cond.instanceMethod yX0_hasRoom, Cond.selects RX0 yX0_hasRoom yX0_hasRoom, Cond.initialized RX0, Cond.code yX0_hasRoom cX0_hasRoom 3 (some .boolean), Cond.methodLink RX0 26 yX0_size, Cond.instanceMethod yX0_size, Cond.selects RX0 yX0_size yX0_size, Cond.code yX0_size cX0_size 3 (some .int), Cond.fieldLink RX0 15 "CheckpointedStream$Channels" "sizes" "[I", Cond.methodLink RX0 22 yX0_channelOf, Cond.static yX0_channelOf, Cond.code yX0_channelOf cX0_channelOf 2 (some .int), Cond.methodLink RX4 101 yX4_readFrom, Cond.instanceMethod yX4_readFrom, Cond.selects RX4 yX4_readFrom yX4_readFrom, Cond.code yX4_readFrom cX4_readFrom 4 (some .int), Cond.methodLink RX4 116 yX0_put, Cond.instanceMethod yX0_put, Cond.selects RX0 yX0_put yX0_put, Cond.code yX0_put cX0_put 5 none]
def wsX4_readRound_r3 : List Cond := [Cond.fieldLink RX0 9 "CheckpointedStream$Channels" "items" "[I"]
def wsX4_readRound : List Cond := .code yX4_readRound cX4_readRound 3 (some .int) :: ((wsX4_readRound_r1 ++ (wsX4_readRound_r2 ++ wsX4_readRound_r3)) ++ wsX40 ++ wsX20 ++ wsX10 ++ wsX00)
def wsX4_takeRound_r1 : List Cond := [Cond.fieldLink RX4 56 "CheckpointedStream" "workerCount" "I", Cond.fieldLink RX4 26 "CheckpointedStream" "channels" "LCheckpointedStream$Channels;", Cond.methodLink RX4 126 yX0_canGive, Cond.instanceMethod yX0_canGive, Cond.selects RX0 yX0_canGive yX0_canGive, Cond.initialized RX0, Cond.code yX0_canGive cX0_canGive 3 (some .boolean), Cond.methodLink RX0 26 yX0_size, Cond.instanceMethod yX0_size, Cond.selects RX0 yX0_size yX0_size, Cond.code yX0_size cX0_size 3 (some .int), Cond.fieldLink RX0 15 "CheckpointedStream$Channels" "sizes" "[I", Cond.methodLink RX0 22 yX0_channelOf, Cond.static yX0_channelOf, Cond.code yX0_channelOf cX0_channelOf 2 (some .int), Cond.methodLink RX0 29 yX0_isShut, Cond.instanceMethod yX0_isShut, Cond.selects RX0 yX0_isShut yX0_isShut, Cond.code yX0_isShut cX0_isShut 3 (some .boolean), Cond.fieldLink RX0 18 "CheckpointedStream$Channels" "blocked" "[Z", Cond.methodLink RX4 132 yX4_takeFrom, Cond.instanceMethod yX4_takeFrom, Cond.selects RX4 yX4_takeFrom yX4_takeFrom, Cond.initialized RX4]
def wsX4_takeRound_r2 : List Cond := [Cond.code yX4_takeFrom cX4_takeFrom 4 (some .int), Cond.fieldLink RX4 63 "CheckpointedStream" "numberUnderWay" "I", Cond.methodLink RX4 229 yX0_removeFirst, Cond.instanceMethod yX0_removeFirst, Cond.selects RX0 yX0_removeFirst yX0_removeFirst, Cond.code yX0_removeFirst cX0_removeFirst 7 (some .int), Cond.fieldLink RX0 9 "CheckpointedStream$Channels" "items" "[I", Cond.methodLink RX4 223 yX4_keyOf, Cond.static yX4_keyOf, Cond.code yX4_keyOf cX4_keyOf 1 (some .int), Cond.methodLink RX4 232 yX4_valueOf, Cond.static yX4_valueOf, Cond.code yX4_valueOf cX4_valueOf 1 (some .int), Cond.methodLink RX4 235 yX4_takeEvent, Cond.instanceMethod yX4_takeEvent, Cond.selects RX4 yX4_takeEvent yX4_takeEvent, Cond.code yX4_takeEvent cX4_takeEvent 3 (some .int), Cond.fieldLink RX4 33 "CheckpointedStream" "state" "LCheckpointedStream$Tally;", Cond.fieldLink RX4 37 "CheckpointedStream" "openTallies" "LCheckpointedStream$Tally;", Cond.fieldLink RX4 203 "CheckpointedStream$Tally" "counts" "[I", Cond.methodLink RX4 242 yX3_add, Cond.instanceMethod yX3_add, Cond.selects RX3 yX3_add yX3_add, Cond.initialized RX3]
def wsX4_takeRound_r3 : List Cond := [Cond.code yX3_add cX3_add 4 none, Cond.fieldLink RX3 9 "CheckpointedStream$Tally" "counts" "[I", Cond.fieldLink RX3 15 "CheckpointedStream$Tally" "sums" "[I", Cond.methodLink RX4 238 yX4_takeBarrier, Cond.instanceMethod yX4_takeBarrier, Cond.selects RX4 yX4_takeBarrier yX4_takeBarrier, Cond.code yX4_takeBarrier cX4_takeBarrier 3 none, Cond.methodLink RX4 244 yX0_block, Cond.instanceMethod yX0_block, Cond.selects RX0 yX0_block yX0_block, Cond.code yX0_block cX0_block 3 none, Cond.methodLink RX4 247 yX0_areAllBlocked, Cond.instanceMethod yX0_areAllBlocked, Cond.selects RX0 yX0_areAllBlocked yX0_areAllBlocked, Cond.code yX0_areAllBlocked cX0_areAllBlocked 3 (some .boolean), Cond.methodLink RX4 250 yX4_sealTransaction, Cond.instanceMethod yX4_sealTransaction, Cond.selects RX4 yX4_sealTransaction yX4_sealTransaction, Cond.code yX4_sealTransaction cX4_sealTransaction 3 none, Cond.fieldLink RX4 43 "CheckpointedStream" "keeping" "LCheckpointedStream$Tally;", Cond.fieldLink RX4 40 "CheckpointedStream" "sealedTallies" "LCheckpointedStream$Tally;", Cond.fieldLink RX4 52 "CheckpointedStream" "sealedFor" "[I", Cond.methodLink RX4 200 yX4_ownerOfKey, Cond.instanceMethod yX4_ownerOfKey]
def wsX4_takeRound_r4 : List Cond := [Cond.selects RX4 yX4_ownerOfKey yX4_ownerOfKey, Cond.code yX4_ownerOfKey cX4_ownerOfKey 2 (some .int), Cond.methodLink RX4 175 yX4_ownerOfGroup, Cond.static yX4_ownerOfGroup, Cond.code yX4_ownerOfGroup cX4_ownerOfGroup 2 (some .int), Cond.methodLink RX4 253 yX3_copyKey, Cond.instanceMethod yX3_copyKey, Cond.selects RX3 yX3_copyKey yX3_copyKey, Cond.code yX3_copyKey cX3_copyKey 3 none, Cond.methodLink RX4 166 yX4_moveTallies, Cond.instanceMethod yX4_moveTallies, Cond.selects RX4 yX4_moveTallies yX4_moveTallies, Cond.code yX4_moveTallies cX4_moveTallies 6 (some .int), Cond.fieldLink RX4 206 "CheckpointedStream$Tally" "sums" "[I", Cond.methodLink RX4 270 yX3_clearKey, Cond.instanceMethod yX3_clearKey, Cond.selects RX3 yX3_clearKey yX3_clearKey, Cond.code yX3_clearKey cX3_clearKey 2 none, Cond.methodLink RX4 163 yX0_unblockAll, Cond.instanceMethod yX0_unblockAll, Cond.selects RX0 yX0_unblockAll yX0_unblockAll, Cond.code yX0_unblockAll cX0_unblockAll 3 none, Cond.methodLink RX4 257 yX4_haveAllSealed, Cond.instanceMethod yX4_haveAllSealed]
def wsX4_takeRound_r5 : List Cond := [Cond.selects RX4 yX4_haveAllSealed yX4_haveAllSealed, Cond.code yX4_haveAllSealed cX4_haveAllSealed 2 (some .boolean), Cond.methodLink RX4 260 yX4_completeCheckpoint, Cond.instanceMethod yX4_completeCheckpoint, Cond.selects RX4 yX4_completeCheckpoint yX4_completeCheckpoint, Cond.code yX4_completeCheckpoint cX4_completeCheckpoint 1 none, Cond.fieldLink RX4 46 "CheckpointedStream" "kept" "LCheckpointedStream$Tally;", Cond.fieldLink RX4 19 "CheckpointedStream" "readers" "LCheckpointedStream$Readers;", Cond.fieldLink RX4 66 "CheckpointedStream" "latestComplete" "I", Cond.methodLink RX4 263 yX3_copyAll, Cond.instanceMethod yX3_copyAll, Cond.selects RX3 yX3_copyAll yX3_copyAll, Cond.code yX3_copyAll cX3_copyAll 3 none, Cond.methodLink RX4 267 yX2_keepAll, Cond.instanceMethod yX2_keepAll, Cond.selects RX2 yX2_keepAll yX2_keepAll, Cond.initialized RX2, Cond.code yX2_keepAll cX2_keepAll 2 none, Cond.fieldLink RX2 15 "CheckpointedStream$Readers" "kept" "[I", Cond.fieldLink RX2 22 "CheckpointedStream$Readers" "keeping" "[I"]
def wsX4_takeRound : List Cond := .code yX4_takeRound cX4_takeRound 4 (some .int) :: ((wsX4_takeRound_r1 ++ (wsX4_takeRound_r2 ++ (wsX4_takeRound_r3 ++ (wsX4_takeRound_r4 ++ wsX4_takeRound_r5)))) ++ wsX40 ++ wsX00 ++ wsX30 ++ wsX20)
def wsX4_pump_r1 : List Cond := [Cond.classLink RX4 76 "java/lang/IllegalArgumentException", Cond.initialized "java/lang/IllegalArgumentException", Cond.methodLink RX4 137 yX4_readRound, Cond.instanceMethod yX4_readRound, Cond.selects RX4 yX4_readRound yX4_readRound, Cond.initialized RX4, Cond.code yX4_readRound cX4_readRound 3 (some .int), Cond.methodLink RX4 95 yX4_canReadFrom, Cond.instanceMethod yX4_canReadFrom, Cond.selects RX4 yX4_canReadFrom yX4_canReadFrom, Cond.code yX4_canReadFrom cX4_canReadFrom 4 (some .boolean), Cond.fieldLink RX4 19 "CheckpointedStream" "readers" "LCheckpointedStream$Readers;", Cond.fieldLink RX4 178 "CheckpointedStream$Readers" "offsets" "[I", Cond.fieldLink RX4 10 "CheckpointedStream" "rows" "LCheckpointedStream$EventRows;", Cond.fieldLink RX4 83 "CheckpointedStream$EventRows" "lengths" "[I", Cond.fieldLink RX4 26 "CheckpointedStream" "channels" "LCheckpointedStream$Channels;", Cond.methodLink RX4 186 yX1_get, Cond.instanceMethod yX1_get, Cond.selects RX1 yX1_get yX1_get, Cond.initialized RX1, Cond.code yX1_get cX1_get 3 (some .int), Cond.fieldLink RX1 15 "CheckpointedStream$EventRows" "events" "[I", Cond.methodLink RX4 223 yX4_keyOf, Cond.static yX4_keyOf]
def wsX4_pump_r2 : List Cond := [Cond.code yX4_keyOf cX4_keyOf 1 (some .int), Cond.methodLink RX4 200 yX4_ownerOfKey, Cond.instanceMethod yX4_ownerOfKey, Cond.selects RX4 yX4_ownerOfKey yX4_ownerOfKey, Cond.code yX4_ownerOfKey cX4_ownerOfKey 2 (some .int), Cond.fieldLink RX4 56 "CheckpointedStream" "workerCount" "I", Cond.methodLink RX4 175 yX4_ownerOfGroup, Cond.static yX4_ownerOfGroup, Cond.code yX4_ownerOfGroup cX4_ownerOfGroup 2 (some .int), Cond.methodLink RX4 226 yX0_hasRoom, Cond.instanceMethod yX0_hasRoom, Cond.selects RX0 yX0_hasRoom yX0_hasRoom, Cond.initialized RX0, Cond.code yX0_hasRoom cX0_hasRoom 3 (some .boolean), Cond.methodLink RX0 26 yX0_size, Cond.instanceMethod yX0_size, Cond.selects RX0 yX0_size yX0_size, Cond.code yX0_size cX0_size 3 (some .int), Cond.fieldLink RX0 15 "CheckpointedStream$Channels" "sizes" "[I", Cond.methodLink RX0 22 yX0_channelOf, Cond.static yX0_channelOf, Cond.code yX0_channelOf cX0_channelOf 2 (some .int), Cond.methodLink RX4 101 yX4_readFrom, Cond.instanceMethod yX4_readFrom]
def wsX4_pump_r3 : List Cond := [Cond.selects RX4 yX4_readFrom yX4_readFrom, Cond.code yX4_readFrom cX4_readFrom 4 (some .int), Cond.methodLink RX4 116 yX0_put, Cond.instanceMethod yX0_put, Cond.selects RX0 yX0_put yX0_put, Cond.code yX0_put cX0_put 5 none, Cond.fieldLink RX0 9 "CheckpointedStream$Channels" "items" "[I", Cond.methodLink RX4 141 yX4_takeRound, Cond.instanceMethod yX4_takeRound, Cond.selects RX4 yX4_takeRound yX4_takeRound, Cond.code yX4_takeRound cX4_takeRound 4 (some .int), Cond.methodLink RX4 126 yX0_canGive, Cond.instanceMethod yX0_canGive, Cond.selects RX0 yX0_canGive yX0_canGive, Cond.code yX0_canGive cX0_canGive 3 (some .boolean), Cond.methodLink RX0 29 yX0_isShut, Cond.instanceMethod yX0_isShut, Cond.selects RX0 yX0_isShut yX0_isShut, Cond.code yX0_isShut cX0_isShut 3 (some .boolean), Cond.fieldLink RX0 18 "CheckpointedStream$Channels" "blocked" "[Z", Cond.methodLink RX4 132 yX4_takeFrom, Cond.instanceMethod yX4_takeFrom, Cond.selects RX4 yX4_takeFrom yX4_takeFrom, Cond.code yX4_takeFrom cX4_takeFrom 4 (some .int)]
def wsX4_pump_r4 : List Cond := [Cond.fieldLink RX4 63 "CheckpointedStream" "numberUnderWay" "I", Cond.methodLink RX4 229 yX0_removeFirst, Cond.instanceMethod yX0_removeFirst, Cond.selects RX0 yX0_removeFirst yX0_removeFirst, Cond.code yX0_removeFirst cX0_removeFirst 7 (some .int), Cond.methodLink RX4 232 yX4_valueOf, Cond.static yX4_valueOf, Cond.code yX4_valueOf cX4_valueOf 1 (some .int), Cond.methodLink RX4 235 yX4_takeEvent, Cond.instanceMethod yX4_takeEvent, Cond.selects RX4 yX4_takeEvent yX4_takeEvent, Cond.code yX4_takeEvent cX4_takeEvent 3 (some .int), Cond.fieldLink RX4 33 "CheckpointedStream" "state" "LCheckpointedStream$Tally;", Cond.fieldLink RX4 37 "CheckpointedStream" "openTallies" "LCheckpointedStream$Tally;", Cond.fieldLink RX4 203 "CheckpointedStream$Tally" "counts" "[I", Cond.methodLink RX4 242 yX3_add, Cond.instanceMethod yX3_add, Cond.selects RX3 yX3_add yX3_add, Cond.initialized RX3, Cond.code yX3_add cX3_add 4 none, Cond.fieldLink RX3 9 "CheckpointedStream$Tally" "counts" "[I", Cond.fieldLink RX3 15 "CheckpointedStream$Tally" "sums" "[I", Cond.methodLink RX4 238 yX4_takeBarrier, Cond.instanceMethod yX4_takeBarrier]
def wsX4_pump_r5 : List Cond := [Cond.selects RX4 yX4_takeBarrier yX4_takeBarrier, Cond.code yX4_takeBarrier cX4_takeBarrier 3 none, Cond.methodLink RX4 244 yX0_block, Cond.instanceMethod yX0_block, Cond.selects RX0 yX0_block yX0_block, Cond.code yX0_block cX0_block 3 none, Cond.methodLink RX4 247 yX0_areAllBlocked, Cond.instanceMethod yX0_areAllBlocked, Cond.selects RX0 yX0_areAllBlocked yX0_areAllBlocked, Cond.code yX0_areAllBlocked cX0_areAllBlocked 3 (some .boolean), Cond.methodLink RX4 250 yX4_sealTransaction, Cond.instanceMethod yX4_sealTransaction, Cond.selects RX4 yX4_sealTransaction yX4_sealTransaction, Cond.code yX4_sealTransaction cX4_sealTransaction 3 none, Cond.fieldLink RX4 43 "CheckpointedStream" "keeping" "LCheckpointedStream$Tally;", Cond.fieldLink RX4 40 "CheckpointedStream" "sealedTallies" "LCheckpointedStream$Tally;", Cond.fieldLink RX4 52 "CheckpointedStream" "sealedFor" "[I", Cond.methodLink RX4 253 yX3_copyKey, Cond.instanceMethod yX3_copyKey, Cond.selects RX3 yX3_copyKey yX3_copyKey, Cond.code yX3_copyKey cX3_copyKey 3 none, Cond.methodLink RX4 166 yX4_moveTallies, Cond.instanceMethod yX4_moveTallies, Cond.selects RX4 yX4_moveTallies yX4_moveTallies]
def wsX4_pump_r6 : List Cond := [Cond.code yX4_moveTallies cX4_moveTallies 6 (some .int), Cond.fieldLink RX4 206 "CheckpointedStream$Tally" "sums" "[I", Cond.methodLink RX4 270 yX3_clearKey, Cond.instanceMethod yX3_clearKey, Cond.selects RX3 yX3_clearKey yX3_clearKey, Cond.code yX3_clearKey cX3_clearKey 2 none, Cond.methodLink RX4 163 yX0_unblockAll, Cond.instanceMethod yX0_unblockAll, Cond.selects RX0 yX0_unblockAll yX0_unblockAll, Cond.code yX0_unblockAll cX0_unblockAll 3 none, Cond.methodLink RX4 257 yX4_haveAllSealed, Cond.instanceMethod yX4_haveAllSealed, Cond.selects RX4 yX4_haveAllSealed yX4_haveAllSealed, Cond.code yX4_haveAllSealed cX4_haveAllSealed 2 (some .boolean), Cond.methodLink RX4 260 yX4_completeCheckpoint, Cond.instanceMethod yX4_completeCheckpoint, Cond.selects RX4 yX4_completeCheckpoint yX4_completeCheckpoint, Cond.code yX4_completeCheckpoint cX4_completeCheckpoint 1 none, Cond.fieldLink RX4 46 "CheckpointedStream" "kept" "LCheckpointedStream$Tally;", Cond.fieldLink RX4 66 "CheckpointedStream" "latestComplete" "I", Cond.methodLink RX4 263 yX3_copyAll, Cond.instanceMethod yX3_copyAll, Cond.selects RX3 yX3_copyAll yX3_copyAll, Cond.code yX3_copyAll cX3_copyAll 3 none]
def wsX4_pump_r7 : List Cond := [Cond.methodLink RX4 267 yX2_keepAll, Cond.instanceMethod yX2_keepAll, Cond.selects RX2 yX2_keepAll yX2_keepAll, Cond.initialized RX2, Cond.code yX2_keepAll cX2_keepAll 2 none, Cond.fieldLink RX2 15 "CheckpointedStream$Readers" "kept" "[I", Cond.fieldLink RX2 22 "CheckpointedStream$Readers" "keeping" "[I"]
def wsX4_pump : List Cond := .code yX4_pump cX4_pump 4 (some .int) :: ((wsX4_pump_r1 ++ (wsX4_pump_r2 ++ (wsX4_pump_r3 ++ (wsX4_pump_r4 ++ (wsX4_pump_r5 ++ (wsX4_pump_r6 ++ wsX4_pump_r7)))))) ++ wsX40 ++ wsX20 ++ wsX10 ++ wsX00 ++ wsX30 ++ (vx_atS RX4 80 "java/lang/IllegalArgumentException" ["java/lang/RuntimeException", "java/lang/Exception"]).filter goodWord)
def wsX4_isReadyToCommit : List Cond := .code yX4_isReadyToCommit cX4_isReadyToCommit 2 (some .boolean) :: ([.fieldLink RX4 52 "CheckpointedStream" "sealedFor" "[I", .fieldLink RX4 66 "CheckpointedStream" "latestComplete" "I"] ++ wsX40)
def wsX4_commitSealed_r1 : List Cond := [Cond.fieldLink RX4 52 "CheckpointedStream" "sealedFor" "[I", Cond.fieldLink RX4 40 "CheckpointedStream" "sealedTallies" "LCheckpointedStream$Tally;", Cond.fieldLink RX4 49 "CheckpointedStream" "sink" "LCheckpointedStream$Tally;", Cond.methodLink RX4 166 yX4_moveTallies, Cond.instanceMethod yX4_moveTallies, Cond.selects RX4 yX4_moveTallies yX4_moveTallies, Cond.initialized RX4, Cond.code yX4_moveTallies cX4_moveTallies 6 (some .int), Cond.fieldLink RX4 203 "CheckpointedStream$Tally" "counts" "[I", Cond.fieldLink RX4 206 "CheckpointedStream$Tally" "sums" "[I", Cond.methodLink RX4 200 yX4_ownerOfKey, Cond.instanceMethod yX4_ownerOfKey, Cond.selects RX4 yX4_ownerOfKey yX4_ownerOfKey, Cond.code yX4_ownerOfKey cX4_ownerOfKey 2 (some .int), Cond.fieldLink RX4 56 "CheckpointedStream" "workerCount" "I", Cond.methodLink RX4 175 yX4_ownerOfGroup, Cond.static yX4_ownerOfGroup, Cond.code yX4_ownerOfGroup cX4_ownerOfGroup 2 (some .int), Cond.methodLink RX4 242 yX3_add, Cond.instanceMethod yX3_add, Cond.selects RX3 yX3_add yX3_add, Cond.initialized RX3, Cond.code yX3_add cX3_add 4 none, Cond.fieldLink RX3 9 "CheckpointedStream$Tally" "counts" "[I"]
def wsX4_commitSealed_r2 : List Cond := [Cond.fieldLink RX3 15 "CheckpointedStream$Tally" "sums" "[I", Cond.methodLink RX4 270 yX3_clearKey, Cond.instanceMethod yX3_clearKey, Cond.selects RX3 yX3_clearKey yX3_clearKey, Cond.code yX3_clearKey cX3_clearKey 2 none]
def wsX4_commitSealed : List Cond := .code yX4_commitSealed cX4_commitSealed 2 (some .int) :: ((wsX4_commitSealed_r1 ++ wsX4_commitSealed_r2) ++ wsX40 ++ wsX30)
def wsX4_commit_r1 : List Cond := [Cond.classLink RX4 86 "java/lang/IllegalStateException", Cond.initialized "java/lang/IllegalStateException", Cond.methodLink RX4 123 yX4_requireWorker, Cond.instanceMethod yX4_requireWorker, Cond.selects RX4 yX4_requireWorker yX4_requireWorker, Cond.initialized RX4, Cond.code yX4_requireWorker cX4_requireWorker 2 none, Cond.classLink RX4 181 "java/lang/IndexOutOfBoundsException", Cond.initialized "java/lang/IndexOutOfBoundsException", Cond.fieldLink RX4 56 "CheckpointedStream" "workerCount" "I", Cond.methodLink RX4 144 yX4_isReadyToCommit, Cond.instanceMethod yX4_isReadyToCommit, Cond.selects RX4 yX4_isReadyToCommit yX4_isReadyToCommit, Cond.code yX4_isReadyToCommit cX4_isReadyToCommit 2 (some .boolean), Cond.fieldLink RX4 52 "CheckpointedStream" "sealedFor" "[I", Cond.fieldLink RX4 66 "CheckpointedStream" "latestComplete" "I", Cond.methodLink RX4 149 yX4_commitSealed, Cond.instanceMethod yX4_commitSealed, Cond.selects RX4 yX4_commitSealed yX4_commitSealed, Cond.code yX4_commitSealed cX4_commitSealed 2 (some .int), Cond.fieldLink RX4 40 "CheckpointedStream" "sealedTallies" "LCheckpointedStream$Tally;", Cond.fieldLink RX4 49 "CheckpointedStream" "sink" "LCheckpointedStream$Tally;", Cond.methodLink RX4 166 yX4_moveTallies, Cond.instanceMethod yX4_moveTallies]
def wsX4_commit_r2 : List Cond := [Cond.selects RX4 yX4_moveTallies yX4_moveTallies, Cond.code yX4_moveTallies cX4_moveTallies 6 (some .int), Cond.fieldLink RX4 203 "CheckpointedStream$Tally" "counts" "[I", Cond.fieldLink RX4 206 "CheckpointedStream$Tally" "sums" "[I", Cond.methodLink RX4 200 yX4_ownerOfKey, Cond.instanceMethod yX4_ownerOfKey, Cond.selects RX4 yX4_ownerOfKey yX4_ownerOfKey, Cond.code yX4_ownerOfKey cX4_ownerOfKey 2 (some .int), Cond.methodLink RX4 175 yX4_ownerOfGroup, Cond.static yX4_ownerOfGroup, Cond.code yX4_ownerOfGroup cX4_ownerOfGroup 2 (some .int), Cond.methodLink RX4 242 yX3_add, Cond.instanceMethod yX3_add, Cond.selects RX3 yX3_add yX3_add, Cond.initialized RX3, Cond.code yX3_add cX3_add 4 none, Cond.fieldLink RX3 9 "CheckpointedStream$Tally" "counts" "[I", Cond.fieldLink RX3 15 "CheckpointedStream$Tally" "sums" "[I", Cond.methodLink RX4 270 yX3_clearKey, Cond.instanceMethod yX3_clearKey, Cond.selects RX3 yX3_clearKey yX3_clearKey, Cond.code yX3_clearKey cX3_clearKey 2 none]
def wsX4_commit : List Cond := .code yX4_commit cX4_commit 2 (some .int) :: ((wsX4_commit_r1 ++ wsX4_commit_r2) ++ wsX40 ++ wsX30 ++ (vx_atS RX4 90 "java/lang/IllegalStateException" ["java/lang/RuntimeException", "java/lang/Exception"]).filter goodWord ++ (vx_atS RX4 185 "java/lang/IndexOutOfBoundsException" ["java/lang/RuntimeException", "java/lang/Exception"]).filter goodWord)
def wsX4_hasAnySealed : List Cond := .code yX4_hasAnySealed cX4_hasAnySealed 2 (some .boolean) :: ([.fieldLink RX4 56 "CheckpointedStream" "workerCount" "I", .fieldLink RX4 52 "CheckpointedStream" "sealedFor" "[I"] ++ wsX40)
def wsX4_beginCheckpoint : List Cond := .code yX4_beginCheckpoint cX4_beginCheckpoint 1 (some .int) :: ([.classLink RX4 86 "java/lang/IllegalStateException", .initialized "java/lang/IllegalStateException", .fieldLink RX4 63 "CheckpointedStream" "numberUnderWay" "I", .fieldLink RX4 60 "CheckpointedStream" "lastBegun" "I", .fieldLink RX4 19 "CheckpointedStream" "readers" "LCheckpointedStream$Readers;", .methodLink RX4 152 yX4_hasAnySealed, .instanceMethod yX4_hasAnySealed, .selects RX4 yX4_hasAnySealed yX4_hasAnySealed, .initialized RX4, .code yX4_hasAnySealed cX4_hasAnySealed 2 (some .boolean), .fieldLink RX4 56 "CheckpointedStream" "workerCount" "I", .fieldLink RX4 52 "CheckpointedStream" "sealedFor" "[I", .methodLink RX4 158 yX2_forgetBarriers, .instanceMethod yX2_forgetBarriers, .selects RX2 yX2_forgetBarriers yX2_forgetBarriers, .initialized RX2, .code yX2_forgetBarriers cX2_forgetBarriers 2 none, .fieldLink RX2 18 "CheckpointedStream$Readers" "sent" "[Z"] ++ wsX40 ++ wsX20 ++ (vx_atS RX4 90 "java/lang/IllegalStateException" ["java/lang/RuntimeException", "java/lang/Exception"]).filter goodWord)
def wsX4_abandon_r1 : List Cond := [Cond.classLink RX4 86 "java/lang/IllegalStateException", Cond.initialized "java/lang/IllegalStateException", Cond.fieldLink RX4 63 "CheckpointedStream" "numberUnderWay" "I", Cond.fieldLink RX4 56 "CheckpointedStream" "workerCount" "I", Cond.fieldLink RX4 26 "CheckpointedStream" "channels" "LCheckpointedStream$Channels;", Cond.fieldLink RX4 52 "CheckpointedStream" "sealedFor" "[I", Cond.fieldLink RX4 40 "CheckpointedStream" "sealedTallies" "LCheckpointedStream$Tally;", Cond.fieldLink RX4 37 "CheckpointedStream" "openTallies" "LCheckpointedStream$Tally;", Cond.methodLink RX4 163 yX0_unblockAll, Cond.instanceMethod yX0_unblockAll, Cond.selects RX0 yX0_unblockAll yX0_unblockAll, Cond.initialized RX0, Cond.code yX0_unblockAll cX0_unblockAll 3 none, Cond.fieldLink RX0 18 "CheckpointedStream$Channels" "blocked" "[Z", Cond.methodLink RX0 22 yX0_channelOf, Cond.static yX0_channelOf, Cond.code yX0_channelOf cX0_channelOf 2 (some .int), Cond.methodLink RX4 166 yX4_moveTallies, Cond.instanceMethod yX4_moveTallies, Cond.selects RX4 yX4_moveTallies yX4_moveTallies, Cond.initialized RX4, Cond.code yX4_moveTallies cX4_moveTallies 6 (some .int), Cond.fieldLink RX4 203 "CheckpointedStream$Tally" "counts" "[I", Cond.fieldLink RX4 206 "CheckpointedStream$Tally" "sums" "[I"]
def wsX4_abandon_r2 : List Cond := [Cond.methodLink RX4 200 yX4_ownerOfKey, Cond.instanceMethod yX4_ownerOfKey, Cond.selects RX4 yX4_ownerOfKey yX4_ownerOfKey, Cond.code yX4_ownerOfKey cX4_ownerOfKey 2 (some .int), Cond.methodLink RX4 175 yX4_ownerOfGroup, Cond.static yX4_ownerOfGroup, Cond.code yX4_ownerOfGroup cX4_ownerOfGroup 2 (some .int), Cond.methodLink RX4 242 yX3_add, Cond.instanceMethod yX3_add, Cond.selects RX3 yX3_add yX3_add, Cond.initialized RX3, Cond.code yX3_add cX3_add 4 none, Cond.fieldLink RX3 9 "CheckpointedStream$Tally" "counts" "[I", Cond.fieldLink RX3 15 "CheckpointedStream$Tally" "sums" "[I", Cond.methodLink RX4 270 yX3_clearKey, Cond.instanceMethod yX3_clearKey, Cond.selects RX3 yX3_clearKey yX3_clearKey, Cond.code yX3_clearKey cX3_clearKey 2 none]
def wsX4_abandon : List Cond := .code yX4_abandon cX4_abandon 3 (some .int) :: ((wsX4_abandon_r1 ++ wsX4_abandon_r2) ++ wsX40 ++ wsX00 ++ wsX30 ++ (vx_atS RX4 90 "java/lang/IllegalStateException" ["java/lang/RuntimeException", "java/lang/Exception"]).filter goodWord)
def wsX4_startAgain_r1 : List Cond := [Cond.fieldLink RX4 56 "CheckpointedStream" "workerCount" "I", Cond.fieldLink RX4 52 "CheckpointedStream" "sealedFor" "[I", Cond.fieldLink RX4 63 "CheckpointedStream" "numberUnderWay" "I", Cond.fieldLink RX4 37 "CheckpointedStream" "openTallies" "LCheckpointedStream$Tally;", Cond.fieldLink RX4 40 "CheckpointedStream" "sealedTallies" "LCheckpointedStream$Tally;", Cond.fieldLink RX4 26 "CheckpointedStream" "channels" "LCheckpointedStream$Channels;", Cond.fieldLink RX4 19 "CheckpointedStream" "readers" "LCheckpointedStream$Readers;", Cond.fieldLink RX4 33 "CheckpointedStream" "state" "LCheckpointedStream$Tally;", Cond.fieldLink RX4 46 "CheckpointedStream" "kept" "LCheckpointedStream$Tally;", Cond.methodLink RX4 144 yX4_isReadyToCommit, Cond.instanceMethod yX4_isReadyToCommit, Cond.selects RX4 yX4_isReadyToCommit yX4_isReadyToCommit, Cond.initialized RX4, Cond.code yX4_isReadyToCommit cX4_isReadyToCommit 2 (some .boolean), Cond.fieldLink RX4 66 "CheckpointedStream" "latestComplete" "I", Cond.methodLink RX4 149 yX4_commitSealed, Cond.instanceMethod yX4_commitSealed, Cond.selects RX4 yX4_commitSealed yX4_commitSealed, Cond.code yX4_commitSealed cX4_commitSealed 2 (some .int), Cond.fieldLink RX4 49 "CheckpointedStream" "sink" "LCheckpointedStream$Tally;", Cond.methodLink RX4 166 yX4_moveTallies, Cond.instanceMethod yX4_moveTallies, Cond.selects RX4 yX4_moveTallies yX4_moveTallies, Cond.code yX4_moveTallies cX4_moveTallies 6 (some .int)]
def wsX4_startAgain_r2 : List Cond := [Cond.fieldLink RX4 203 "CheckpointedStream$Tally" "counts" "[I", Cond.fieldLink RX4 206 "CheckpointedStream$Tally" "sums" "[I", Cond.methodLink RX4 200 yX4_ownerOfKey, Cond.instanceMethod yX4_ownerOfKey, Cond.selects RX4 yX4_ownerOfKey yX4_ownerOfKey, Cond.code yX4_ownerOfKey cX4_ownerOfKey 2 (some .int), Cond.methodLink RX4 175 yX4_ownerOfGroup, Cond.static yX4_ownerOfGroup, Cond.code yX4_ownerOfGroup cX4_ownerOfGroup 2 (some .int), Cond.methodLink RX4 242 yX3_add, Cond.instanceMethod yX3_add, Cond.selects RX3 yX3_add yX3_add, Cond.initialized RX3, Cond.code yX3_add cX3_add 4 none, Cond.fieldLink RX3 9 "CheckpointedStream$Tally" "counts" "[I", Cond.fieldLink RX3 15 "CheckpointedStream$Tally" "sums" "[I", Cond.methodLink RX4 270 yX3_clearKey, Cond.instanceMethod yX3_clearKey, Cond.selects RX3 yX3_clearKey yX3_clearKey, Cond.code yX3_clearKey cX3_clearKey 2 none, Cond.methodLink RX4 273 yX3_clearAll, Cond.instanceMethod yX3_clearAll, Cond.selects RX3 yX3_clearAll yX3_clearAll, Cond.code yX3_clearAll cX3_clearAll 2 none]
def wsX4_startAgain_r3 : List Cond := [Cond.methodLink RX3 18 yX3_clearKey, Cond.methodLink RX4 276 yX0_clearAll, Cond.instanceMethod yX0_clearAll, Cond.selects RX0 yX0_clearAll yX0_clearAll, Cond.initialized RX0, Cond.code yX0_clearAll cX0_clearAll 2 none, Cond.fieldLink RX0 15 "CheckpointedStream$Channels" "sizes" "[I", Cond.fieldLink RX0 18 "CheckpointedStream$Channels" "blocked" "[Z", Cond.methodLink RX4 277 yX2_returnToKept, Cond.instanceMethod yX2_returnToKept, Cond.selects RX2 yX2_returnToKept yX2_returnToKept, Cond.initialized RX2, Cond.code yX2_returnToKept cX2_returnToKept 2 none, Cond.fieldLink RX2 9 "CheckpointedStream$Readers" "offsets" "[I", Cond.fieldLink RX2 15 "CheckpointedStream$Readers" "kept" "[I", Cond.methodLink RX4 263 yX3_copyAll, Cond.instanceMethod yX3_copyAll, Cond.selects RX3 yX3_copyAll yX3_copyAll, Cond.code yX3_copyAll cX3_copyAll 3 none]
def wsX4_startAgain : List Cond := .code yX4_startAgain cX4_startAgain 3 none :: ((wsX4_startAgain_r1 ++ (wsX4_startAgain_r2 ++ wsX4_startAgain_r3)) ++ wsX40 ++ wsX30 ++ wsX00 ++ wsX20)
def wsX4_crash_r1 : List Cond := [Cond.fieldLink RX4 56 "CheckpointedStream" "workerCount" "I", Cond.fieldLink RX4 66 "CheckpointedStream" "latestComplete" "I", Cond.methodLink RX4 170 yX4_startAgain, Cond.instanceMethod yX4_startAgain, Cond.selects RX4 yX4_startAgain yX4_startAgain, Cond.initialized RX4, Cond.code yX4_startAgain cX4_startAgain 3 none, Cond.fieldLink RX4 52 "CheckpointedStream" "sealedFor" "[I", Cond.fieldLink RX4 63 "CheckpointedStream" "numberUnderWay" "I", Cond.fieldLink RX4 37 "CheckpointedStream" "openTallies" "LCheckpointedStream$Tally;", Cond.fieldLink RX4 40 "CheckpointedStream" "sealedTallies" "LCheckpointedStream$Tally;", Cond.fieldLink RX4 26 "CheckpointedStream" "channels" "LCheckpointedStream$Channels;", Cond.fieldLink RX4 19 "CheckpointedStream" "readers" "LCheckpointedStream$Readers;", Cond.fieldLink RX4 33 "CheckpointedStream" "state" "LCheckpointedStream$Tally;", Cond.fieldLink RX4 46 "CheckpointedStream" "kept" "LCheckpointedStream$Tally;", Cond.methodLink RX4 144 yX4_isReadyToCommit, Cond.instanceMethod yX4_isReadyToCommit, Cond.selects RX4 yX4_isReadyToCommit yX4_isReadyToCommit, Cond.code yX4_isReadyToCommit cX4_isReadyToCommit 2 (some .boolean), Cond.methodLink RX4 149 yX4_commitSealed, Cond.instanceMethod yX4_commitSealed, Cond.selects RX4 yX4_commitSealed yX4_commitSealed, Cond.code yX4_commitSealed cX4_commitSealed 2 (some .int), Cond.fieldLink RX4 49 "CheckpointedStream" "sink" "LCheckpointedStream$Tally;"]
def wsX4_crash_r2 : List Cond := [Cond.methodLink RX4 166 yX4_moveTallies, Cond.instanceMethod yX4_moveTallies, Cond.selects RX4 yX4_moveTallies yX4_moveTallies, Cond.code yX4_moveTallies cX4_moveTallies 6 (some .int), Cond.fieldLink RX4 203 "CheckpointedStream$Tally" "counts" "[I", Cond.fieldLink RX4 206 "CheckpointedStream$Tally" "sums" "[I", Cond.methodLink RX4 200 yX4_ownerOfKey, Cond.instanceMethod yX4_ownerOfKey, Cond.selects RX4 yX4_ownerOfKey yX4_ownerOfKey, Cond.code yX4_ownerOfKey cX4_ownerOfKey 2 (some .int), Cond.methodLink RX4 175 yX4_ownerOfGroup, Cond.static yX4_ownerOfGroup, Cond.code yX4_ownerOfGroup cX4_ownerOfGroup 2 (some .int), Cond.methodLink RX4 242 yX3_add, Cond.instanceMethod yX3_add, Cond.selects RX3 yX3_add yX3_add, Cond.initialized RX3, Cond.code yX3_add cX3_add 4 none, Cond.fieldLink RX3 9 "CheckpointedStream$Tally" "counts" "[I", Cond.fieldLink RX3 15 "CheckpointedStream$Tally" "sums" "[I", Cond.methodLink RX4 270 yX3_clearKey, Cond.instanceMethod yX3_clearKey, Cond.selects RX3 yX3_clearKey yX3_clearKey, Cond.code yX3_clearKey cX3_clearKey 2 none]
def wsX4_crash_r3 : List Cond := [Cond.methodLink RX4 273 yX3_clearAll, Cond.instanceMethod yX3_clearAll, Cond.selects RX3 yX3_clearAll yX3_clearAll, Cond.code yX3_clearAll cX3_clearAll 2 none, Cond.methodLink RX3 18 yX3_clearKey, Cond.methodLink RX4 276 yX0_clearAll, Cond.instanceMethod yX0_clearAll, Cond.selects RX0 yX0_clearAll yX0_clearAll, Cond.initialized RX0, Cond.code yX0_clearAll cX0_clearAll 2 none, Cond.fieldLink RX0 15 "CheckpointedStream$Channels" "sizes" "[I", Cond.fieldLink RX0 18 "CheckpointedStream$Channels" "blocked" "[Z", Cond.methodLink RX4 277 yX2_returnToKept, Cond.instanceMethod yX2_returnToKept, Cond.selects RX2 yX2_returnToKept yX2_returnToKept, Cond.initialized RX2, Cond.code yX2_returnToKept cX2_returnToKept 2 none, Cond.fieldLink RX2 9 "CheckpointedStream$Readers" "offsets" "[I", Cond.fieldLink RX2 15 "CheckpointedStream$Readers" "kept" "[I", Cond.methodLink RX4 263 yX3_copyAll, Cond.instanceMethod yX3_copyAll, Cond.selects RX3 yX3_copyAll yX3_copyAll, Cond.code yX3_copyAll cX3_copyAll 3 none]
def wsX4_crash : List Cond := .code yX4_crash cX4_crash 1 (some .int) :: ((wsX4_crash_r1 ++ (wsX4_crash_r2 ++ wsX4_crash_r3)) ++ wsX40 ++ wsX30 ++ wsX00 ++ wsX20)
def wsX4_rescale_r1 : List Cond := [Cond.classLink RX4 76 "java/lang/IllegalArgumentException", Cond.initialized "java/lang/IllegalArgumentException", Cond.fieldLink RX4 56 "CheckpointedStream" "workerCount" "I", Cond.methodLink RX4 175 yX4_ownerOfGroup, Cond.static yX4_ownerOfGroup, Cond.initialized RX4, Cond.code yX4_ownerOfGroup cX4_ownerOfGroup 2 (some .int), Cond.methodLink RX4 170 yX4_startAgain, Cond.instanceMethod yX4_startAgain, Cond.selects RX4 yX4_startAgain yX4_startAgain, Cond.code yX4_startAgain cX4_startAgain 3 none, Cond.fieldLink RX4 52 "CheckpointedStream" "sealedFor" "[I", Cond.fieldLink RX4 63 "CheckpointedStream" "numberUnderWay" "I", Cond.fieldLink RX4 37 "CheckpointedStream" "openTallies" "LCheckpointedStream$Tally;", Cond.fieldLink RX4 40 "CheckpointedStream" "sealedTallies" "LCheckpointedStream$Tally;", Cond.fieldLink RX4 26 "CheckpointedStream" "channels" "LCheckpointedStream$Channels;", Cond.fieldLink RX4 19 "CheckpointedStream" "readers" "LCheckpointedStream$Readers;", Cond.fieldLink RX4 33 "CheckpointedStream" "state" "LCheckpointedStream$Tally;", Cond.fieldLink RX4 46 "CheckpointedStream" "kept" "LCheckpointedStream$Tally;", Cond.methodLink RX4 144 yX4_isReadyToCommit, Cond.instanceMethod yX4_isReadyToCommit, Cond.selects RX4 yX4_isReadyToCommit yX4_isReadyToCommit, Cond.code yX4_isReadyToCommit cX4_isReadyToCommit 2 (some .boolean), Cond.fieldLink RX4 66 "CheckpointedStream" "latestComplete" "I"]
def wsX4_rescale_r2 : List Cond := [Cond.methodLink RX4 149 yX4_commitSealed, Cond.instanceMethod yX4_commitSealed, Cond.selects RX4 yX4_commitSealed yX4_commitSealed, Cond.code yX4_commitSealed cX4_commitSealed 2 (some .int), Cond.fieldLink RX4 49 "CheckpointedStream" "sink" "LCheckpointedStream$Tally;", Cond.methodLink RX4 166 yX4_moveTallies, Cond.instanceMethod yX4_moveTallies, Cond.selects RX4 yX4_moveTallies yX4_moveTallies, Cond.code yX4_moveTallies cX4_moveTallies 6 (some .int), Cond.fieldLink RX4 203 "CheckpointedStream$Tally" "counts" "[I", Cond.fieldLink RX4 206 "CheckpointedStream$Tally" "sums" "[I", Cond.methodLink RX4 200 yX4_ownerOfKey, Cond.instanceMethod yX4_ownerOfKey, Cond.selects RX4 yX4_ownerOfKey yX4_ownerOfKey, Cond.code yX4_ownerOfKey cX4_ownerOfKey 2 (some .int), Cond.methodLink RX4 242 yX3_add, Cond.instanceMethod yX3_add, Cond.selects RX3 yX3_add yX3_add, Cond.initialized RX3, Cond.code yX3_add cX3_add 4 none, Cond.fieldLink RX3 9 "CheckpointedStream$Tally" "counts" "[I", Cond.fieldLink RX3 15 "CheckpointedStream$Tally" "sums" "[I", Cond.methodLink RX4 270 yX3_clearKey, Cond.instanceMethod yX3_clearKey]
def wsX4_rescale_r3 : List Cond := [Cond.selects RX3 yX3_clearKey yX3_clearKey, Cond.code yX3_clearKey cX3_clearKey 2 none, Cond.methodLink RX4 273 yX3_clearAll, Cond.instanceMethod yX3_clearAll, Cond.selects RX3 yX3_clearAll yX3_clearAll, Cond.code yX3_clearAll cX3_clearAll 2 none, Cond.methodLink RX3 18 yX3_clearKey, Cond.methodLink RX4 276 yX0_clearAll, Cond.instanceMethod yX0_clearAll, Cond.selects RX0 yX0_clearAll yX0_clearAll, Cond.initialized RX0, Cond.code yX0_clearAll cX0_clearAll 2 none, Cond.fieldLink RX0 15 "CheckpointedStream$Channels" "sizes" "[I", Cond.fieldLink RX0 18 "CheckpointedStream$Channels" "blocked" "[Z", Cond.methodLink RX4 277 yX2_returnToKept, Cond.instanceMethod yX2_returnToKept, Cond.selects RX2 yX2_returnToKept yX2_returnToKept, Cond.initialized RX2, Cond.code yX2_returnToKept cX2_returnToKept 2 none, Cond.fieldLink RX2 9 "CheckpointedStream$Readers" "offsets" "[I", Cond.fieldLink RX2 15 "CheckpointedStream$Readers" "kept" "[I", Cond.methodLink RX4 263 yX3_copyAll, Cond.instanceMethod yX3_copyAll, Cond.selects RX3 yX3_copyAll yX3_copyAll]
def wsX4_rescale_r4 : List Cond := [Cond.code yX3_copyAll cX3_copyAll 3 none]
def wsX4_rescale : List Cond := .code yX4_rescale cX4_rescale 4 (some .int) :: ((wsX4_rescale_r1 ++ (wsX4_rescale_r2 ++ (wsX4_rescale_r3 ++ wsX4_rescale_r4))) ++ wsX40 ++ wsX30 ++ wsX00 ++ wsX20 ++ (vx_atS RX4 80 "java/lang/IllegalArgumentException" ["java/lang/RuntimeException", "java/lang/Exception"]).filter goodWord)
def wsX4_events : List Cond := .code yX4_events cX4_events 2 (some .int) :: ([.fieldLink RX4 10 "CheckpointedStream" "rows" "LCheckpointedStream$EventRows;", .fieldLink RX4 83 "CheckpointedStream$EventRows" "lengths" "[I", .methodLink RX4 69 yX4_requirePartition, .static yX4_requirePartition, .initialized RX4, .code yX4_requirePartition cX4_requirePartition 1 none, .classLink RX4 181 "java/lang/IndexOutOfBoundsException", .initialized "java/lang/IndexOutOfBoundsException"] ++ wsX40 ++ wsX10 ++ (vx_atS RX4 185 "java/lang/IndexOutOfBoundsException" ["java/lang/RuntimeException", "java/lang/Exception"]).filter goodWord)
def wsX4_offset : List Cond := .code yX4_offset cX4_offset 2 (some .int) :: ([.fieldLink RX4 19 "CheckpointedStream" "readers" "LCheckpointedStream$Readers;", .fieldLink RX4 178 "CheckpointedStream$Readers" "offsets" "[I", .methodLink RX4 69 yX4_requirePartition, .static yX4_requirePartition, .initialized RX4, .code yX4_requirePartition cX4_requirePartition 1 none, .classLink RX4 181 "java/lang/IndexOutOfBoundsException", .initialized "java/lang/IndexOutOfBoundsException"] ++ wsX40 ++ wsX20 ++ (vx_atS RX4 185 "java/lang/IndexOutOfBoundsException" ["java/lang/RuntimeException", "java/lang/Exception"]).filter goodWord)
def wsX4_eventAt : List Cond := .code yX4_eventAt cX4_eventAt 3 (some .int) :: ([.classLink RX4 181 "java/lang/IndexOutOfBoundsException", .initialized "java/lang/IndexOutOfBoundsException", .fieldLink RX4 10 "CheckpointedStream" "rows" "LCheckpointedStream$EventRows;", .fieldLink RX4 83 "CheckpointedStream$EventRows" "lengths" "[I", .methodLink RX4 69 yX4_requirePartition, .static yX4_requirePartition, .initialized RX4, .code yX4_requirePartition cX4_requirePartition 1 none, .methodLink RX4 186 yX1_get, .instanceMethod yX1_get, .selects RX1 yX1_get yX1_get, .initialized RX1, .code yX1_get cX1_get 3 (some .int), .fieldLink RX1 15 "CheckpointedStream$EventRows" "events" "[I"] ++ wsX40 ++ wsX10 ++ (vx_atS RX4 185 "java/lang/IndexOutOfBoundsException" ["java/lang/RuntimeException", "java/lang/Exception"]).filter goodWord)
def wsX4_queued : List Cond := .code yX4_queued cX4_queued 3 (some .int) :: ([.fieldLink RX4 26 "CheckpointedStream" "channels" "LCheckpointedStream$Channels;", .methodLink RX4 69 yX4_requirePartition, .static yX4_requirePartition, .initialized RX4, .code yX4_requirePartition cX4_requirePartition 1 none, .classLink RX4 181 "java/lang/IndexOutOfBoundsException", .initialized "java/lang/IndexOutOfBoundsException", .methodLink RX4 123 yX4_requireWorker, .instanceMethod yX4_requireWorker, .selects RX4 yX4_requireWorker yX4_requireWorker, .code yX4_requireWorker cX4_requireWorker 2 none, .fieldLink RX4 56 "CheckpointedStream" "workerCount" "I", .methodLink RX4 189 yX0_size, .instanceMethod yX0_size, .selects RX0 yX0_size yX0_size, .initialized RX0, .code yX0_size cX0_size 3 (some .int), .fieldLink RX0 15 "CheckpointedStream$Channels" "sizes" "[I", .methodLink RX0 22 yX0_channelOf, .static yX0_channelOf, .code yX0_channelOf cX0_channelOf 2 (some .int)] ++ wsX40 ++ wsX00 ++ (vx_atS RX4 185 "java/lang/IndexOutOfBoundsException" ["java/lang/RuntimeException", "java/lang/Exception"]).filter goodWord)
def wsX4_itemAt_r1 : List Cond := [Cond.classLink RX4 181 "java/lang/IndexOutOfBoundsException", Cond.initialized "java/lang/IndexOutOfBoundsException", Cond.fieldLink RX4 26 "CheckpointedStream" "channels" "LCheckpointedStream$Channels;", Cond.methodLink RX4 69 yX4_requirePartition, Cond.static yX4_requirePartition, Cond.initialized RX4, Cond.code yX4_requirePartition cX4_requirePartition 1 none, Cond.methodLink RX4 123 yX4_requireWorker, Cond.instanceMethod yX4_requireWorker, Cond.selects RX4 yX4_requireWorker yX4_requireWorker, Cond.code yX4_requireWorker cX4_requireWorker 2 none, Cond.fieldLink RX4 56 "CheckpointedStream" "workerCount" "I", Cond.methodLink RX4 189 yX0_size, Cond.instanceMethod yX0_size, Cond.selects RX0 yX0_size yX0_size, Cond.initialized RX0, Cond.code yX0_size cX0_size 3 (some .int), Cond.fieldLink RX0 15 "CheckpointedStream$Channels" "sizes" "[I", Cond.methodLink RX0 22 yX0_channelOf, Cond.static yX0_channelOf, Cond.code yX0_channelOf cX0_channelOf 2 (some .int), Cond.methodLink RX4 194 yX0_get, Cond.instanceMethod yX0_get, Cond.selects RX0 yX0_get yX0_get]
def wsX4_itemAt_r2 : List Cond := [Cond.code yX0_get cX0_get 4 (some .int), Cond.fieldLink RX0 9 "CheckpointedStream$Channels" "items" "[I"]
def wsX4_itemAt : List Cond := .code yX4_itemAt cX4_itemAt 4 (some .int) :: ((wsX4_itemAt_r1 ++ wsX4_itemAt_r2) ++ wsX40 ++ wsX00 ++ (vx_atS RX4 185 "java/lang/IndexOutOfBoundsException" ["java/lang/RuntimeException", "java/lang/Exception"]).filter goodWord)
def wsX4_isBlocked : List Cond := .code yX4_isBlocked cX4_isBlocked 3 (some .boolean) :: ([.fieldLink RX4 26 "CheckpointedStream" "channels" "LCheckpointedStream$Channels;", .methodLink RX4 69 yX4_requirePartition, .static yX4_requirePartition, .initialized RX4, .code yX4_requirePartition cX4_requirePartition 1 none, .classLink RX4 181 "java/lang/IndexOutOfBoundsException", .initialized "java/lang/IndexOutOfBoundsException", .methodLink RX4 123 yX4_requireWorker, .instanceMethod yX4_requireWorker, .selects RX4 yX4_requireWorker yX4_requireWorker, .code yX4_requireWorker cX4_requireWorker 2 none, .fieldLink RX4 56 "CheckpointedStream" "workerCount" "I", .methodLink RX4 197 yX0_isShut, .instanceMethod yX0_isShut, .selects RX0 yX0_isShut yX0_isShut, .initialized RX0, .code yX0_isShut cX0_isShut 3 (some .boolean), .fieldLink RX0 18 "CheckpointedStream$Channels" "blocked" "[Z", .methodLink RX0 22 yX0_channelOf, .static yX0_channelOf, .code yX0_channelOf cX0_channelOf 2 (some .int)] ++ wsX40 ++ wsX00 ++ (vx_atS RX4 185 "java/lang/IndexOutOfBoundsException" ["java/lang/RuntimeException", "java/lang/Exception"]).filter goodWord)
def wsX4_workers : List Cond := .code yX4_workers cX4_workers 1 (some .int) :: ([.fieldLink RX4 56 "CheckpointedStream" "workerCount" "I"] ++ wsX40)
def wsX4_workerOf : List Cond := .code yX4_workerOf cX4_workerOf 2 (some .int) :: ([.methodLink RX4 73 yX4_requireKey, .static yX4_requireKey, .initialized RX4, .code yX4_requireKey cX4_requireKey 1 none, .classLink RX4 181 "java/lang/IndexOutOfBoundsException", .initialized "java/lang/IndexOutOfBoundsException", .methodLink RX4 200 yX4_ownerOfKey, .instanceMethod yX4_ownerOfKey, .selects RX4 yX4_ownerOfKey yX4_ownerOfKey, .code yX4_ownerOfKey cX4_ownerOfKey 2 (some .int), .fieldLink RX4 56 "CheckpointedStream" "workerCount" "I", .methodLink RX4 175 yX4_ownerOfGroup, .static yX4_ownerOfGroup, .code yX4_ownerOfGroup cX4_ownerOfGroup 2 (some .int)] ++ wsX40 ++ (vx_atS RX4 185 "java/lang/IndexOutOfBoundsException" ["java/lang/RuntimeException", "java/lang/Exception"]).filter goodWord)
def wsX4_groupsOf : List Cond := .code yX4_groupsOf cX4_groupsOf 5 (some .int) :: ([.fieldLink RX4 56 "CheckpointedStream" "workerCount" "I", .methodLink RX4 123 yX4_requireWorker, .instanceMethod yX4_requireWorker, .selects RX4 yX4_requireWorker yX4_requireWorker, .initialized RX4, .code yX4_requireWorker cX4_requireWorker 2 none, .classLink RX4 181 "java/lang/IndexOutOfBoundsException", .initialized "java/lang/IndexOutOfBoundsException", .methodLink RX4 175 yX4_ownerOfGroup, .static yX4_ownerOfGroup, .code yX4_ownerOfGroup cX4_ownerOfGroup 2 (some .int)] ++ wsX40 ++ (vx_atS RX4 185 "java/lang/IndexOutOfBoundsException" ["java/lang/RuntimeException", "java/lang/Exception"]).filter goodWord)
def wsX4_count : List Cond := .code yX4_count cX4_count 2 (some .int) :: ([.fieldLink RX4 33 "CheckpointedStream" "state" "LCheckpointedStream$Tally;", .fieldLink RX4 203 "CheckpointedStream$Tally" "counts" "[I", .methodLink RX4 73 yX4_requireKey, .static yX4_requireKey, .initialized RX4, .code yX4_requireKey cX4_requireKey 1 none, .classLink RX4 181 "java/lang/IndexOutOfBoundsException", .initialized "java/lang/IndexOutOfBoundsException"] ++ wsX40 ++ wsX30 ++ (vx_atS RX4 185 "java/lang/IndexOutOfBoundsException" ["java/lang/RuntimeException", "java/lang/Exception"]).filter goodWord)
def wsX4_sum : List Cond := .code yX4_sum cX4_sum 2 (some .int) :: ([.fieldLink RX4 33 "CheckpointedStream" "state" "LCheckpointedStream$Tally;", .fieldLink RX4 206 "CheckpointedStream$Tally" "sums" "[I", .methodLink RX4 73 yX4_requireKey, .static yX4_requireKey, .initialized RX4, .code yX4_requireKey cX4_requireKey 1 none, .classLink RX4 181 "java/lang/IndexOutOfBoundsException", .initialized "java/lang/IndexOutOfBoundsException"] ++ wsX40 ++ wsX30 ++ (vx_atS RX4 185 "java/lang/IndexOutOfBoundsException" ["java/lang/RuntimeException", "java/lang/Exception"]).filter goodWord)
def wsX4_open : List Cond := .code yX4_open cX4_open 4 (some .int) :: ([.fieldLink RX4 37 "CheckpointedStream" "openTallies" "LCheckpointedStream$Tally;", .fieldLink RX4 203 "CheckpointedStream$Tally" "counts" "[I", .methodLink RX4 123 yX4_requireWorker, .instanceMethod yX4_requireWorker, .selects RX4 yX4_requireWorker yX4_requireWorker, .initialized RX4, .code yX4_requireWorker cX4_requireWorker 2 none, .classLink RX4 181 "java/lang/IndexOutOfBoundsException", .initialized "java/lang/IndexOutOfBoundsException", .fieldLink RX4 56 "CheckpointedStream" "workerCount" "I", .methodLink RX4 200 yX4_ownerOfKey, .instanceMethod yX4_ownerOfKey, .selects RX4 yX4_ownerOfKey yX4_ownerOfKey, .code yX4_ownerOfKey cX4_ownerOfKey 2 (some .int), .methodLink RX4 175 yX4_ownerOfGroup, .static yX4_ownerOfGroup, .code yX4_ownerOfGroup cX4_ownerOfGroup 2 (some .int)] ++ wsX40 ++ wsX30 ++ (vx_atS RX4 185 "java/lang/IndexOutOfBoundsException" ["java/lang/RuntimeException", "java/lang/Exception"]).filter goodWord)
def wsX4_sealed : List Cond := .code yX4_sealed cX4_sealed 2 (some .int) :: ([.fieldLink RX4 52 "CheckpointedStream" "sealedFor" "[I", .methodLink RX4 123 yX4_requireWorker, .instanceMethod yX4_requireWorker, .selects RX4 yX4_requireWorker yX4_requireWorker, .initialized RX4, .code yX4_requireWorker cX4_requireWorker 2 none, .classLink RX4 181 "java/lang/IndexOutOfBoundsException", .initialized "java/lang/IndexOutOfBoundsException", .fieldLink RX4 56 "CheckpointedStream" "workerCount" "I"] ++ wsX40 ++ (vx_atS RX4 185 "java/lang/IndexOutOfBoundsException" ["java/lang/RuntimeException", "java/lang/Exception"]).filter goodWord)
def wsX4_underWay : List Cond := .code yX4_underWay cX4_underWay 1 (some .int) :: ([.fieldLink RX4 63 "CheckpointedStream" "numberUnderWay" "I"] ++ wsX40)
def wsX4_complete : List Cond := .code yX4_complete cX4_complete 1 (some .int) :: ([.fieldLink RX4 66 "CheckpointedStream" "latestComplete" "I"] ++ wsX40)
def wsX4_hasSent : List Cond := .code yX4_hasSent cX4_hasSent 2 (some .boolean) :: ([.fieldLink RX4 63 "CheckpointedStream" "numberUnderWay" "I", .fieldLink RX4 19 "CheckpointedStream" "readers" "LCheckpointedStream$Readers;", .fieldLink RX4 105 "CheckpointedStream$Readers" "sent" "[Z", .methodLink RX4 69 yX4_requirePartition, .static yX4_requirePartition, .initialized RX4, .code yX4_requirePartition cX4_requirePartition 1 none, .classLink RX4 181 "java/lang/IndexOutOfBoundsException", .initialized "java/lang/IndexOutOfBoundsException"] ++ wsX40 ++ wsX20 ++ (vx_atS RX4 185 "java/lang/IndexOutOfBoundsException" ["java/lang/RuntimeException", "java/lang/Exception"]).filter goodWord)
def wsX4_keptOffset : List Cond := .code yX4_keptOffset cX4_keptOffset 2 (some .int) :: ([.fieldLink RX4 19 "CheckpointedStream" "readers" "LCheckpointedStream$Readers;", .fieldLink RX4 209 "CheckpointedStream$Readers" "kept" "[I", .methodLink RX4 69 yX4_requirePartition, .static yX4_requirePartition, .initialized RX4, .code yX4_requirePartition cX4_requirePartition 1 none, .classLink RX4 181 "java/lang/IndexOutOfBoundsException", .initialized "java/lang/IndexOutOfBoundsException"] ++ wsX40 ++ wsX20 ++ (vx_atS RX4 185 "java/lang/IndexOutOfBoundsException" ["java/lang/RuntimeException", "java/lang/Exception"]).filter goodWord)
def wsX4_keptSum : List Cond := .code yX4_keptSum cX4_keptSum 2 (some .int) :: ([.fieldLink RX4 46 "CheckpointedStream" "kept" "LCheckpointedStream$Tally;", .fieldLink RX4 206 "CheckpointedStream$Tally" "sums" "[I", .methodLink RX4 73 yX4_requireKey, .static yX4_requireKey, .initialized RX4, .code yX4_requireKey cX4_requireKey 1 none, .classLink RX4 181 "java/lang/IndexOutOfBoundsException", .initialized "java/lang/IndexOutOfBoundsException"] ++ wsX40 ++ wsX30 ++ (vx_atS RX4 185 "java/lang/IndexOutOfBoundsException" ["java/lang/RuntimeException", "java/lang/Exception"]).filter goodWord)
def wsX4_committedCount : List Cond := .code yX4_committedCount cX4_committedCount 2 (some .int) :: ([.fieldLink RX4 49 "CheckpointedStream" "sink" "LCheckpointedStream$Tally;", .fieldLink RX4 203 "CheckpointedStream$Tally" "counts" "[I", .methodLink RX4 73 yX4_requireKey, .static yX4_requireKey, .initialized RX4, .code yX4_requireKey cX4_requireKey 1 none, .classLink RX4 181 "java/lang/IndexOutOfBoundsException", .initialized "java/lang/IndexOutOfBoundsException"] ++ wsX40 ++ wsX30 ++ (vx_atS RX4 185 "java/lang/IndexOutOfBoundsException" ["java/lang/RuntimeException", "java/lang/Exception"]).filter goodWord)
def wsX4_committedSum : List Cond := .code yX4_committedSum cX4_committedSum 2 (some .int) :: ([.fieldLink RX4 49 "CheckpointedStream" "sink" "LCheckpointedStream$Tally;", .fieldLink RX4 206 "CheckpointedStream$Tally" "sums" "[I", .methodLink RX4 73 yX4_requireKey, .static yX4_requireKey, .initialized RX4, .code yX4_requireKey cX4_requireKey 1 none, .classLink RX4 181 "java/lang/IndexOutOfBoundsException", .initialized "java/lang/IndexOutOfBoundsException"] ++ wsX40 ++ wsX30 ++ (vx_atS RX4 185 "java/lang/IndexOutOfBoundsException" ["java/lang/RuntimeException", "java/lang/Exception"]).filter goodWord)
def wsX4_committed : List Cond := .code yX4_committed cX4_committed 3 (some .int) :: ([.fieldLink RX4 49 "CheckpointedStream" "sink" "LCheckpointedStream$Tally;", .fieldLink RX4 203 "CheckpointedStream$Tally" "counts" "[I"] ++ wsX40 ++ wsX30)
def wsX4_readSum : List Cond := .code yX4_readSum cX4_readSum 4 (some .int) :: ([.fieldLink RX4 10 "CheckpointedStream" "rows" "LCheckpointedStream$EventRows;", .fieldLink RX4 19 "CheckpointedStream" "readers" "LCheckpointedStream$Readers;", .fieldLink RX4 178 "CheckpointedStream$Readers" "offsets" "[I", .methodLink RX4 73 yX4_requireKey, .static yX4_requireKey, .initialized RX4, .code yX4_requireKey cX4_requireKey 1 none, .classLink RX4 181 "java/lang/IndexOutOfBoundsException", .initialized "java/lang/IndexOutOfBoundsException", .methodLink RX4 211 yX1_sumAhead, .instanceMethod yX1_sumAhead, .selects RX1 yX1_sumAhead yX1_sumAhead, .initialized RX1, .code yX1_sumAhead cX1_sumAhead 7 (some .int), .methodLink RX1 18 yX1_get, .instanceMethod yX1_get, .selects RX1 yX1_get yX1_get, .code yX1_get cX1_get 3 (some .int), .fieldLink RX1 15 "CheckpointedStream$EventRows" "events" "[I", .static yX4_keyOf, .code yX4_keyOf cX4_keyOf 1 (some .int), .static yX4_valueOf, .code yX4_valueOf cX4_valueOf 1 (some .int)] ++ wsX40 ++ wsX20 ++ wsX10 ++ (vx_atS RX4 185 "java/lang/IndexOutOfBoundsException" ["java/lang/RuntimeException", "java/lang/Exception"]).filter goodWord)
def wsX4_sumInChannels : List Cond := .code yX4_sumInChannels cX4_sumInChannels 2 (some .int) :: ([.fieldLink RX4 26 "CheckpointedStream" "channels" "LCheckpointedStream$Channels;", .methodLink RX4 73 yX4_requireKey, .static yX4_requireKey, .initialized RX4, .code yX4_requireKey cX4_requireKey 1 none, .classLink RX4 181 "java/lang/IndexOutOfBoundsException", .initialized "java/lang/IndexOutOfBoundsException", .methodLink RX4 214 yX0_sumOfKey, .instanceMethod yX0_sumOfKey, .selects RX0 yX0_sumOfKey yX0_sumOfKey, .initialized RX0, .code yX0_sumOfKey cX0_sumOfKey 6 (some .int), .fieldLink RX0 15 "CheckpointedStream$Channels" "sizes" "[I", .fieldLink RX0 9 "CheckpointedStream$Channels" "items" "[I", .static yX4_keyOf, .code yX4_keyOf cX4_keyOf 1 (some .int), .static yX4_valueOf, .code yX4_valueOf cX4_valueOf 1 (some .int)] ++ wsX40 ++ wsX00 ++ (vx_atS RX4 185 "java/lang/IndexOutOfBoundsException" ["java/lang/RuntimeException", "java/lang/Exception"]).filter goodWord)
def wsX5_unseals : List Cond := .code yX5_unseals cX5_unseals 2 none :: ([.fieldLink RX5 51 "CheckpointedStreamModel" "sealedFor" "[I"] ++ wsX50)
def wsX5_init_r1 : List Cond := [Cond.methodLink RX5 1 objectInit, Cond.instanceMethod objectInit, Cond.code objectInit ⟨#[0xb1]⟩ 1 none, Cond.fieldLink RX5 7 "CheckpointedStreamModel" "workers" "I", Cond.arrayClass .int, Cond.fieldLink RX5 13 "CheckpointedStreamModel" "sizes" "[I", Cond.fieldLink RX5 17 "CheckpointedStreamModel" "offsets" "[I", Cond.fieldLink RX5 20 "CheckpointedStreamModel" "events" "[I", Cond.fieldLink RX5 23 "CheckpointedStreamModel" "items" "[I", Cond.fieldLink RX5 26 "CheckpointedStreamModel" "lengths" "[I", Cond.arrayClass .boolean, Cond.fieldLink RX5 29 "CheckpointedStreamModel" "areBlocked" "[Z", Cond.fieldLink RX5 33 "CheckpointedStreamModel" "counts" "[I", Cond.fieldLink RX5 36 "CheckpointedStreamModel" "sums" "[I", Cond.fieldLink RX5 39 "CheckpointedStreamModel" "openCounts" "[I", Cond.fieldLink RX5 42 "CheckpointedStreamModel" "openSums" "[I", Cond.fieldLink RX5 45 "CheckpointedStreamModel" "sealedCounts" "[I", Cond.fieldLink RX5 48 "CheckpointedStreamModel" "sealedSums" "[I", Cond.fieldLink RX5 51 "CheckpointedStreamModel" "sealedFor" "[I", Cond.fieldLink RX5 54 "CheckpointedStreamModel" "sinkCounts" "[I", Cond.fieldLink RX5 57 "CheckpointedStreamModel" "sinkSums" "[I", Cond.fieldLink RX5 60 "CheckpointedStreamModel" "underWay" "I", Cond.fieldLink RX5 63 "CheckpointedStreamModel" "complete" "I", Cond.fieldLink RX5 66 "CheckpointedStreamModel" "haveSent" "[Z"]
def wsX5_init_r2 : List Cond := [Cond.fieldLink RX5 69 "CheckpointedStreamModel" "nextOffsets" "[I", Cond.fieldLink RX5 72 "CheckpointedStreamModel" "nextCounts" "[I", Cond.fieldLink RX5 75 "CheckpointedStreamModel" "nextSums" "[I", Cond.fieldLink RX5 78 "CheckpointedStreamModel" "keptOffsets" "[I", Cond.fieldLink RX5 81 "CheckpointedStreamModel" "keptCounts" "[I", Cond.fieldLink RX5 84 "CheckpointedStreamModel" "keptSums" "[I", Cond.methodLink RX5 87 yX5_unseals, Cond.instanceMethod yX5_unseals, Cond.selects RX5 yX5_unseals yX5_unseals, Cond.initialized RX5, Cond.code yX5_unseals cX5_unseals 2 none]
def wsX5_init : List Cond := .code yX5_init cX5_init 1 none :: ((wsX5_init_r1 ++ wsX5_init_r2) ++ wsX50)
def wsX5_thrown : List Cond := .code yX5_thrown cX5_thrown 1 (some .int) :: ([.fieldLink RX5 90 "CheckpointedStreamModel" "thrown" "I"] ++ wsX50)
def wsX5_holds : List Cond := .code yX5_holds cX5_holds 2 (some .boolean) :: ([.fieldLink RX5 90 "CheckpointedStreamModel" "thrown" "I"] ++ wsX50)
def wsX5_in : List Cond := .code yX5_in cX5_in 3 (some .boolean) :: ([])
def wsX5_isPartition : List Cond := .code yX5_isPartition cX5_isPartition 1 (some .boolean) :: ([.methodLink RX5 93 yX5_in, .static yX5_in, .initialized RX5, .code yX5_in cX5_in 3 (some .boolean)])
def wsX5_isKey : List Cond := .code yX5_isKey cX5_isKey 1 (some .boolean) :: ([.methodLink RX5 93 yX5_in, .static yX5_in, .initialized RX5, .code yX5_in cX5_in 3 (some .boolean)])
def wsX5_isWorker : List Cond := .code yX5_isWorker cX5_isWorker 2 (some .boolean) :: ([.fieldLink RX5 7 "CheckpointedStreamModel" "workers" "I", .methodLink RX5 93 yX5_in, .static yX5_in, .initialized RX5, .code yX5_in cX5_in 3 (some .boolean)] ++ wsX50)
def wsX5_workerOfGroup : List Cond := .code yX5_workerOfGroup cX5_workerOfGroup 2 (some .int) :: ([])
def wsX5_workerOfKey : List Cond := .code yX5_workerOfKey cX5_workerOfKey 2 (some .int) :: ([.fieldLink RX5 7 "CheckpointedStreamModel" "workers" "I", .methodLink RX5 97 yX5_workerOfGroup, .static yX5_workerOfGroup, .initialized RX5, .code yX5_workerOfGroup cX5_workerOfGroup 2 (some .int)] ++ wsX50)
def wsX5_channel : List Cond := .code yX5_channel cX5_channel 2 (some .int) :: ([])
def wsX5_copies : List Cond := .code yX5_copies cX5_copies 3 none :: ([])
def wsX5_clears : List Cond := .code yX5_clears cX5_clears 2 none :: ([])
def wsX5_append : List Cond := .code yX5_append cX5_append 5 (some .int) :: ([.fieldLink RX5 13 "CheckpointedStreamModel" "sizes" "[I", .fieldLink RX5 20 "CheckpointedStreamModel" "events" "[I", .methodLink RX5 101 yX5_isPartition, .static yX5_isPartition, .initialized RX5, .code yX5_isPartition cX5_isPartition 1 (some .boolean), .methodLink RX5 93 yX5_in, .static yX5_in, .code yX5_in cX5_in 3 (some .boolean), .methodLink RX5 105 yX5_isKey, .static yX5_isKey, .code yX5_isKey cX5_isKey 1 (some .boolean), .methodLink RX5 108 yX5_holds, .instanceMethod yX5_holds, .selects RX5 yX5_holds yX5_holds, .code yX5_holds cX5_holds 2 (some .boolean), .fieldLink RX5 90 "CheckpointedStreamModel" "thrown" "I"] ++ wsX50)
def wsX5_puts : List Cond := .code yX5_puts cX5_puts 3 none :: ([.fieldLink RX5 23 "CheckpointedStreamModel" "items" "[I", .fieldLink RX5 26 "CheckpointedStreamModel" "lengths" "[I"] ++ wsX50)
def wsX5_nextEvent : List Cond := .code yX5_nextEvent cX5_nextEvent 2 (some .int) :: ([.fieldLink RX5 20 "CheckpointedStreamModel" "events" "[I", .fieldLink RX5 17 "CheckpointedStreamModel" "offsets" "[I"] ++ wsX50)
def wsX5_canRead : List Cond := .code yX5_canRead cX5_canRead 2 (some .boolean) :: ([.fieldLink RX5 17 "CheckpointedStreamModel" "offsets" "[I", .fieldLink RX5 13 "CheckpointedStreamModel" "sizes" "[I", .fieldLink RX5 26 "CheckpointedStreamModel" "lengths" "[I", .methodLink RX5 111 yX5_nextEvent, .instanceMethod yX5_nextEvent, .selects RX5 yX5_nextEvent yX5_nextEvent, .initialized RX5, .code yX5_nextEvent cX5_nextEvent 2 (some .int), .fieldLink RX5 20 "CheckpointedStreamModel" "events" "[I", .methodLink RX5 115 yX5_workerOfKey, .instanceMethod yX5_workerOfKey, .selects RX5 yX5_workerOfKey yX5_workerOfKey, .code yX5_workerOfKey cX5_workerOfKey 2 (some .int), .fieldLink RX5 7 "CheckpointedStreamModel" "workers" "I", .methodLink RX5 97 yX5_workerOfGroup, .static yX5_workerOfGroup, .code yX5_workerOfGroup cX5_workerOfGroup 2 (some .int), .methodLink RX5 118 yX5_channel, .static yX5_channel, .code yX5_channel cX5_channel 2 (some .int)] ++ wsX50)
def wsX5_reads : List Cond := .code yX5_reads cX5_reads 4 (some .int) :: ([.fieldLink RX5 17 "CheckpointedStreamModel" "offsets" "[I", .methodLink RX5 111 yX5_nextEvent, .instanceMethod yX5_nextEvent, .selects RX5 yX5_nextEvent yX5_nextEvent, .initialized RX5, .code yX5_nextEvent cX5_nextEvent 2 (some .int), .fieldLink RX5 20 "CheckpointedStreamModel" "events" "[I", .methodLink RX5 115 yX5_workerOfKey, .instanceMethod yX5_workerOfKey, .selects RX5 yX5_workerOfKey yX5_workerOfKey, .code yX5_workerOfKey cX5_workerOfKey 2 (some .int), .fieldLink RX5 7 "CheckpointedStreamModel" "workers" "I", .methodLink RX5 97 yX5_workerOfGroup, .static yX5_workerOfGroup, .code yX5_workerOfGroup cX5_workerOfGroup 2 (some .int), .methodLink RX5 118 yX5_channel, .static yX5_channel, .code yX5_channel cX5_channel 2 (some .int), .methodLink RX5 121 yX5_puts, .instanceMethod yX5_puts, .selects RX5 yX5_puts yX5_puts, .code yX5_puts cX5_puts 3 none, .fieldLink RX5 23 "CheckpointedStreamModel" "items" "[I", .fieldLink RX5 26 "CheckpointedStreamModel" "lengths" "[I"] ++ wsX50)
def wsX5_read_r1 : List Cond := [Cond.methodLink RX5 101 yX5_isPartition, Cond.static yX5_isPartition, Cond.initialized RX5, Cond.code yX5_isPartition cX5_isPartition 1 (some .boolean), Cond.methodLink RX5 93 yX5_in, Cond.static yX5_in, Cond.code yX5_in cX5_in 3 (some .boolean), Cond.methodLink RX5 125 yX5_canRead, Cond.instanceMethod yX5_canRead, Cond.selects RX5 yX5_canRead yX5_canRead, Cond.code yX5_canRead cX5_canRead 2 (some .boolean), Cond.fieldLink RX5 17 "CheckpointedStreamModel" "offsets" "[I", Cond.fieldLink RX5 13 "CheckpointedStreamModel" "sizes" "[I", Cond.fieldLink RX5 26 "CheckpointedStreamModel" "lengths" "[I", Cond.methodLink RX5 111 yX5_nextEvent, Cond.instanceMethod yX5_nextEvent, Cond.selects RX5 yX5_nextEvent yX5_nextEvent, Cond.code yX5_nextEvent cX5_nextEvent 2 (some .int), Cond.fieldLink RX5 20 "CheckpointedStreamModel" "events" "[I", Cond.methodLink RX5 115 yX5_workerOfKey, Cond.instanceMethod yX5_workerOfKey, Cond.selects RX5 yX5_workerOfKey yX5_workerOfKey, Cond.code yX5_workerOfKey cX5_workerOfKey 2 (some .int), Cond.fieldLink RX5 7 "CheckpointedStreamModel" "workers" "I"]
def wsX5_read_r2 : List Cond := [Cond.methodLink RX5 97 yX5_workerOfGroup, Cond.static yX5_workerOfGroup, Cond.code yX5_workerOfGroup cX5_workerOfGroup 2 (some .int), Cond.methodLink RX5 118 yX5_channel, Cond.static yX5_channel, Cond.code yX5_channel cX5_channel 2 (some .int), Cond.methodLink RX5 108 yX5_holds, Cond.instanceMethod yX5_holds, Cond.selects RX5 yX5_holds yX5_holds, Cond.code yX5_holds cX5_holds 2 (some .boolean), Cond.fieldLink RX5 90 "CheckpointedStreamModel" "thrown" "I", Cond.methodLink RX5 128 yX5_reads, Cond.instanceMethod yX5_reads, Cond.selects RX5 yX5_reads yX5_reads, Cond.code yX5_reads cX5_reads 4 (some .int), Cond.methodLink RX5 121 yX5_puts, Cond.instanceMethod yX5_puts, Cond.selects RX5 yX5_puts yX5_puts, Cond.code yX5_puts cX5_puts 3 none, Cond.fieldLink RX5 23 "CheckpointedStreamModel" "items" "[I"]
def wsX5_read : List Cond := .code yX5_read cX5_read 2 (some .int) :: ((wsX5_read_r1 ++ wsX5_read_r2) ++ wsX50)
def wsX5_canSend : List Cond := .code yX5_canSend cX5_canSend 4 (some .boolean) :: ([.fieldLink RX5 60 "CheckpointedStreamModel" "underWay" "I", .fieldLink RX5 66 "CheckpointedStreamModel" "haveSent" "[Z", .fieldLink RX5 7 "CheckpointedStreamModel" "workers" "I", .fieldLink RX5 26 "CheckpointedStreamModel" "lengths" "[I", .methodLink RX5 118 yX5_channel, .static yX5_channel, .initialized RX5, .code yX5_channel cX5_channel 2 (some .int)] ++ wsX50)
def wsX5_sendBarrier_r1 : List Cond := [Cond.fieldLink RX5 66 "CheckpointedStreamModel" "haveSent" "[Z", Cond.fieldLink RX5 69 "CheckpointedStreamModel" "nextOffsets" "[I", Cond.fieldLink RX5 17 "CheckpointedStreamModel" "offsets" "[I", Cond.fieldLink RX5 7 "CheckpointedStreamModel" "workers" "I", Cond.fieldLink RX5 60 "CheckpointedStreamModel" "underWay" "I", Cond.methodLink RX5 101 yX5_isPartition, Cond.static yX5_isPartition, Cond.initialized RX5, Cond.code yX5_isPartition cX5_isPartition 1 (some .boolean), Cond.methodLink RX5 93 yX5_in, Cond.static yX5_in, Cond.code yX5_in cX5_in 3 (some .boolean), Cond.methodLink RX5 131 yX5_canSend, Cond.instanceMethod yX5_canSend, Cond.selects RX5 yX5_canSend yX5_canSend, Cond.code yX5_canSend cX5_canSend 4 (some .boolean), Cond.fieldLink RX5 26 "CheckpointedStreamModel" "lengths" "[I", Cond.methodLink RX5 118 yX5_channel, Cond.static yX5_channel, Cond.code yX5_channel cX5_channel 2 (some .int), Cond.methodLink RX5 108 yX5_holds, Cond.instanceMethod yX5_holds, Cond.selects RX5 yX5_holds yX5_holds, Cond.code yX5_holds cX5_holds 2 (some .boolean)]
def wsX5_sendBarrier_r2 : List Cond := [Cond.fieldLink RX5 90 "CheckpointedStreamModel" "thrown" "I", Cond.methodLink RX5 121 yX5_puts, Cond.instanceMethod yX5_puts, Cond.selects RX5 yX5_puts yX5_puts, Cond.code yX5_puts cX5_puts 3 none, Cond.fieldLink RX5 23 "CheckpointedStreamModel" "items" "[I"]
def wsX5_sendBarrier : List Cond := .code yX5_sendBarrier cX5_sendBarrier 3 (some .int) :: ((wsX5_sendBarrier_r1 ++ wsX5_sendBarrier_r2) ++ wsX50)
def wsX5_canTake : List Cond := .code yX5_canTake cX5_canTake 3 (some .boolean) :: ([.fieldLink RX5 26 "CheckpointedStreamModel" "lengths" "[I", .fieldLink RX5 29 "CheckpointedStreamModel" "areBlocked" "[Z", .methodLink RX5 118 yX5_channel, .static yX5_channel, .initialized RX5, .code yX5_channel cX5_channel 2 (some .int)] ++ wsX50)
def wsX5_completes : List Cond := .code yX5_completes cX5_completes 2 none :: ([.fieldLink RX5 7 "CheckpointedStreamModel" "workers" "I", .fieldLink RX5 51 "CheckpointedStreamModel" "sealedFor" "[I", .fieldLink RX5 60 "CheckpointedStreamModel" "underWay" "I", .fieldLink RX5 63 "CheckpointedStreamModel" "complete" "I", .fieldLink RX5 69 "CheckpointedStreamModel" "nextOffsets" "[I", .fieldLink RX5 78 "CheckpointedStreamModel" "keptOffsets" "[I", .fieldLink RX5 72 "CheckpointedStreamModel" "nextCounts" "[I", .fieldLink RX5 81 "CheckpointedStreamModel" "keptCounts" "[I", .fieldLink RX5 75 "CheckpointedStreamModel" "nextSums" "[I", .fieldLink RX5 84 "CheckpointedStreamModel" "keptSums" "[I", .methodLink RX5 141 yX5_copies, .static yX5_copies, .initialized RX5, .code yX5_copies cX5_copies 3 none] ++ wsX50)
def wsX5_aligns_r1 : List Cond := [Cond.fieldLink RX5 29 "CheckpointedStreamModel" "areBlocked" "[Z", Cond.fieldLink RX5 72 "CheckpointedStreamModel" "nextCounts" "[I", Cond.fieldLink RX5 33 "CheckpointedStreamModel" "counts" "[I", Cond.fieldLink RX5 75 "CheckpointedStreamModel" "nextSums" "[I", Cond.fieldLink RX5 36 "CheckpointedStreamModel" "sums" "[I", Cond.fieldLink RX5 45 "CheckpointedStreamModel" "sealedCounts" "[I", Cond.fieldLink RX5 39 "CheckpointedStreamModel" "openCounts" "[I", Cond.fieldLink RX5 48 "CheckpointedStreamModel" "sealedSums" "[I", Cond.fieldLink RX5 42 "CheckpointedStreamModel" "openSums" "[I", Cond.fieldLink RX5 51 "CheckpointedStreamModel" "sealedFor" "[I", Cond.fieldLink RX5 60 "CheckpointedStreamModel" "underWay" "I", Cond.methodLink RX5 118 yX5_channel, Cond.static yX5_channel, Cond.initialized RX5, Cond.code yX5_channel cX5_channel 2 (some .int), Cond.methodLink RX5 115 yX5_workerOfKey, Cond.instanceMethod yX5_workerOfKey, Cond.selects RX5 yX5_workerOfKey yX5_workerOfKey, Cond.code yX5_workerOfKey cX5_workerOfKey 2 (some .int), Cond.fieldLink RX5 7 "CheckpointedStreamModel" "workers" "I", Cond.methodLink RX5 97 yX5_workerOfGroup, Cond.static yX5_workerOfGroup, Cond.code yX5_workerOfGroup cX5_workerOfGroup 2 (some .int), Cond.methodLink RX5 138 yX5_completes]
def wsX5_aligns_r2 : List Cond := [Cond.instanceMethod yX5_completes, Cond.selects RX5 yX5_completes yX5_completes, Cond.code yX5_completes cX5_completes 2 none, Cond.fieldLink RX5 63 "CheckpointedStreamModel" "complete" "I", Cond.fieldLink RX5 69 "CheckpointedStreamModel" "nextOffsets" "[I", Cond.fieldLink RX5 78 "CheckpointedStreamModel" "keptOffsets" "[I", Cond.fieldLink RX5 81 "CheckpointedStreamModel" "keptCounts" "[I", Cond.fieldLink RX5 84 "CheckpointedStreamModel" "keptSums" "[I", Cond.methodLink RX5 141 yX5_copies, Cond.static yX5_copies, Cond.code yX5_copies cX5_copies 3 none]
def wsX5_aligns : List Cond := .code yX5_aligns cX5_aligns 3 none :: ((wsX5_aligns_r1 ++ wsX5_aligns_r2) ++ wsX50)
def wsX5_takes_r1 : List Cond := [Cond.fieldLink RX5 23 "CheckpointedStreamModel" "items" "[I", Cond.fieldLink RX5 26 "CheckpointedStreamModel" "lengths" "[I", Cond.fieldLink RX5 33 "CheckpointedStreamModel" "counts" "[I", Cond.fieldLink RX5 39 "CheckpointedStreamModel" "openCounts" "[I", Cond.fieldLink RX5 36 "CheckpointedStreamModel" "sums" "[I", Cond.fieldLink RX5 42 "CheckpointedStreamModel" "openSums" "[I", Cond.fieldLink RX5 60 "CheckpointedStreamModel" "underWay" "I", Cond.fieldLink RX5 29 "CheckpointedStreamModel" "areBlocked" "[Z", Cond.methodLink RX5 118 yX5_channel, Cond.static yX5_channel, Cond.initialized RX5, Cond.code yX5_channel cX5_channel 2 (some .int), Cond.methodLink RX5 134 yX5_aligns, Cond.instanceMethod yX5_aligns, Cond.selects RX5 yX5_aligns yX5_aligns, Cond.code yX5_aligns cX5_aligns 3 none, Cond.fieldLink RX5 72 "CheckpointedStreamModel" "nextCounts" "[I", Cond.fieldLink RX5 75 "CheckpointedStreamModel" "nextSums" "[I", Cond.fieldLink RX5 45 "CheckpointedStreamModel" "sealedCounts" "[I", Cond.fieldLink RX5 48 "CheckpointedStreamModel" "sealedSums" "[I", Cond.fieldLink RX5 51 "CheckpointedStreamModel" "sealedFor" "[I", Cond.methodLink RX5 115 yX5_workerOfKey, Cond.instanceMethod yX5_workerOfKey, Cond.selects RX5 yX5_workerOfKey yX5_workerOfKey]
def wsX5_takes_r2 : List Cond := [Cond.code yX5_workerOfKey cX5_workerOfKey 2 (some .int), Cond.fieldLink RX5 7 "CheckpointedStreamModel" "workers" "I", Cond.methodLink RX5 97 yX5_workerOfGroup, Cond.static yX5_workerOfGroup, Cond.code yX5_workerOfGroup cX5_workerOfGroup 2 (some .int), Cond.methodLink RX5 138 yX5_completes, Cond.instanceMethod yX5_completes, Cond.selects RX5 yX5_completes yX5_completes, Cond.code yX5_completes cX5_completes 2 none, Cond.fieldLink RX5 63 "CheckpointedStreamModel" "complete" "I", Cond.fieldLink RX5 69 "CheckpointedStreamModel" "nextOffsets" "[I", Cond.fieldLink RX5 78 "CheckpointedStreamModel" "keptOffsets" "[I", Cond.fieldLink RX5 81 "CheckpointedStreamModel" "keptCounts" "[I", Cond.fieldLink RX5 84 "CheckpointedStreamModel" "keptSums" "[I", Cond.methodLink RX5 141 yX5_copies, Cond.static yX5_copies, Cond.code yX5_copies cX5_copies 3 none]
def wsX5_takes : List Cond := .code yX5_takes cX5_takes 6 (some .int) :: ((wsX5_takes_r1 ++ wsX5_takes_r2) ++ wsX50)
def wsX5_take_r1 : List Cond := [Cond.methodLink RX5 145 yX5_isWorker, Cond.instanceMethod yX5_isWorker, Cond.selects RX5 yX5_isWorker yX5_isWorker, Cond.initialized RX5, Cond.code yX5_isWorker cX5_isWorker 2 (some .boolean), Cond.fieldLink RX5 7 "CheckpointedStreamModel" "workers" "I", Cond.methodLink RX5 93 yX5_in, Cond.static yX5_in, Cond.code yX5_in cX5_in 3 (some .boolean), Cond.methodLink RX5 101 yX5_isPartition, Cond.static yX5_isPartition, Cond.code yX5_isPartition cX5_isPartition 1 (some .boolean), Cond.methodLink RX5 148 yX5_canTake, Cond.instanceMethod yX5_canTake, Cond.selects RX5 yX5_canTake yX5_canTake, Cond.code yX5_canTake cX5_canTake 3 (some .boolean), Cond.fieldLink RX5 26 "CheckpointedStreamModel" "lengths" "[I", Cond.fieldLink RX5 29 "CheckpointedStreamModel" "areBlocked" "[Z", Cond.methodLink RX5 118 yX5_channel, Cond.static yX5_channel, Cond.code yX5_channel cX5_channel 2 (some .int), Cond.methodLink RX5 108 yX5_holds, Cond.instanceMethod yX5_holds, Cond.selects RX5 yX5_holds yX5_holds]
def wsX5_take_r2 : List Cond := [Cond.code yX5_holds cX5_holds 2 (some .boolean), Cond.fieldLink RX5 90 "CheckpointedStreamModel" "thrown" "I", Cond.methodLink RX5 152 yX5_takes, Cond.instanceMethod yX5_takes, Cond.selects RX5 yX5_takes yX5_takes, Cond.code yX5_takes cX5_takes 6 (some .int), Cond.fieldLink RX5 23 "CheckpointedStreamModel" "items" "[I", Cond.fieldLink RX5 33 "CheckpointedStreamModel" "counts" "[I", Cond.fieldLink RX5 39 "CheckpointedStreamModel" "openCounts" "[I", Cond.fieldLink RX5 36 "CheckpointedStreamModel" "sums" "[I", Cond.fieldLink RX5 42 "CheckpointedStreamModel" "openSums" "[I", Cond.fieldLink RX5 60 "CheckpointedStreamModel" "underWay" "I", Cond.methodLink RX5 134 yX5_aligns, Cond.instanceMethod yX5_aligns, Cond.selects RX5 yX5_aligns yX5_aligns, Cond.code yX5_aligns cX5_aligns 3 none, Cond.fieldLink RX5 72 "CheckpointedStreamModel" "nextCounts" "[I", Cond.fieldLink RX5 75 "CheckpointedStreamModel" "nextSums" "[I", Cond.fieldLink RX5 45 "CheckpointedStreamModel" "sealedCounts" "[I", Cond.fieldLink RX5 48 "CheckpointedStreamModel" "sealedSums" "[I", Cond.fieldLink RX5 51 "CheckpointedStreamModel" "sealedFor" "[I", Cond.methodLink RX5 115 yX5_workerOfKey, Cond.instanceMethod yX5_workerOfKey, Cond.selects RX5 yX5_workerOfKey yX5_workerOfKey]
def wsX5_take_r3 : List Cond := [Cond.code yX5_workerOfKey cX5_workerOfKey 2 (some .int), Cond.methodLink RX5 97 yX5_workerOfGroup, Cond.static yX5_workerOfGroup, Cond.code yX5_workerOfGroup cX5_workerOfGroup 2 (some .int), Cond.methodLink RX5 138 yX5_completes, Cond.instanceMethod yX5_completes, Cond.selects RX5 yX5_completes yX5_completes, Cond.code yX5_completes cX5_completes 2 none, Cond.fieldLink RX5 63 "CheckpointedStreamModel" "complete" "I", Cond.fieldLink RX5 69 "CheckpointedStreamModel" "nextOffsets" "[I", Cond.fieldLink RX5 78 "CheckpointedStreamModel" "keptOffsets" "[I", Cond.fieldLink RX5 81 "CheckpointedStreamModel" "keptCounts" "[I", Cond.fieldLink RX5 84 "CheckpointedStreamModel" "keptSums" "[I", Cond.methodLink RX5 141 yX5_copies, Cond.static yX5_copies, Cond.code yX5_copies cX5_copies 3 none]
def wsX5_take : List Cond := .code yX5_take cX5_take 3 (some .int) :: ((wsX5_take_r1 ++ (wsX5_take_r2 ++ wsX5_take_r3)) ++ wsX50)
def wsX5_pump_r1 : List Cond := [Cond.fieldLink RX5 7 "CheckpointedStreamModel" "workers" "I", Cond.methodLink RX5 93 yX5_in, Cond.static yX5_in, Cond.initialized RX5, Cond.code yX5_in cX5_in 3 (some .boolean), Cond.methodLink RX5 108 yX5_holds, Cond.instanceMethod yX5_holds, Cond.selects RX5 yX5_holds yX5_holds, Cond.code yX5_holds cX5_holds 2 (some .boolean), Cond.fieldLink RX5 90 "CheckpointedStreamModel" "thrown" "I", Cond.methodLink RX5 125 yX5_canRead, Cond.instanceMethod yX5_canRead, Cond.selects RX5 yX5_canRead yX5_canRead, Cond.code yX5_canRead cX5_canRead 2 (some .boolean), Cond.fieldLink RX5 17 "CheckpointedStreamModel" "offsets" "[I", Cond.fieldLink RX5 13 "CheckpointedStreamModel" "sizes" "[I", Cond.fieldLink RX5 26 "CheckpointedStreamModel" "lengths" "[I", Cond.methodLink RX5 111 yX5_nextEvent, Cond.instanceMethod yX5_nextEvent, Cond.selects RX5 yX5_nextEvent yX5_nextEvent, Cond.code yX5_nextEvent cX5_nextEvent 2 (some .int), Cond.fieldLink RX5 20 "CheckpointedStreamModel" "events" "[I", Cond.methodLink RX5 115 yX5_workerOfKey, Cond.instanceMethod yX5_workerOfKey]
def wsX5_pump_r2 : List Cond := [Cond.selects RX5 yX5_workerOfKey yX5_workerOfKey, Cond.code yX5_workerOfKey cX5_workerOfKey 2 (some .int), Cond.methodLink RX5 97 yX5_workerOfGroup, Cond.static yX5_workerOfGroup, Cond.code yX5_workerOfGroup cX5_workerOfGroup 2 (some .int), Cond.methodLink RX5 118 yX5_channel, Cond.static yX5_channel, Cond.code yX5_channel cX5_channel 2 (some .int), Cond.methodLink RX5 128 yX5_reads, Cond.instanceMethod yX5_reads, Cond.selects RX5 yX5_reads yX5_reads, Cond.code yX5_reads cX5_reads 4 (some .int), Cond.methodLink RX5 121 yX5_puts, Cond.instanceMethod yX5_puts, Cond.selects RX5 yX5_puts yX5_puts, Cond.code yX5_puts cX5_puts 3 none, Cond.fieldLink RX5 23 "CheckpointedStreamModel" "items" "[I", Cond.methodLink RX5 148 yX5_canTake, Cond.instanceMethod yX5_canTake, Cond.selects RX5 yX5_canTake yX5_canTake, Cond.code yX5_canTake cX5_canTake 3 (some .boolean), Cond.fieldLink RX5 29 "CheckpointedStreamModel" "areBlocked" "[Z", Cond.methodLink RX5 152 yX5_takes, Cond.instanceMethod yX5_takes]
def wsX5_pump_r3 : List Cond := [Cond.selects RX5 yX5_takes yX5_takes, Cond.code yX5_takes cX5_takes 6 (some .int), Cond.fieldLink RX5 33 "CheckpointedStreamModel" "counts" "[I", Cond.fieldLink RX5 39 "CheckpointedStreamModel" "openCounts" "[I", Cond.fieldLink RX5 36 "CheckpointedStreamModel" "sums" "[I", Cond.fieldLink RX5 42 "CheckpointedStreamModel" "openSums" "[I", Cond.fieldLink RX5 60 "CheckpointedStreamModel" "underWay" "I", Cond.methodLink RX5 134 yX5_aligns, Cond.instanceMethod yX5_aligns, Cond.selects RX5 yX5_aligns yX5_aligns, Cond.code yX5_aligns cX5_aligns 3 none, Cond.fieldLink RX5 72 "CheckpointedStreamModel" "nextCounts" "[I", Cond.fieldLink RX5 75 "CheckpointedStreamModel" "nextSums" "[I", Cond.fieldLink RX5 45 "CheckpointedStreamModel" "sealedCounts" "[I", Cond.fieldLink RX5 48 "CheckpointedStreamModel" "sealedSums" "[I", Cond.fieldLink RX5 51 "CheckpointedStreamModel" "sealedFor" "[I", Cond.methodLink RX5 138 yX5_completes, Cond.instanceMethod yX5_completes, Cond.selects RX5 yX5_completes yX5_completes, Cond.code yX5_completes cX5_completes 2 none, Cond.fieldLink RX5 63 "CheckpointedStreamModel" "complete" "I", Cond.fieldLink RX5 69 "CheckpointedStreamModel" "nextOffsets" "[I", Cond.fieldLink RX5 78 "CheckpointedStreamModel" "keptOffsets" "[I", Cond.fieldLink RX5 81 "CheckpointedStreamModel" "keptCounts" "[I"]
def wsX5_pump_r4 : List Cond := [Cond.fieldLink RX5 84 "CheckpointedStreamModel" "keptSums" "[I", Cond.methodLink RX5 141 yX5_copies, Cond.static yX5_copies, Cond.code yX5_copies cX5_copies 3 none]
def wsX5_pump : List Cond := .code yX5_pump cX5_pump 6 (some .int) :: ((wsX5_pump_r1 ++ (wsX5_pump_r2 ++ (wsX5_pump_r3 ++ wsX5_pump_r4))) ++ wsX50)
def wsX5_commits : List Cond := .code yX5_commits cX5_commits 4 (some .int) :: ([.fieldLink RX5 45 "CheckpointedStreamModel" "sealedCounts" "[I", .fieldLink RX5 54 "CheckpointedStreamModel" "sinkCounts" "[I", .fieldLink RX5 57 "CheckpointedStreamModel" "sinkSums" "[I", .fieldLink RX5 48 "CheckpointedStreamModel" "sealedSums" "[I", .fieldLink RX5 51 "CheckpointedStreamModel" "sealedFor" "[I", .methodLink RX5 115 yX5_workerOfKey, .instanceMethod yX5_workerOfKey, .selects RX5 yX5_workerOfKey yX5_workerOfKey, .initialized RX5, .code yX5_workerOfKey cX5_workerOfKey 2 (some .int), .fieldLink RX5 7 "CheckpointedStreamModel" "workers" "I", .methodLink RX5 97 yX5_workerOfGroup, .static yX5_workerOfGroup, .code yX5_workerOfGroup cX5_workerOfGroup 2 (some .int)] ++ wsX50)
def wsX5_mayCommit : List Cond := .code yX5_mayCommit cX5_mayCommit 2 (some .boolean) :: ([.fieldLink RX5 51 "CheckpointedStreamModel" "sealedFor" "[I", .fieldLink RX5 60 "CheckpointedStreamModel" "underWay" "I"] ++ wsX50)
def wsX5_commit_r1 : List Cond := [Cond.methodLink RX5 145 yX5_isWorker, Cond.instanceMethod yX5_isWorker, Cond.selects RX5 yX5_isWorker yX5_isWorker, Cond.initialized RX5, Cond.code yX5_isWorker cX5_isWorker 2 (some .boolean), Cond.fieldLink RX5 7 "CheckpointedStreamModel" "workers" "I", Cond.methodLink RX5 93 yX5_in, Cond.static yX5_in, Cond.code yX5_in cX5_in 3 (some .boolean), Cond.methodLink RX5 155 yX5_mayCommit, Cond.instanceMethod yX5_mayCommit, Cond.selects RX5 yX5_mayCommit yX5_mayCommit, Cond.code yX5_mayCommit cX5_mayCommit 2 (some .boolean), Cond.fieldLink RX5 51 "CheckpointedStreamModel" "sealedFor" "[I", Cond.fieldLink RX5 60 "CheckpointedStreamModel" "underWay" "I", Cond.methodLink RX5 108 yX5_holds, Cond.instanceMethod yX5_holds, Cond.selects RX5 yX5_holds yX5_holds, Cond.code yX5_holds cX5_holds 2 (some .boolean), Cond.fieldLink RX5 90 "CheckpointedStreamModel" "thrown" "I", Cond.methodLink RX5 158 yX5_commits, Cond.instanceMethod yX5_commits, Cond.selects RX5 yX5_commits yX5_commits, Cond.code yX5_commits cX5_commits 4 (some .int)]
def wsX5_commit_r2 : List Cond := [Cond.fieldLink RX5 45 "CheckpointedStreamModel" "sealedCounts" "[I", Cond.fieldLink RX5 54 "CheckpointedStreamModel" "sinkCounts" "[I", Cond.fieldLink RX5 57 "CheckpointedStreamModel" "sinkSums" "[I", Cond.fieldLink RX5 48 "CheckpointedStreamModel" "sealedSums" "[I", Cond.methodLink RX5 115 yX5_workerOfKey, Cond.instanceMethod yX5_workerOfKey, Cond.selects RX5 yX5_workerOfKey yX5_workerOfKey, Cond.code yX5_workerOfKey cX5_workerOfKey 2 (some .int), Cond.methodLink RX5 97 yX5_workerOfGroup, Cond.static yX5_workerOfGroup, Cond.code yX5_workerOfGroup cX5_workerOfGroup 2 (some .int)]
def wsX5_commit : List Cond := .code yX5_commit cX5_commit 2 (some .int) :: ((wsX5_commit_r1 ++ wsX5_commit_r2) ++ wsX50)
def wsX5_isAnySealed : List Cond := .code yX5_isAnySealed cX5_isAnySealed 1 (some .boolean) :: ([.fieldLink RX5 51 "CheckpointedStreamModel" "sealedFor" "[I"] ++ wsX50)
def wsX5_lifts : List Cond := .code yX5_lifts cX5_lifts 2 none :: ([.fieldLink RX5 29 "CheckpointedStreamModel" "areBlocked" "[Z", .fieldLink RX5 66 "CheckpointedStreamModel" "haveSent" "[Z"] ++ wsX50)
def wsX5_beginCheckpoint : List Cond := .code yX5_beginCheckpoint cX5_beginCheckpoint 1 (some .int) :: ([.fieldLink RX5 60 "CheckpointedStreamModel" "underWay" "I", .fieldLink RX5 165 "CheckpointedStreamModel" "begun" "I", .methodLink RX5 161 yX5_isAnySealed, .instanceMethod yX5_isAnySealed, .selects RX5 yX5_isAnySealed yX5_isAnySealed, .initialized RX5, .code yX5_isAnySealed cX5_isAnySealed 1 (some .boolean), .fieldLink RX5 51 "CheckpointedStreamModel" "sealedFor" "[I", .methodLink RX5 108 yX5_holds, .instanceMethod yX5_holds, .selects RX5 yX5_holds yX5_holds, .code yX5_holds cX5_holds 2 (some .boolean), .fieldLink RX5 90 "CheckpointedStreamModel" "thrown" "I", .methodLink RX5 168 yX5_lifts, .instanceMethod yX5_lifts, .selects RX5 yX5_lifts yX5_lifts, .code yX5_lifts cX5_lifts 2 none, .fieldLink RX5 29 "CheckpointedStreamModel" "areBlocked" "[Z", .fieldLink RX5 66 "CheckpointedStreamModel" "haveSent" "[Z"] ++ wsX50)
def wsX5_abandon_r1 : List Cond := [Cond.fieldLink RX5 60 "CheckpointedStreamModel" "underWay" "I", Cond.fieldLink RX5 51 "CheckpointedStreamModel" "sealedFor" "[I", Cond.fieldLink RX5 39 "CheckpointedStreamModel" "openCounts" "[I", Cond.fieldLink RX5 45 "CheckpointedStreamModel" "sealedCounts" "[I", Cond.fieldLink RX5 42 "CheckpointedStreamModel" "openSums" "[I", Cond.fieldLink RX5 48 "CheckpointedStreamModel" "sealedSums" "[I", Cond.methodLink RX5 108 yX5_holds, Cond.instanceMethod yX5_holds, Cond.selects RX5 yX5_holds yX5_holds, Cond.initialized RX5, Cond.code yX5_holds cX5_holds 2 (some .boolean), Cond.fieldLink RX5 90 "CheckpointedStreamModel" "thrown" "I", Cond.methodLink RX5 115 yX5_workerOfKey, Cond.instanceMethod yX5_workerOfKey, Cond.selects RX5 yX5_workerOfKey yX5_workerOfKey, Cond.code yX5_workerOfKey cX5_workerOfKey 2 (some .int), Cond.fieldLink RX5 7 "CheckpointedStreamModel" "workers" "I", Cond.methodLink RX5 97 yX5_workerOfGroup, Cond.static yX5_workerOfGroup, Cond.code yX5_workerOfGroup cX5_workerOfGroup 2 (some .int), Cond.methodLink RX5 87 yX5_unseals, Cond.instanceMethod yX5_unseals, Cond.selects RX5 yX5_unseals yX5_unseals, Cond.code yX5_unseals cX5_unseals 2 none]
def wsX5_abandon_r2 : List Cond := [Cond.methodLink RX5 168 yX5_lifts, Cond.instanceMethod yX5_lifts, Cond.selects RX5 yX5_lifts yX5_lifts, Cond.code yX5_lifts cX5_lifts 2 none, Cond.fieldLink RX5 29 "CheckpointedStreamModel" "areBlocked" "[Z", Cond.fieldLink RX5 66 "CheckpointedStreamModel" "haveSent" "[Z"]
def wsX5_abandon : List Cond := .code yX5_abandon cX5_abandon 2 (some .int) :: ((wsX5_abandon_r1 ++ wsX5_abandon_r2) ++ wsX50)
def wsX5_startsAgain_r1 : List Cond := [Cond.fieldLink RX5 7 "CheckpointedStreamModel" "workers" "I", Cond.fieldLink RX5 60 "CheckpointedStreamModel" "underWay" "I", Cond.fieldLink RX5 26 "CheckpointedStreamModel" "lengths" "[I", Cond.fieldLink RX5 39 "CheckpointedStreamModel" "openCounts" "[I", Cond.fieldLink RX5 42 "CheckpointedStreamModel" "openSums" "[I", Cond.fieldLink RX5 78 "CheckpointedStreamModel" "keptOffsets" "[I", Cond.fieldLink RX5 17 "CheckpointedStreamModel" "offsets" "[I", Cond.fieldLink RX5 81 "CheckpointedStreamModel" "keptCounts" "[I", Cond.fieldLink RX5 33 "CheckpointedStreamModel" "counts" "[I", Cond.fieldLink RX5 84 "CheckpointedStreamModel" "keptSums" "[I", Cond.fieldLink RX5 36 "CheckpointedStreamModel" "sums" "[I", Cond.methodLink RX5 155 yX5_mayCommit, Cond.instanceMethod yX5_mayCommit, Cond.selects RX5 yX5_mayCommit yX5_mayCommit, Cond.initialized RX5, Cond.code yX5_mayCommit cX5_mayCommit 2 (some .boolean), Cond.fieldLink RX5 51 "CheckpointedStreamModel" "sealedFor" "[I", Cond.methodLink RX5 158 yX5_commits, Cond.instanceMethod yX5_commits, Cond.selects RX5 yX5_commits yX5_commits, Cond.code yX5_commits cX5_commits 4 (some .int), Cond.fieldLink RX5 45 "CheckpointedStreamModel" "sealedCounts" "[I", Cond.fieldLink RX5 54 "CheckpointedStreamModel" "sinkCounts" "[I", Cond.fieldLink RX5 57 "CheckpointedStreamModel" "sinkSums" "[I"]
def wsX5_startsAgain_r2 : List Cond := [Cond.fieldLink RX5 48 "CheckpointedStreamModel" "sealedSums" "[I", Cond.methodLink RX5 115 yX5_workerOfKey, Cond.instanceMethod yX5_workerOfKey, Cond.selects RX5 yX5_workerOfKey yX5_workerOfKey, Cond.code yX5_workerOfKey cX5_workerOfKey 2 (some .int), Cond.methodLink RX5 97 yX5_workerOfGroup, Cond.static yX5_workerOfGroup, Cond.code yX5_workerOfGroup cX5_workerOfGroup 2 (some .int), Cond.methodLink RX5 87 yX5_unseals, Cond.instanceMethod yX5_unseals, Cond.selects RX5 yX5_unseals yX5_unseals, Cond.code yX5_unseals cX5_unseals 2 none, Cond.methodLink RX5 168 yX5_lifts, Cond.instanceMethod yX5_lifts, Cond.selects RX5 yX5_lifts yX5_lifts, Cond.code yX5_lifts cX5_lifts 2 none, Cond.fieldLink RX5 29 "CheckpointedStreamModel" "areBlocked" "[Z", Cond.fieldLink RX5 66 "CheckpointedStreamModel" "haveSent" "[Z", Cond.methodLink RX5 171 yX5_clears, Cond.static yX5_clears, Cond.code yX5_clears cX5_clears 2 none, Cond.methodLink RX5 141 yX5_copies, Cond.static yX5_copies, Cond.code yX5_copies cX5_copies 3 none]
def wsX5_startsAgain : List Cond := .code yX5_startsAgain cX5_startsAgain 3 none :: ((wsX5_startsAgain_r1 ++ wsX5_startsAgain_r2) ++ wsX50)
def wsX5_crash_r1 : List Cond := [Cond.fieldLink RX5 90 "CheckpointedStreamModel" "thrown" "I", Cond.fieldLink RX5 7 "CheckpointedStreamModel" "workers" "I", Cond.fieldLink RX5 63 "CheckpointedStreamModel" "complete" "I", Cond.methodLink RX5 175 yX5_startsAgain, Cond.instanceMethod yX5_startsAgain, Cond.selects RX5 yX5_startsAgain yX5_startsAgain, Cond.initialized RX5, Cond.code yX5_startsAgain cX5_startsAgain 3 none, Cond.fieldLink RX5 60 "CheckpointedStreamModel" "underWay" "I", Cond.fieldLink RX5 26 "CheckpointedStreamModel" "lengths" "[I", Cond.fieldLink RX5 39 "CheckpointedStreamModel" "openCounts" "[I", Cond.fieldLink RX5 42 "CheckpointedStreamModel" "openSums" "[I", Cond.fieldLink RX5 78 "CheckpointedStreamModel" "keptOffsets" "[I", Cond.fieldLink RX5 17 "CheckpointedStreamModel" "offsets" "[I", Cond.fieldLink RX5 81 "CheckpointedStreamModel" "keptCounts" "[I", Cond.fieldLink RX5 33 "CheckpointedStreamModel" "counts" "[I", Cond.fieldLink RX5 84 "CheckpointedStreamModel" "keptSums" "[I", Cond.fieldLink RX5 36 "CheckpointedStreamModel" "sums" "[I", Cond.methodLink RX5 155 yX5_mayCommit, Cond.instanceMethod yX5_mayCommit, Cond.selects RX5 yX5_mayCommit yX5_mayCommit, Cond.code yX5_mayCommit cX5_mayCommit 2 (some .boolean), Cond.fieldLink RX5 51 "CheckpointedStreamModel" "sealedFor" "[I", Cond.methodLink RX5 158 yX5_commits]
def wsX5_crash_r2 : List Cond := [Cond.instanceMethod yX5_commits, Cond.selects RX5 yX5_commits yX5_commits, Cond.code yX5_commits cX5_commits 4 (some .int), Cond.fieldLink RX5 45 "CheckpointedStreamModel" "sealedCounts" "[I", Cond.fieldLink RX5 54 "CheckpointedStreamModel" "sinkCounts" "[I", Cond.fieldLink RX5 57 "CheckpointedStreamModel" "sinkSums" "[I", Cond.fieldLink RX5 48 "CheckpointedStreamModel" "sealedSums" "[I", Cond.methodLink RX5 115 yX5_workerOfKey, Cond.instanceMethod yX5_workerOfKey, Cond.selects RX5 yX5_workerOfKey yX5_workerOfKey, Cond.code yX5_workerOfKey cX5_workerOfKey 2 (some .int), Cond.methodLink RX5 97 yX5_workerOfGroup, Cond.static yX5_workerOfGroup, Cond.code yX5_workerOfGroup cX5_workerOfGroup 2 (some .int), Cond.methodLink RX5 87 yX5_unseals, Cond.instanceMethod yX5_unseals, Cond.selects RX5 yX5_unseals yX5_unseals, Cond.code yX5_unseals cX5_unseals 2 none, Cond.methodLink RX5 168 yX5_lifts, Cond.instanceMethod yX5_lifts, Cond.selects RX5 yX5_lifts yX5_lifts, Cond.code yX5_lifts cX5_lifts 2 none, Cond.fieldLink RX5 29 "CheckpointedStreamModel" "areBlocked" "[Z", Cond.fieldLink RX5 66 "CheckpointedStreamModel" "haveSent" "[Z"]
def wsX5_crash_r3 : List Cond := [Cond.methodLink RX5 171 yX5_clears, Cond.static yX5_clears, Cond.code yX5_clears cX5_clears 2 none, Cond.methodLink RX5 141 yX5_copies, Cond.static yX5_copies, Cond.code yX5_copies cX5_copies 3 none]
def wsX5_crash : List Cond := .code yX5_crash cX5_crash 1 (some .int) :: ((wsX5_crash_r1 ++ (wsX5_crash_r2 ++ wsX5_crash_r3)) ++ wsX50)
def wsX5_rescale_r1 : List Cond := [Cond.fieldLink RX5 7 "CheckpointedStreamModel" "workers" "I", Cond.methodLink RX5 93 yX5_in, Cond.static yX5_in, Cond.initialized RX5, Cond.code yX5_in cX5_in 3 (some .boolean), Cond.methodLink RX5 108 yX5_holds, Cond.instanceMethod yX5_holds, Cond.selects RX5 yX5_holds yX5_holds, Cond.code yX5_holds cX5_holds 2 (some .boolean), Cond.fieldLink RX5 90 "CheckpointedStreamModel" "thrown" "I", Cond.methodLink RX5 97 yX5_workerOfGroup, Cond.static yX5_workerOfGroup, Cond.code yX5_workerOfGroup cX5_workerOfGroup 2 (some .int), Cond.methodLink RX5 175 yX5_startsAgain, Cond.instanceMethod yX5_startsAgain, Cond.selects RX5 yX5_startsAgain yX5_startsAgain, Cond.code yX5_startsAgain cX5_startsAgain 3 none, Cond.fieldLink RX5 60 "CheckpointedStreamModel" "underWay" "I", Cond.fieldLink RX5 26 "CheckpointedStreamModel" "lengths" "[I", Cond.fieldLink RX5 39 "CheckpointedStreamModel" "openCounts" "[I", Cond.fieldLink RX5 42 "CheckpointedStreamModel" "openSums" "[I", Cond.fieldLink RX5 78 "CheckpointedStreamModel" "keptOffsets" "[I", Cond.fieldLink RX5 17 "CheckpointedStreamModel" "offsets" "[I", Cond.fieldLink RX5 81 "CheckpointedStreamModel" "keptCounts" "[I"]
def wsX5_rescale_r2 : List Cond := [Cond.fieldLink RX5 33 "CheckpointedStreamModel" "counts" "[I", Cond.fieldLink RX5 84 "CheckpointedStreamModel" "keptSums" "[I", Cond.fieldLink RX5 36 "CheckpointedStreamModel" "sums" "[I", Cond.methodLink RX5 155 yX5_mayCommit, Cond.instanceMethod yX5_mayCommit, Cond.selects RX5 yX5_mayCommit yX5_mayCommit, Cond.code yX5_mayCommit cX5_mayCommit 2 (some .boolean), Cond.fieldLink RX5 51 "CheckpointedStreamModel" "sealedFor" "[I", Cond.methodLink RX5 158 yX5_commits, Cond.instanceMethod yX5_commits, Cond.selects RX5 yX5_commits yX5_commits, Cond.code yX5_commits cX5_commits 4 (some .int), Cond.fieldLink RX5 45 "CheckpointedStreamModel" "sealedCounts" "[I", Cond.fieldLink RX5 54 "CheckpointedStreamModel" "sinkCounts" "[I", Cond.fieldLink RX5 57 "CheckpointedStreamModel" "sinkSums" "[I", Cond.fieldLink RX5 48 "CheckpointedStreamModel" "sealedSums" "[I", Cond.methodLink RX5 115 yX5_workerOfKey, Cond.instanceMethod yX5_workerOfKey, Cond.selects RX5 yX5_workerOfKey yX5_workerOfKey, Cond.code yX5_workerOfKey cX5_workerOfKey 2 (some .int), Cond.methodLink RX5 87 yX5_unseals, Cond.instanceMethod yX5_unseals, Cond.selects RX5 yX5_unseals yX5_unseals, Cond.code yX5_unseals cX5_unseals 2 none]
def wsX5_rescale_r3 : List Cond := [Cond.methodLink RX5 168 yX5_lifts, Cond.instanceMethod yX5_lifts, Cond.selects RX5 yX5_lifts yX5_lifts, Cond.code yX5_lifts cX5_lifts 2 none, Cond.fieldLink RX5 29 "CheckpointedStreamModel" "areBlocked" "[Z", Cond.fieldLink RX5 66 "CheckpointedStreamModel" "haveSent" "[Z", Cond.methodLink RX5 171 yX5_clears, Cond.static yX5_clears, Cond.code yX5_clears cX5_clears 2 none, Cond.methodLink RX5 141 yX5_copies, Cond.static yX5_copies, Cond.code yX5_copies cX5_copies 3 none]
def wsX5_rescale : List Cond := .code yX5_rescale cX5_rescale 4 (some .int) :: ((wsX5_rescale_r1 ++ (wsX5_rescale_r2 ++ wsX5_rescale_r3)) ++ wsX50)
def wsX5_events : List Cond := .code yX5_events cX5_events 2 (some .int) :: ([.fieldLink RX5 13 "CheckpointedStreamModel" "sizes" "[I", .methodLink RX5 101 yX5_isPartition, .static yX5_isPartition, .initialized RX5, .code yX5_isPartition cX5_isPartition 1 (some .boolean), .methodLink RX5 93 yX5_in, .static yX5_in, .code yX5_in cX5_in 3 (some .boolean), .methodLink RX5 108 yX5_holds, .instanceMethod yX5_holds, .selects RX5 yX5_holds yX5_holds, .code yX5_holds cX5_holds 2 (some .boolean), .fieldLink RX5 90 "CheckpointedStreamModel" "thrown" "I"] ++ wsX50)
def wsX5_offset : List Cond := .code yX5_offset cX5_offset 2 (some .int) :: ([.fieldLink RX5 17 "CheckpointedStreamModel" "offsets" "[I", .methodLink RX5 101 yX5_isPartition, .static yX5_isPartition, .initialized RX5, .code yX5_isPartition cX5_isPartition 1 (some .boolean), .methodLink RX5 93 yX5_in, .static yX5_in, .code yX5_in cX5_in 3 (some .boolean), .methodLink RX5 108 yX5_holds, .instanceMethod yX5_holds, .selects RX5 yX5_holds yX5_holds, .code yX5_holds cX5_holds 2 (some .boolean), .fieldLink RX5 90 "CheckpointedStreamModel" "thrown" "I"] ++ wsX50)
def wsX5_eventAt : List Cond := .code yX5_eventAt cX5_eventAt 3 (some .int) :: ([.fieldLink RX5 13 "CheckpointedStreamModel" "sizes" "[I", .fieldLink RX5 20 "CheckpointedStreamModel" "events" "[I", .methodLink RX5 101 yX5_isPartition, .static yX5_isPartition, .initialized RX5, .code yX5_isPartition cX5_isPartition 1 (some .boolean), .methodLink RX5 93 yX5_in, .static yX5_in, .code yX5_in cX5_in 3 (some .boolean), .methodLink RX5 108 yX5_holds, .instanceMethod yX5_holds, .selects RX5 yX5_holds yX5_holds, .code yX5_holds cX5_holds 2 (some .boolean), .fieldLink RX5 90 "CheckpointedStreamModel" "thrown" "I"] ++ wsX50)
def wsX5_isChannel : List Cond := .code yX5_isChannel cX5_isChannel 3 (some .boolean) :: ([.methodLink RX5 101 yX5_isPartition, .static yX5_isPartition, .initialized RX5, .code yX5_isPartition cX5_isPartition 1 (some .boolean), .methodLink RX5 93 yX5_in, .static yX5_in, .code yX5_in cX5_in 3 (some .boolean), .methodLink RX5 145 yX5_isWorker, .instanceMethod yX5_isWorker, .selects RX5 yX5_isWorker yX5_isWorker, .code yX5_isWorker cX5_isWorker 2 (some .boolean), .fieldLink RX5 7 "CheckpointedStreamModel" "workers" "I"] ++ wsX50)
def wsX5_queued_r1 : List Cond := [Cond.fieldLink RX5 26 "CheckpointedStreamModel" "lengths" "[I", Cond.methodLink RX5 178 yX5_isChannel, Cond.instanceMethod yX5_isChannel, Cond.selects RX5 yX5_isChannel yX5_isChannel, Cond.initialized RX5, Cond.code yX5_isChannel cX5_isChannel 3 (some .boolean), Cond.methodLink RX5 101 yX5_isPartition, Cond.static yX5_isPartition, Cond.code yX5_isPartition cX5_isPartition 1 (some .boolean), Cond.methodLink RX5 93 yX5_in, Cond.static yX5_in, Cond.code yX5_in cX5_in 3 (some .boolean), Cond.methodLink RX5 145 yX5_isWorker, Cond.instanceMethod yX5_isWorker, Cond.selects RX5 yX5_isWorker yX5_isWorker, Cond.code yX5_isWorker cX5_isWorker 2 (some .boolean), Cond.fieldLink RX5 7 "CheckpointedStreamModel" "workers" "I", Cond.methodLink RX5 108 yX5_holds, Cond.instanceMethod yX5_holds, Cond.selects RX5 yX5_holds yX5_holds, Cond.code yX5_holds cX5_holds 2 (some .boolean), Cond.fieldLink RX5 90 "CheckpointedStreamModel" "thrown" "I", Cond.methodLink RX5 118 yX5_channel, Cond.static yX5_channel]
def wsX5_queued_r2 : List Cond := [Cond.code yX5_channel cX5_channel 2 (some .int)]
def wsX5_queued : List Cond := .code yX5_queued cX5_queued 3 (some .int) :: ((wsX5_queued_r1 ++ wsX5_queued_r2) ++ wsX50)
def wsX5_itemAt_r1 : List Cond := [Cond.fieldLink RX5 26 "CheckpointedStreamModel" "lengths" "[I", Cond.fieldLink RX5 23 "CheckpointedStreamModel" "items" "[I", Cond.methodLink RX5 178 yX5_isChannel, Cond.instanceMethod yX5_isChannel, Cond.selects RX5 yX5_isChannel yX5_isChannel, Cond.initialized RX5, Cond.code yX5_isChannel cX5_isChannel 3 (some .boolean), Cond.methodLink RX5 101 yX5_isPartition, Cond.static yX5_isPartition, Cond.code yX5_isPartition cX5_isPartition 1 (some .boolean), Cond.methodLink RX5 93 yX5_in, Cond.static yX5_in, Cond.code yX5_in cX5_in 3 (some .boolean), Cond.methodLink RX5 145 yX5_isWorker, Cond.instanceMethod yX5_isWorker, Cond.selects RX5 yX5_isWorker yX5_isWorker, Cond.code yX5_isWorker cX5_isWorker 2 (some .boolean), Cond.fieldLink RX5 7 "CheckpointedStreamModel" "workers" "I", Cond.methodLink RX5 118 yX5_channel, Cond.static yX5_channel, Cond.code yX5_channel cX5_channel 2 (some .int), Cond.methodLink RX5 108 yX5_holds, Cond.instanceMethod yX5_holds, Cond.selects RX5 yX5_holds yX5_holds]
def wsX5_itemAt_r2 : List Cond := [Cond.code yX5_holds cX5_holds 2 (some .boolean), Cond.fieldLink RX5 90 "CheckpointedStreamModel" "thrown" "I"]
def wsX5_itemAt : List Cond := .code yX5_itemAt cX5_itemAt 5 (some .int) :: ((wsX5_itemAt_r1 ++ wsX5_itemAt_r2) ++ wsX50)
def wsX5_isBlocked_r1 : List Cond := [Cond.fieldLink RX5 29 "CheckpointedStreamModel" "areBlocked" "[Z", Cond.methodLink RX5 178 yX5_isChannel, Cond.instanceMethod yX5_isChannel, Cond.selects RX5 yX5_isChannel yX5_isChannel, Cond.initialized RX5, Cond.code yX5_isChannel cX5_isChannel 3 (some .boolean), Cond.methodLink RX5 101 yX5_isPartition, Cond.static yX5_isPartition, Cond.code yX5_isPartition cX5_isPartition 1 (some .boolean), Cond.methodLink RX5 93 yX5_in, Cond.static yX5_in, Cond.code yX5_in cX5_in 3 (some .boolean), Cond.methodLink RX5 145 yX5_isWorker, Cond.instanceMethod yX5_isWorker, Cond.selects RX5 yX5_isWorker yX5_isWorker, Cond.code yX5_isWorker cX5_isWorker 2 (some .boolean), Cond.fieldLink RX5 7 "CheckpointedStreamModel" "workers" "I", Cond.methodLink RX5 108 yX5_holds, Cond.instanceMethod yX5_holds, Cond.selects RX5 yX5_holds yX5_holds, Cond.code yX5_holds cX5_holds 2 (some .boolean), Cond.fieldLink RX5 90 "CheckpointedStreamModel" "thrown" "I", Cond.methodLink RX5 118 yX5_channel, Cond.static yX5_channel]
def wsX5_isBlocked_r2 : List Cond := [Cond.code yX5_channel cX5_channel 2 (some .int)]
def wsX5_isBlocked : List Cond := .code yX5_isBlocked cX5_isBlocked 3 (some .boolean) :: ((wsX5_isBlocked_r1 ++ wsX5_isBlocked_r2) ++ wsX50)
def wsX5_workers : List Cond := .code yX5_workers cX5_workers 1 (some .int) :: ([.fieldLink RX5 90 "CheckpointedStreamModel" "thrown" "I", .fieldLink RX5 7 "CheckpointedStreamModel" "workers" "I"] ++ wsX50)
def wsX5_workerOf : List Cond := .code yX5_workerOf cX5_workerOf 2 (some .int) :: ([.methodLink RX5 105 yX5_isKey, .static yX5_isKey, .initialized RX5, .code yX5_isKey cX5_isKey 1 (some .boolean), .methodLink RX5 93 yX5_in, .static yX5_in, .code yX5_in cX5_in 3 (some .boolean), .methodLink RX5 108 yX5_holds, .instanceMethod yX5_holds, .selects RX5 yX5_holds yX5_holds, .code yX5_holds cX5_holds 2 (some .boolean), .fieldLink RX5 90 "CheckpointedStreamModel" "thrown" "I", .methodLink RX5 115 yX5_workerOfKey, .instanceMethod yX5_workerOfKey, .selects RX5 yX5_workerOfKey yX5_workerOfKey, .code yX5_workerOfKey cX5_workerOfKey 2 (some .int), .fieldLink RX5 7 "CheckpointedStreamModel" "workers" "I", .methodLink RX5 97 yX5_workerOfGroup, .static yX5_workerOfGroup, .code yX5_workerOfGroup cX5_workerOfGroup 2 (some .int)] ++ wsX50)
def wsX5_groupsOf : List Cond := .code yX5_groupsOf cX5_groupsOf 4 (some .int) :: ([.fieldLink RX5 7 "CheckpointedStreamModel" "workers" "I", .methodLink RX5 145 yX5_isWorker, .instanceMethod yX5_isWorker, .selects RX5 yX5_isWorker yX5_isWorker, .initialized RX5, .code yX5_isWorker cX5_isWorker 2 (some .boolean), .methodLink RX5 93 yX5_in, .static yX5_in, .code yX5_in cX5_in 3 (some .boolean), .methodLink RX5 108 yX5_holds, .instanceMethod yX5_holds, .selects RX5 yX5_holds yX5_holds, .code yX5_holds cX5_holds 2 (some .boolean), .fieldLink RX5 90 "CheckpointedStreamModel" "thrown" "I", .methodLink RX5 97 yX5_workerOfGroup, .static yX5_workerOfGroup, .code yX5_workerOfGroup cX5_workerOfGroup 2 (some .int)] ++ wsX50)
def wsX5_ofKey : List Cond := .code yX5_ofKey cX5_ofKey 3 (some .int) :: ([.methodLink RX5 105 yX5_isKey, .static yX5_isKey, .initialized RX5, .code yX5_isKey cX5_isKey 1 (some .boolean), .methodLink RX5 93 yX5_in, .static yX5_in, .code yX5_in cX5_in 3 (some .boolean), .methodLink RX5 108 yX5_holds, .instanceMethod yX5_holds, .selects RX5 yX5_holds yX5_holds, .code yX5_holds cX5_holds 2 (some .boolean), .fieldLink RX5 90 "CheckpointedStreamModel" "thrown" "I"] ++ wsX50)
def wsX5_count : List Cond := .code yX5_count cX5_count 2 (some .int) :: ([.fieldLink RX5 33 "CheckpointedStreamModel" "counts" "[I", .methodLink RX5 181 yX5_ofKey, .instanceMethod yX5_ofKey, .selects RX5 yX5_ofKey yX5_ofKey, .initialized RX5, .code yX5_ofKey cX5_ofKey 3 (some .int), .methodLink RX5 105 yX5_isKey, .static yX5_isKey, .code yX5_isKey cX5_isKey 1 (some .boolean), .methodLink RX5 93 yX5_in, .static yX5_in, .code yX5_in cX5_in 3 (some .boolean), .methodLink RX5 108 yX5_holds, .instanceMethod yX5_holds, .selects RX5 yX5_holds yX5_holds, .code yX5_holds cX5_holds 2 (some .boolean), .fieldLink RX5 90 "CheckpointedStreamModel" "thrown" "I"] ++ wsX50)
def wsX5_sum : List Cond := .code yX5_sum cX5_sum 2 (some .int) :: ([.fieldLink RX5 36 "CheckpointedStreamModel" "sums" "[I", .methodLink RX5 181 yX5_ofKey, .instanceMethod yX5_ofKey, .selects RX5 yX5_ofKey yX5_ofKey, .initialized RX5, .code yX5_ofKey cX5_ofKey 3 (some .int), .methodLink RX5 105 yX5_isKey, .static yX5_isKey, .code yX5_isKey cX5_isKey 1 (some .boolean), .methodLink RX5 93 yX5_in, .static yX5_in, .code yX5_in cX5_in 3 (some .boolean), .methodLink RX5 108 yX5_holds, .instanceMethod yX5_holds, .selects RX5 yX5_holds yX5_holds, .code yX5_holds cX5_holds 2 (some .boolean), .fieldLink RX5 90 "CheckpointedStreamModel" "thrown" "I"] ++ wsX50)
def wsX5_open : List Cond := .code yX5_open cX5_open 4 (some .int) :: ([.fieldLink RX5 39 "CheckpointedStreamModel" "openCounts" "[I", .methodLink RX5 145 yX5_isWorker, .instanceMethod yX5_isWorker, .selects RX5 yX5_isWorker yX5_isWorker, .initialized RX5, .code yX5_isWorker cX5_isWorker 2 (some .boolean), .fieldLink RX5 7 "CheckpointedStreamModel" "workers" "I", .methodLink RX5 93 yX5_in, .static yX5_in, .code yX5_in cX5_in 3 (some .boolean), .methodLink RX5 108 yX5_holds, .instanceMethod yX5_holds, .selects RX5 yX5_holds yX5_holds, .code yX5_holds cX5_holds 2 (some .boolean), .fieldLink RX5 90 "CheckpointedStreamModel" "thrown" "I", .methodLink RX5 115 yX5_workerOfKey, .instanceMethod yX5_workerOfKey, .selects RX5 yX5_workerOfKey yX5_workerOfKey, .code yX5_workerOfKey cX5_workerOfKey 2 (some .int), .methodLink RX5 97 yX5_workerOfGroup, .static yX5_workerOfGroup, .code yX5_workerOfGroup cX5_workerOfGroup 2 (some .int)] ++ wsX50)
def wsX5_sealed : List Cond := .code yX5_sealed cX5_sealed 2 (some .int) :: ([.fieldLink RX5 51 "CheckpointedStreamModel" "sealedFor" "[I", .methodLink RX5 145 yX5_isWorker, .instanceMethod yX5_isWorker, .selects RX5 yX5_isWorker yX5_isWorker, .initialized RX5, .code yX5_isWorker cX5_isWorker 2 (some .boolean), .fieldLink RX5 7 "CheckpointedStreamModel" "workers" "I", .methodLink RX5 93 yX5_in, .static yX5_in, .code yX5_in cX5_in 3 (some .boolean), .methodLink RX5 108 yX5_holds, .instanceMethod yX5_holds, .selects RX5 yX5_holds yX5_holds, .code yX5_holds cX5_holds 2 (some .boolean), .fieldLink RX5 90 "CheckpointedStreamModel" "thrown" "I"] ++ wsX50)
def wsX5_underWay : List Cond := .code yX5_underWay cX5_underWay 1 (some .int) :: ([.fieldLink RX5 90 "CheckpointedStreamModel" "thrown" "I", .fieldLink RX5 60 "CheckpointedStreamModel" "underWay" "I"] ++ wsX50)
def wsX5_complete : List Cond := .code yX5_complete cX5_complete 1 (some .int) :: ([.fieldLink RX5 90 "CheckpointedStreamModel" "thrown" "I", .fieldLink RX5 63 "CheckpointedStreamModel" "complete" "I"] ++ wsX50)
def wsX5_hasSent : List Cond := .code yX5_hasSent cX5_hasSent 2 (some .boolean) :: ([.fieldLink RX5 60 "CheckpointedStreamModel" "underWay" "I", .fieldLink RX5 66 "CheckpointedStreamModel" "haveSent" "[Z", .methodLink RX5 101 yX5_isPartition, .static yX5_isPartition, .initialized RX5, .code yX5_isPartition cX5_isPartition 1 (some .boolean), .methodLink RX5 93 yX5_in, .static yX5_in, .code yX5_in cX5_in 3 (some .boolean), .methodLink RX5 108 yX5_holds, .instanceMethod yX5_holds, .selects RX5 yX5_holds yX5_holds, .code yX5_holds cX5_holds 2 (some .boolean), .fieldLink RX5 90 "CheckpointedStreamModel" "thrown" "I"] ++ wsX50)
def wsX5_keptOffset : List Cond := .code yX5_keptOffset cX5_keptOffset 2 (some .int) :: ([.fieldLink RX5 78 "CheckpointedStreamModel" "keptOffsets" "[I", .methodLink RX5 101 yX5_isPartition, .static yX5_isPartition, .initialized RX5, .code yX5_isPartition cX5_isPartition 1 (some .boolean), .methodLink RX5 93 yX5_in, .static yX5_in, .code yX5_in cX5_in 3 (some .boolean), .methodLink RX5 108 yX5_holds, .instanceMethod yX5_holds, .selects RX5 yX5_holds yX5_holds, .code yX5_holds cX5_holds 2 (some .boolean), .fieldLink RX5 90 "CheckpointedStreamModel" "thrown" "I"] ++ wsX50)
def wsX5_keptSum : List Cond := .code yX5_keptSum cX5_keptSum 2 (some .int) :: ([.fieldLink RX5 84 "CheckpointedStreamModel" "keptSums" "[I", .methodLink RX5 181 yX5_ofKey, .instanceMethod yX5_ofKey, .selects RX5 yX5_ofKey yX5_ofKey, .initialized RX5, .code yX5_ofKey cX5_ofKey 3 (some .int), .methodLink RX5 105 yX5_isKey, .static yX5_isKey, .code yX5_isKey cX5_isKey 1 (some .boolean), .methodLink RX5 93 yX5_in, .static yX5_in, .code yX5_in cX5_in 3 (some .boolean), .methodLink RX5 108 yX5_holds, .instanceMethod yX5_holds, .selects RX5 yX5_holds yX5_holds, .code yX5_holds cX5_holds 2 (some .boolean), .fieldLink RX5 90 "CheckpointedStreamModel" "thrown" "I"] ++ wsX50)
def wsX5_committedCount : List Cond := .code yX5_committedCount cX5_committedCount 2 (some .int) :: ([.fieldLink RX5 54 "CheckpointedStreamModel" "sinkCounts" "[I", .methodLink RX5 181 yX5_ofKey, .instanceMethod yX5_ofKey, .selects RX5 yX5_ofKey yX5_ofKey, .initialized RX5, .code yX5_ofKey cX5_ofKey 3 (some .int), .methodLink RX5 105 yX5_isKey, .static yX5_isKey, .code yX5_isKey cX5_isKey 1 (some .boolean), .methodLink RX5 93 yX5_in, .static yX5_in, .code yX5_in cX5_in 3 (some .boolean), .methodLink RX5 108 yX5_holds, .instanceMethod yX5_holds, .selects RX5 yX5_holds yX5_holds, .code yX5_holds cX5_holds 2 (some .boolean), .fieldLink RX5 90 "CheckpointedStreamModel" "thrown" "I"] ++ wsX50)
def wsX5_committedSum : List Cond := .code yX5_committedSum cX5_committedSum 2 (some .int) :: ([.fieldLink RX5 57 "CheckpointedStreamModel" "sinkSums" "[I", .methodLink RX5 181 yX5_ofKey, .instanceMethod yX5_ofKey, .selects RX5 yX5_ofKey yX5_ofKey, .initialized RX5, .code yX5_ofKey cX5_ofKey 3 (some .int), .methodLink RX5 105 yX5_isKey, .static yX5_isKey, .code yX5_isKey cX5_isKey 1 (some .boolean), .methodLink RX5 93 yX5_in, .static yX5_in, .code yX5_in cX5_in 3 (some .boolean), .methodLink RX5 108 yX5_holds, .instanceMethod yX5_holds, .selects RX5 yX5_holds yX5_holds, .code yX5_holds cX5_holds 2 (some .boolean), .fieldLink RX5 90 "CheckpointedStreamModel" "thrown" "I"] ++ wsX50)
def wsX5_committed : List Cond := .code yX5_committed cX5_committed 3 (some .int) :: ([.fieldLink RX5 90 "CheckpointedStreamModel" "thrown" "I", .fieldLink RX5 54 "CheckpointedStreamModel" "sinkCounts" "[I"] ++ wsX50)
def wsX5_readSum : List Cond := .code yX5_readSum cX5_readSum 6 (some .int) :: ([.fieldLink RX5 17 "CheckpointedStreamModel" "offsets" "[I", .fieldLink RX5 20 "CheckpointedStreamModel" "events" "[I", .methodLink RX5 105 yX5_isKey, .static yX5_isKey, .initialized RX5, .code yX5_isKey cX5_isKey 1 (some .boolean), .methodLink RX5 93 yX5_in, .static yX5_in, .code yX5_in cX5_in 3 (some .boolean), .methodLink RX5 108 yX5_holds, .instanceMethod yX5_holds, .selects RX5 yX5_holds yX5_holds, .code yX5_holds cX5_holds 2 (some .boolean), .fieldLink RX5 90 "CheckpointedStreamModel" "thrown" "I"] ++ wsX50)
def wsX5_sumInChannels : List Cond := .code yX5_sumInChannels cX5_sumInChannels 6 (some .int) :: ([.fieldLink RX5 26 "CheckpointedStreamModel" "lengths" "[I", .fieldLink RX5 23 "CheckpointedStreamModel" "items" "[I", .methodLink RX5 105 yX5_isKey, .static yX5_isKey, .initialized RX5, .code yX5_isKey cX5_isKey 1 (some .boolean), .methodLink RX5 93 yX5_in, .static yX5_in, .code yX5_in cX5_in 3 (some .boolean), .methodLink RX5 108 yX5_holds, .instanceMethod yX5_holds, .selects RX5 yX5_holds yX5_holds, .code yX5_holds cX5_holds 2 (some .boolean), .fieldLink RX5 90 "CheckpointedStreamModel" "thrown" "I"] ++ wsX50)
def wsL_append_r1 : List Cond := [Cond.classLink RL 13 "java/lang/IndexOutOfBoundsException", Cond.classLink RL 15 "java/lang/IllegalArgumentException", Cond.classLink RL 17 "java/lang/IllegalStateException", Cond.methodLink RL 7 yX4_append, Cond.instanceMethod yX4_append, Cond.selects RX4 yX4_append yX4_append, Cond.initialized RX4, Cond.code yX4_append cX4_append 4 (some .int), Cond.classLink RX4 76 "java/lang/IllegalArgumentException", Cond.initialized "java/lang/IllegalArgumentException", Cond.classLink RX4 86 "java/lang/IllegalStateException", Cond.initialized "java/lang/IllegalStateException", Cond.fieldLink RX4 10 "CheckpointedStream" "rows" "LCheckpointedStream$EventRows;", Cond.fieldLink RX4 83 "CheckpointedStream$EventRows" "lengths" "[I", Cond.methodLink RX4 69 yX4_requirePartition, Cond.static yX4_requirePartition, Cond.code yX4_requirePartition cX4_requirePartition 1 none, Cond.classLink RX4 181 "java/lang/IndexOutOfBoundsException", Cond.initialized "java/lang/IndexOutOfBoundsException", Cond.methodLink RX4 73 yX4_requireKey, Cond.static yX4_requireKey, Cond.code yX4_requireKey cX4_requireKey 1 none, Cond.methodLink RX4 91 yX1_add, Cond.instanceMethod yX1_add]
def wsL_append_r2 : List Cond := [Cond.selects RX1 yX1_add yX1_add, Cond.initialized RX1, Cond.code yX1_add cX1_add 4 (some .int), Cond.fieldLink RX1 9 "CheckpointedStream$EventRows" "lengths" "[I", Cond.fieldLink RX1 15 "CheckpointedStream$EventRows" "events" "[I"]
def wsL_append : List Cond := .codeWith yL_append cL_append 6 (some .int) [(0, 12, 15, 13), (0, 12, 19, 15), (0, 12, 23, 17)] :: ((wsL_append_r1 ++ wsL_append_r2) ++ wsX40 ++ wsX10 ++ (vx_atS RX4 80 "java/lang/IllegalArgumentException" ["java/lang/RuntimeException", "java/lang/Exception"]).filter goodWord ++ (vx_atS RX4 90 "java/lang/IllegalStateException" ["java/lang/RuntimeException", "java/lang/Exception"]).filter goodWord ++ (vx_atS RX4 185 "java/lang/IndexOutOfBoundsException" ["java/lang/RuntimeException", "java/lang/Exception"]).filter goodWord)
def wsL_read_r1 : List Cond := [Cond.classLink RL 13 "java/lang/IndexOutOfBoundsException", Cond.classLink RL 17 "java/lang/IllegalStateException", Cond.methodLink RL 19 yX4_read, Cond.instanceMethod yX4_read, Cond.selects RX4 yX4_read yX4_read, Cond.initialized RX4, Cond.code yX4_read cX4_read 2 (some .int), Cond.classLink RX4 86 "java/lang/IllegalStateException", Cond.initialized "java/lang/IllegalStateException", Cond.methodLink RX4 69 yX4_requirePartition, Cond.static yX4_requirePartition, Cond.code yX4_requirePartition cX4_requirePartition 1 none, Cond.classLink RX4 181 "java/lang/IndexOutOfBoundsException", Cond.initialized "java/lang/IndexOutOfBoundsException", Cond.methodLink RX4 95 yX4_canReadFrom, Cond.instanceMethod yX4_canReadFrom, Cond.selects RX4 yX4_canReadFrom yX4_canReadFrom, Cond.code yX4_canReadFrom cX4_canReadFrom 4 (some .boolean), Cond.fieldLink RX4 19 "CheckpointedStream" "readers" "LCheckpointedStream$Readers;", Cond.fieldLink RX4 178 "CheckpointedStream$Readers" "offsets" "[I", Cond.fieldLink RX4 10 "CheckpointedStream" "rows" "LCheckpointedStream$EventRows;", Cond.fieldLink RX4 83 "CheckpointedStream$EventRows" "lengths" "[I", Cond.fieldLink RX4 26 "CheckpointedStream" "channels" "LCheckpointedStream$Channels;", Cond.methodLink RX4 186 yX1_get]
def wsL_read_r2 : List Cond := [Cond.instanceMethod yX1_get, Cond.selects RX1 yX1_get yX1_get, Cond.initialized RX1, Cond.code yX1_get cX1_get 3 (some .int), Cond.fieldLink RX1 15 "CheckpointedStream$EventRows" "events" "[I", Cond.methodLink RX4 223 yX4_keyOf, Cond.static yX4_keyOf, Cond.code yX4_keyOf cX4_keyOf 1 (some .int), Cond.methodLink RX4 200 yX4_ownerOfKey, Cond.instanceMethod yX4_ownerOfKey, Cond.selects RX4 yX4_ownerOfKey yX4_ownerOfKey, Cond.code yX4_ownerOfKey cX4_ownerOfKey 2 (some .int), Cond.fieldLink RX4 56 "CheckpointedStream" "workerCount" "I", Cond.methodLink RX4 175 yX4_ownerOfGroup, Cond.static yX4_ownerOfGroup, Cond.code yX4_ownerOfGroup cX4_ownerOfGroup 2 (some .int), Cond.methodLink RX4 226 yX0_hasRoom, Cond.instanceMethod yX0_hasRoom, Cond.selects RX0 yX0_hasRoom yX0_hasRoom, Cond.initialized RX0, Cond.code yX0_hasRoom cX0_hasRoom 3 (some .boolean), Cond.methodLink RX0 26 yX0_size, Cond.instanceMethod yX0_size, Cond.selects RX0 yX0_size yX0_size]
def wsL_read_r3 : List Cond := [Cond.code yX0_size cX0_size 3 (some .int), Cond.fieldLink RX0 15 "CheckpointedStream$Channels" "sizes" "[I", Cond.methodLink RX0 22 yX0_channelOf, Cond.static yX0_channelOf, Cond.code yX0_channelOf cX0_channelOf 2 (some .int), Cond.methodLink RX4 101 yX4_readFrom, Cond.instanceMethod yX4_readFrom, Cond.selects RX4 yX4_readFrom yX4_readFrom, Cond.code yX4_readFrom cX4_readFrom 4 (some .int), Cond.methodLink RX4 116 yX0_put, Cond.instanceMethod yX0_put, Cond.selects RX0 yX0_put yX0_put, Cond.code yX0_put cX0_put 5 none, Cond.fieldLink RX0 9 "CheckpointedStream$Channels" "items" "[I"]
def wsL_read : List Cond := .codeWith yL_read cL_read 4 (some .int) [(0, 9, 12, 13), (0, 9, 15, 17)] :: ((wsL_read_r1 ++ (wsL_read_r2 ++ wsL_read_r3)) ++ wsX40 ++ wsX20 ++ wsX10 ++ wsX00 ++ (vx_atS RX4 90 "java/lang/IllegalStateException" ["java/lang/RuntimeException", "java/lang/Exception"]).filter goodWord ++ (vx_atS RX4 185 "java/lang/IndexOutOfBoundsException" ["java/lang/RuntimeException", "java/lang/Exception"]).filter goodWord)
def wsL_sendBarrier_r1 : List Cond := [Cond.classLink RL 13 "java/lang/IndexOutOfBoundsException", Cond.classLink RL 17 "java/lang/IllegalStateException", Cond.methodLink RL 23 yX4_sendBarrier, Cond.instanceMethod yX4_sendBarrier, Cond.selects RX4 yX4_sendBarrier yX4_sendBarrier, Cond.initialized RX4, Cond.code yX4_sendBarrier cX4_sendBarrier 3 (some .int), Cond.classLink RX4 86 "java/lang/IllegalStateException", Cond.initialized "java/lang/IllegalStateException", Cond.fieldLink RX4 63 "CheckpointedStream" "numberUnderWay" "I", Cond.fieldLink RX4 19 "CheckpointedStream" "readers" "LCheckpointedStream$Readers;", Cond.fieldLink RX4 105 "CheckpointedStream$Readers" "sent" "[Z", Cond.fieldLink RX4 56 "CheckpointedStream" "workerCount" "I", Cond.fieldLink RX4 26 "CheckpointedStream" "channels" "LCheckpointedStream$Channels;", Cond.methodLink RX4 69 yX4_requirePartition, Cond.static yX4_requirePartition, Cond.code yX4_requirePartition cX4_requirePartition 1 none, Cond.classLink RX4 181 "java/lang/IndexOutOfBoundsException", Cond.initialized "java/lang/IndexOutOfBoundsException", Cond.methodLink RX4 111 yX4_hasRoomInAllChannels, Cond.instanceMethod yX4_hasRoomInAllChannels, Cond.selects RX4 yX4_hasRoomInAllChannels yX4_hasRoomInAllChannels, Cond.code yX4_hasRoomInAllChannels cX4_hasRoomInAllChannels 3 (some .boolean), Cond.methodLink RX4 226 yX0_hasRoom]
def wsL_sendBarrier_r2 : List Cond := [Cond.instanceMethod yX0_hasRoom, Cond.selects RX0 yX0_hasRoom yX0_hasRoom, Cond.initialized RX0, Cond.code yX0_hasRoom cX0_hasRoom 3 (some .boolean), Cond.methodLink RX0 26 yX0_size, Cond.instanceMethod yX0_size, Cond.selects RX0 yX0_size yX0_size, Cond.code yX0_size cX0_size 3 (some .int), Cond.fieldLink RX0 15 "CheckpointedStream$Channels" "sizes" "[I", Cond.methodLink RX0 22 yX0_channelOf, Cond.static yX0_channelOf, Cond.code yX0_channelOf cX0_channelOf 2 (some .int), Cond.methodLink RX4 116 yX0_put, Cond.instanceMethod yX0_put, Cond.selects RX0 yX0_put yX0_put, Cond.code yX0_put cX0_put 5 none, Cond.fieldLink RX0 9 "CheckpointedStream$Channels" "items" "[I", Cond.methodLink RX4 120 yX2_keepForBarrier, Cond.instanceMethod yX2_keepForBarrier, Cond.selects RX2 yX2_keepForBarrier yX2_keepForBarrier, Cond.initialized RX2, Cond.code yX2_keepForBarrier cX2_keepForBarrier 2 (some .int), Cond.fieldLink RX2 18 "CheckpointedStream$Readers" "sent" "[Z", Cond.fieldLink RX2 22 "CheckpointedStream$Readers" "keeping" "[I"]
def wsL_sendBarrier_r3 : List Cond := [Cond.fieldLink RX2 9 "CheckpointedStream$Readers" "offsets" "[I"]
def wsL_sendBarrier : List Cond := .codeWith yL_sendBarrier cL_sendBarrier 4 (some .int) [(0, 9, 12, 13), (0, 9, 15, 17)] :: ((wsL_sendBarrier_r1 ++ (wsL_sendBarrier_r2 ++ wsL_sendBarrier_r3)) ++ wsX40 ++ wsX20 ++ wsX00 ++ (vx_atS RX4 90 "java/lang/IllegalStateException" ["java/lang/RuntimeException", "java/lang/Exception"]).filter goodWord ++ (vx_atS RX4 185 "java/lang/IndexOutOfBoundsException" ["java/lang/RuntimeException", "java/lang/Exception"]).filter goodWord)
def wsL_take_r1 : List Cond := [Cond.classLink RL 13 "java/lang/IndexOutOfBoundsException", Cond.classLink RL 17 "java/lang/IllegalStateException", Cond.methodLink RL 26 yX4_take, Cond.instanceMethod yX4_take, Cond.selects RX4 yX4_take yX4_take, Cond.initialized RX4, Cond.code yX4_take cX4_take 3 (some .int), Cond.classLink RX4 86 "java/lang/IllegalStateException", Cond.initialized "java/lang/IllegalStateException", Cond.fieldLink RX4 26 "CheckpointedStream" "channels" "LCheckpointedStream$Channels;", Cond.methodLink RX4 123 yX4_requireWorker, Cond.instanceMethod yX4_requireWorker, Cond.selects RX4 yX4_requireWorker yX4_requireWorker, Cond.code yX4_requireWorker cX4_requireWorker 2 none, Cond.classLink RX4 181 "java/lang/IndexOutOfBoundsException", Cond.initialized "java/lang/IndexOutOfBoundsException", Cond.fieldLink RX4 56 "CheckpointedStream" "workerCount" "I", Cond.methodLink RX4 69 yX4_requirePartition, Cond.static yX4_requirePartition, Cond.code yX4_requirePartition cX4_requirePartition 1 none, Cond.methodLink RX4 126 yX0_canGive, Cond.instanceMethod yX0_canGive, Cond.selects RX0 yX0_canGive yX0_canGive, Cond.initialized RX0]
def wsL_take_r2 : List Cond := [Cond.code yX0_canGive cX0_canGive 3 (some .boolean), Cond.methodLink RX0 26 yX0_size, Cond.instanceMethod yX0_size, Cond.selects RX0 yX0_size yX0_size, Cond.code yX0_size cX0_size 3 (some .int), Cond.fieldLink RX0 15 "CheckpointedStream$Channels" "sizes" "[I", Cond.methodLink RX0 22 yX0_channelOf, Cond.static yX0_channelOf, Cond.code yX0_channelOf cX0_channelOf 2 (some .int), Cond.methodLink RX0 29 yX0_isShut, Cond.instanceMethod yX0_isShut, Cond.selects RX0 yX0_isShut yX0_isShut, Cond.code yX0_isShut cX0_isShut 3 (some .boolean), Cond.fieldLink RX0 18 "CheckpointedStream$Channels" "blocked" "[Z", Cond.methodLink RX4 132 yX4_takeFrom, Cond.instanceMethod yX4_takeFrom, Cond.selects RX4 yX4_takeFrom yX4_takeFrom, Cond.code yX4_takeFrom cX4_takeFrom 4 (some .int), Cond.fieldLink RX4 63 "CheckpointedStream" "numberUnderWay" "I", Cond.methodLink RX4 229 yX0_removeFirst, Cond.instanceMethod yX0_removeFirst, Cond.selects RX0 yX0_removeFirst yX0_removeFirst, Cond.code yX0_removeFirst cX0_removeFirst 7 (some .int), Cond.fieldLink RX0 9 "CheckpointedStream$Channels" "items" "[I"]
def wsL_take_r3 : List Cond := [Cond.methodLink RX4 223 yX4_keyOf, Cond.static yX4_keyOf, Cond.code yX4_keyOf cX4_keyOf 1 (some .int), Cond.methodLink RX4 232 yX4_valueOf, Cond.static yX4_valueOf, Cond.code yX4_valueOf cX4_valueOf 1 (some .int), Cond.methodLink RX4 235 yX4_takeEvent, Cond.instanceMethod yX4_takeEvent, Cond.selects RX4 yX4_takeEvent yX4_takeEvent, Cond.code yX4_takeEvent cX4_takeEvent 3 (some .int), Cond.fieldLink RX4 33 "CheckpointedStream" "state" "LCheckpointedStream$Tally;", Cond.fieldLink RX4 37 "CheckpointedStream" "openTallies" "LCheckpointedStream$Tally;", Cond.fieldLink RX4 203 "CheckpointedStream$Tally" "counts" "[I", Cond.methodLink RX4 242 yX3_add, Cond.instanceMethod yX3_add, Cond.selects RX3 yX3_add yX3_add, Cond.initialized RX3, Cond.code yX3_add cX3_add 4 none, Cond.fieldLink RX3 9 "CheckpointedStream$Tally" "counts" "[I", Cond.fieldLink RX3 15 "CheckpointedStream$Tally" "sums" "[I", Cond.methodLink RX4 238 yX4_takeBarrier, Cond.instanceMethod yX4_takeBarrier, Cond.selects RX4 yX4_takeBarrier yX4_takeBarrier, Cond.code yX4_takeBarrier cX4_takeBarrier 3 none]
def wsL_take_r4 : List Cond := [Cond.methodLink RX4 244 yX0_block, Cond.instanceMethod yX0_block, Cond.selects RX0 yX0_block yX0_block, Cond.code yX0_block cX0_block 3 none, Cond.methodLink RX4 247 yX0_areAllBlocked, Cond.instanceMethod yX0_areAllBlocked, Cond.selects RX0 yX0_areAllBlocked yX0_areAllBlocked, Cond.code yX0_areAllBlocked cX0_areAllBlocked 3 (some .boolean), Cond.methodLink RX4 250 yX4_sealTransaction, Cond.instanceMethod yX4_sealTransaction, Cond.selects RX4 yX4_sealTransaction yX4_sealTransaction, Cond.code yX4_sealTransaction cX4_sealTransaction 3 none, Cond.fieldLink RX4 43 "CheckpointedStream" "keeping" "LCheckpointedStream$Tally;", Cond.fieldLink RX4 40 "CheckpointedStream" "sealedTallies" "LCheckpointedStream$Tally;", Cond.fieldLink RX4 52 "CheckpointedStream" "sealedFor" "[I", Cond.methodLink RX4 200 yX4_ownerOfKey, Cond.instanceMethod yX4_ownerOfKey, Cond.selects RX4 yX4_ownerOfKey yX4_ownerOfKey, Cond.code yX4_ownerOfKey cX4_ownerOfKey 2 (some .int), Cond.methodLink RX4 175 yX4_ownerOfGroup, Cond.static yX4_ownerOfGroup, Cond.code yX4_ownerOfGroup cX4_ownerOfGroup 2 (some .int), Cond.methodLink RX4 253 yX3_copyKey, Cond.instanceMethod yX3_copyKey]
def wsL_take_r5 : List Cond := [Cond.selects RX3 yX3_copyKey yX3_copyKey, Cond.code yX3_copyKey cX3_copyKey 3 none, Cond.methodLink RX4 166 yX4_moveTallies, Cond.instanceMethod yX4_moveTallies, Cond.selects RX4 yX4_moveTallies yX4_moveTallies, Cond.code yX4_moveTallies cX4_moveTallies 6 (some .int), Cond.fieldLink RX4 206 "CheckpointedStream$Tally" "sums" "[I", Cond.methodLink RX4 270 yX3_clearKey, Cond.instanceMethod yX3_clearKey, Cond.selects RX3 yX3_clearKey yX3_clearKey, Cond.code yX3_clearKey cX3_clearKey 2 none, Cond.methodLink RX4 163 yX0_unblockAll, Cond.instanceMethod yX0_unblockAll, Cond.selects RX0 yX0_unblockAll yX0_unblockAll, Cond.code yX0_unblockAll cX0_unblockAll 3 none, Cond.methodLink RX4 257 yX4_haveAllSealed, Cond.instanceMethod yX4_haveAllSealed, Cond.selects RX4 yX4_haveAllSealed yX4_haveAllSealed, Cond.code yX4_haveAllSealed cX4_haveAllSealed 2 (some .boolean), Cond.methodLink RX4 260 yX4_completeCheckpoint, Cond.instanceMethod yX4_completeCheckpoint, Cond.selects RX4 yX4_completeCheckpoint yX4_completeCheckpoint, Cond.code yX4_completeCheckpoint cX4_completeCheckpoint 1 none, Cond.fieldLink RX4 46 "CheckpointedStream" "kept" "LCheckpointedStream$Tally;"]
def wsL_take_r6 : List Cond := [Cond.fieldLink RX4 19 "CheckpointedStream" "readers" "LCheckpointedStream$Readers;", Cond.fieldLink RX4 66 "CheckpointedStream" "latestComplete" "I", Cond.methodLink RX4 263 yX3_copyAll, Cond.instanceMethod yX3_copyAll, Cond.selects RX3 yX3_copyAll yX3_copyAll, Cond.code yX3_copyAll cX3_copyAll 3 none, Cond.methodLink RX4 267 yX2_keepAll, Cond.instanceMethod yX2_keepAll, Cond.selects RX2 yX2_keepAll yX2_keepAll, Cond.initialized RX2, Cond.code yX2_keepAll cX2_keepAll 2 none, Cond.fieldLink RX2 15 "CheckpointedStream$Readers" "kept" "[I", Cond.fieldLink RX2 22 "CheckpointedStream$Readers" "keeping" "[I"]
def wsL_take : List Cond := .codeWith yL_take cL_take 5 (some .int) [(0, 10, 13, 13), (0, 10, 17, 17)] :: ((wsL_take_r1 ++ (wsL_take_r2 ++ (wsL_take_r3 ++ (wsL_take_r4 ++ (wsL_take_r5 ++ wsL_take_r6))))) ++ wsX40 ++ wsX00 ++ wsX30 ++ wsX20 ++ (vx_atS RX4 90 "java/lang/IllegalStateException" ["java/lang/RuntimeException", "java/lang/Exception"]).filter goodWord ++ (vx_atS RX4 185 "java/lang/IndexOutOfBoundsException" ["java/lang/RuntimeException", "java/lang/Exception"]).filter goodWord)
def wsL_pump_r1 : List Cond := [Cond.classLink RL 15 "java/lang/IllegalArgumentException", Cond.methodLink RL 30 yX4_pump, Cond.instanceMethod yX4_pump, Cond.selects RX4 yX4_pump yX4_pump, Cond.initialized RX4, Cond.code yX4_pump cX4_pump 4 (some .int), Cond.classLink RX4 76 "java/lang/IllegalArgumentException", Cond.initialized "java/lang/IllegalArgumentException", Cond.methodLink RX4 137 yX4_readRound, Cond.instanceMethod yX4_readRound, Cond.selects RX4 yX4_readRound yX4_readRound, Cond.code yX4_readRound cX4_readRound 3 (some .int), Cond.methodLink RX4 95 yX4_canReadFrom, Cond.instanceMethod yX4_canReadFrom, Cond.selects RX4 yX4_canReadFrom yX4_canReadFrom, Cond.code yX4_canReadFrom cX4_canReadFrom 4 (some .boolean), Cond.fieldLink RX4 19 "CheckpointedStream" "readers" "LCheckpointedStream$Readers;", Cond.fieldLink RX4 178 "CheckpointedStream$Readers" "offsets" "[I", Cond.fieldLink RX4 10 "CheckpointedStream" "rows" "LCheckpointedStream$EventRows;", Cond.fieldLink RX4 83 "CheckpointedStream$EventRows" "lengths" "[I", Cond.fieldLink RX4 26 "CheckpointedStream" "channels" "LCheckpointedStream$Channels;", Cond.methodLink RX4 186 yX1_get, Cond.instanceMethod yX1_get, Cond.selects RX1 yX1_get yX1_get]
def wsL_pump_r2 : List Cond := [Cond.initialized RX1, Cond.code yX1_get cX1_get 3 (some .int), Cond.fieldLink RX1 15 "CheckpointedStream$EventRows" "events" "[I", Cond.methodLink RX4 223 yX4_keyOf, Cond.static yX4_keyOf, Cond.code yX4_keyOf cX4_keyOf 1 (some .int), Cond.methodLink RX4 200 yX4_ownerOfKey, Cond.instanceMethod yX4_ownerOfKey, Cond.selects RX4 yX4_ownerOfKey yX4_ownerOfKey, Cond.code yX4_ownerOfKey cX4_ownerOfKey 2 (some .int), Cond.fieldLink RX4 56 "CheckpointedStream" "workerCount" "I", Cond.methodLink RX4 175 yX4_ownerOfGroup, Cond.static yX4_ownerOfGroup, Cond.code yX4_ownerOfGroup cX4_ownerOfGroup 2 (some .int), Cond.methodLink RX4 226 yX0_hasRoom, Cond.instanceMethod yX0_hasRoom, Cond.selects RX0 yX0_hasRoom yX0_hasRoom, Cond.initialized RX0, Cond.code yX0_hasRoom cX0_hasRoom 3 (some .boolean), Cond.methodLink RX0 26 yX0_size, Cond.instanceMethod yX0_size, Cond.selects RX0 yX0_size yX0_size, Cond.code yX0_size cX0_size 3 (some .int), Cond.fieldLink RX0 15 "CheckpointedStream$Channels" "sizes" "[I"]
def wsL_pump_r3 : List Cond := [Cond.methodLink RX0 22 yX0_channelOf, Cond.static yX0_channelOf, Cond.code yX0_channelOf cX0_channelOf 2 (some .int), Cond.methodLink RX4 101 yX4_readFrom, Cond.instanceMethod yX4_readFrom, Cond.selects RX4 yX4_readFrom yX4_readFrom, Cond.code yX4_readFrom cX4_readFrom 4 (some .int), Cond.methodLink RX4 116 yX0_put, Cond.instanceMethod yX0_put, Cond.selects RX0 yX0_put yX0_put, Cond.code yX0_put cX0_put 5 none, Cond.fieldLink RX0 9 "CheckpointedStream$Channels" "items" "[I", Cond.methodLink RX4 141 yX4_takeRound, Cond.instanceMethod yX4_takeRound, Cond.selects RX4 yX4_takeRound yX4_takeRound, Cond.code yX4_takeRound cX4_takeRound 4 (some .int), Cond.methodLink RX4 126 yX0_canGive, Cond.instanceMethod yX0_canGive, Cond.selects RX0 yX0_canGive yX0_canGive, Cond.code yX0_canGive cX0_canGive 3 (some .boolean), Cond.methodLink RX0 29 yX0_isShut, Cond.instanceMethod yX0_isShut, Cond.selects RX0 yX0_isShut yX0_isShut, Cond.code yX0_isShut cX0_isShut 3 (some .boolean)]
def wsL_pump_r4 : List Cond := [Cond.fieldLink RX0 18 "CheckpointedStream$Channels" "blocked" "[Z", Cond.methodLink RX4 132 yX4_takeFrom, Cond.instanceMethod yX4_takeFrom, Cond.selects RX4 yX4_takeFrom yX4_takeFrom, Cond.code yX4_takeFrom cX4_takeFrom 4 (some .int), Cond.fieldLink RX4 63 "CheckpointedStream" "numberUnderWay" "I", Cond.methodLink RX4 229 yX0_removeFirst, Cond.instanceMethod yX0_removeFirst, Cond.selects RX0 yX0_removeFirst yX0_removeFirst, Cond.code yX0_removeFirst cX0_removeFirst 7 (some .int), Cond.methodLink RX4 232 yX4_valueOf, Cond.static yX4_valueOf, Cond.code yX4_valueOf cX4_valueOf 1 (some .int), Cond.methodLink RX4 235 yX4_takeEvent, Cond.instanceMethod yX4_takeEvent, Cond.selects RX4 yX4_takeEvent yX4_takeEvent, Cond.code yX4_takeEvent cX4_takeEvent 3 (some .int), Cond.fieldLink RX4 33 "CheckpointedStream" "state" "LCheckpointedStream$Tally;", Cond.fieldLink RX4 37 "CheckpointedStream" "openTallies" "LCheckpointedStream$Tally;", Cond.fieldLink RX4 203 "CheckpointedStream$Tally" "counts" "[I", Cond.methodLink RX4 242 yX3_add, Cond.instanceMethod yX3_add, Cond.selects RX3 yX3_add yX3_add, Cond.initialized RX3]
def wsL_pump_r5 : List Cond := [Cond.code yX3_add cX3_add 4 none, Cond.fieldLink RX3 9 "CheckpointedStream$Tally" "counts" "[I", Cond.fieldLink RX3 15 "CheckpointedStream$Tally" "sums" "[I", Cond.methodLink RX4 238 yX4_takeBarrier, Cond.instanceMethod yX4_takeBarrier, Cond.selects RX4 yX4_takeBarrier yX4_takeBarrier, Cond.code yX4_takeBarrier cX4_takeBarrier 3 none, Cond.methodLink RX4 244 yX0_block, Cond.instanceMethod yX0_block, Cond.selects RX0 yX0_block yX0_block, Cond.code yX0_block cX0_block 3 none, Cond.methodLink RX4 247 yX0_areAllBlocked, Cond.instanceMethod yX0_areAllBlocked, Cond.selects RX0 yX0_areAllBlocked yX0_areAllBlocked, Cond.code yX0_areAllBlocked cX0_areAllBlocked 3 (some .boolean), Cond.methodLink RX4 250 yX4_sealTransaction, Cond.instanceMethod yX4_sealTransaction, Cond.selects RX4 yX4_sealTransaction yX4_sealTransaction, Cond.code yX4_sealTransaction cX4_sealTransaction 3 none, Cond.fieldLink RX4 43 "CheckpointedStream" "keeping" "LCheckpointedStream$Tally;", Cond.fieldLink RX4 40 "CheckpointedStream" "sealedTallies" "LCheckpointedStream$Tally;", Cond.fieldLink RX4 52 "CheckpointedStream" "sealedFor" "[I", Cond.methodLink RX4 253 yX3_copyKey, Cond.instanceMethod yX3_copyKey]
def wsL_pump_r6 : List Cond := [Cond.selects RX3 yX3_copyKey yX3_copyKey, Cond.code yX3_copyKey cX3_copyKey 3 none, Cond.methodLink RX4 166 yX4_moveTallies, Cond.instanceMethod yX4_moveTallies, Cond.selects RX4 yX4_moveTallies yX4_moveTallies, Cond.code yX4_moveTallies cX4_moveTallies 6 (some .int), Cond.fieldLink RX4 206 "CheckpointedStream$Tally" "sums" "[I", Cond.methodLink RX4 270 yX3_clearKey, Cond.instanceMethod yX3_clearKey, Cond.selects RX3 yX3_clearKey yX3_clearKey, Cond.code yX3_clearKey cX3_clearKey 2 none, Cond.methodLink RX4 163 yX0_unblockAll, Cond.instanceMethod yX0_unblockAll, Cond.selects RX0 yX0_unblockAll yX0_unblockAll, Cond.code yX0_unblockAll cX0_unblockAll 3 none, Cond.methodLink RX4 257 yX4_haveAllSealed, Cond.instanceMethod yX4_haveAllSealed, Cond.selects RX4 yX4_haveAllSealed yX4_haveAllSealed, Cond.code yX4_haveAllSealed cX4_haveAllSealed 2 (some .boolean), Cond.methodLink RX4 260 yX4_completeCheckpoint, Cond.instanceMethod yX4_completeCheckpoint, Cond.selects RX4 yX4_completeCheckpoint yX4_completeCheckpoint, Cond.code yX4_completeCheckpoint cX4_completeCheckpoint 1 none, Cond.fieldLink RX4 46 "CheckpointedStream" "kept" "LCheckpointedStream$Tally;"]
def wsL_pump_r7 : List Cond := [Cond.fieldLink RX4 66 "CheckpointedStream" "latestComplete" "I", Cond.methodLink RX4 263 yX3_copyAll, Cond.instanceMethod yX3_copyAll, Cond.selects RX3 yX3_copyAll yX3_copyAll, Cond.code yX3_copyAll cX3_copyAll 3 none, Cond.methodLink RX4 267 yX2_keepAll, Cond.instanceMethod yX2_keepAll, Cond.selects RX2 yX2_keepAll yX2_keepAll, Cond.initialized RX2, Cond.code yX2_keepAll cX2_keepAll 2 none, Cond.fieldLink RX2 15 "CheckpointedStream$Readers" "kept" "[I", Cond.fieldLink RX2 22 "CheckpointedStream$Readers" "keeping" "[I"]
def wsL_pump : List Cond := .codeWith yL_pump cL_pump 4 (some .int) [(0, 9, 12, 15)] :: ((wsL_pump_r1 ++ (wsL_pump_r2 ++ (wsL_pump_r3 ++ (wsL_pump_r4 ++ (wsL_pump_r5 ++ (wsL_pump_r6 ++ wsL_pump_r7)))))) ++ wsX40 ++ wsX20 ++ wsX10 ++ wsX00 ++ wsX30 ++ (vx_atS RX4 80 "java/lang/IllegalArgumentException" ["java/lang/RuntimeException", "java/lang/Exception"]).filter goodWord)
def wsL_commit_r1 : List Cond := [Cond.classLink RL 13 "java/lang/IndexOutOfBoundsException", Cond.classLink RL 17 "java/lang/IllegalStateException", Cond.methodLink RL 33 yX4_commit, Cond.instanceMethod yX4_commit, Cond.selects RX4 yX4_commit yX4_commit, Cond.initialized RX4, Cond.code yX4_commit cX4_commit 2 (some .int), Cond.classLink RX4 86 "java/lang/IllegalStateException", Cond.initialized "java/lang/IllegalStateException", Cond.methodLink RX4 123 yX4_requireWorker, Cond.instanceMethod yX4_requireWorker, Cond.selects RX4 yX4_requireWorker yX4_requireWorker, Cond.code yX4_requireWorker cX4_requireWorker 2 none, Cond.classLink RX4 181 "java/lang/IndexOutOfBoundsException", Cond.initialized "java/lang/IndexOutOfBoundsException", Cond.fieldLink RX4 56 "CheckpointedStream" "workerCount" "I", Cond.methodLink RX4 144 yX4_isReadyToCommit, Cond.instanceMethod yX4_isReadyToCommit, Cond.selects RX4 yX4_isReadyToCommit yX4_isReadyToCommit, Cond.code yX4_isReadyToCommit cX4_isReadyToCommit 2 (some .boolean), Cond.fieldLink RX4 52 "CheckpointedStream" "sealedFor" "[I", Cond.fieldLink RX4 66 "CheckpointedStream" "latestComplete" "I", Cond.methodLink RX4 149 yX4_commitSealed, Cond.instanceMethod yX4_commitSealed]
def wsL_commit_r2 : List Cond := [Cond.selects RX4 yX4_commitSealed yX4_commitSealed, Cond.code yX4_commitSealed cX4_commitSealed 2 (some .int), Cond.fieldLink RX4 40 "CheckpointedStream" "sealedTallies" "LCheckpointedStream$Tally;", Cond.fieldLink RX4 49 "CheckpointedStream" "sink" "LCheckpointedStream$Tally;", Cond.methodLink RX4 166 yX4_moveTallies, Cond.instanceMethod yX4_moveTallies, Cond.selects RX4 yX4_moveTallies yX4_moveTallies, Cond.code yX4_moveTallies cX4_moveTallies 6 (some .int), Cond.fieldLink RX4 203 "CheckpointedStream$Tally" "counts" "[I", Cond.fieldLink RX4 206 "CheckpointedStream$Tally" "sums" "[I", Cond.methodLink RX4 200 yX4_ownerOfKey, Cond.instanceMethod yX4_ownerOfKey, Cond.selects RX4 yX4_ownerOfKey yX4_ownerOfKey, Cond.code yX4_ownerOfKey cX4_ownerOfKey 2 (some .int), Cond.methodLink RX4 175 yX4_ownerOfGroup, Cond.static yX4_ownerOfGroup, Cond.code yX4_ownerOfGroup cX4_ownerOfGroup 2 (some .int), Cond.methodLink RX4 242 yX3_add, Cond.instanceMethod yX3_add, Cond.selects RX3 yX3_add yX3_add, Cond.initialized RX3, Cond.code yX3_add cX3_add 4 none, Cond.fieldLink RX3 9 "CheckpointedStream$Tally" "counts" "[I", Cond.fieldLink RX3 15 "CheckpointedStream$Tally" "sums" "[I"]
def wsL_commit_r3 : List Cond := [Cond.methodLink RX4 270 yX3_clearKey, Cond.instanceMethod yX3_clearKey, Cond.selects RX3 yX3_clearKey yX3_clearKey, Cond.code yX3_clearKey cX3_clearKey 2 none]
def wsL_commit : List Cond := .codeWith yL_commit cL_commit 4 (some .int) [(0, 9, 12, 13), (0, 9, 15, 17)] :: ((wsL_commit_r1 ++ (wsL_commit_r2 ++ wsL_commit_r3)) ++ wsX40 ++ wsX30 ++ (vx_atS RX4 90 "java/lang/IllegalStateException" ["java/lang/RuntimeException", "java/lang/Exception"]).filter goodWord ++ (vx_atS RX4 185 "java/lang/IndexOutOfBoundsException" ["java/lang/RuntimeException", "java/lang/Exception"]).filter goodWord)
def wsL_beginCheckpoint : List Cond := .codeWith yL_beginCheckpoint cL_beginCheckpoint 3 (some .int) [(0, 8, 11, 17)] :: ([.classLink RL 17 "java/lang/IllegalStateException", .methodLink RL 36 yX4_beginCheckpoint, .instanceMethod yX4_beginCheckpoint, .selects RX4 yX4_beginCheckpoint yX4_beginCheckpoint, .initialized RX4, .code yX4_beginCheckpoint cX4_beginCheckpoint 1 (some .int), .classLink RX4 86 "java/lang/IllegalStateException", .initialized "java/lang/IllegalStateException", .fieldLink RX4 63 "CheckpointedStream" "numberUnderWay" "I", .fieldLink RX4 60 "CheckpointedStream" "lastBegun" "I", .fieldLink RX4 19 "CheckpointedStream" "readers" "LCheckpointedStream$Readers;", .methodLink RX4 152 yX4_hasAnySealed, .instanceMethod yX4_hasAnySealed, .selects RX4 yX4_hasAnySealed yX4_hasAnySealed, .code yX4_hasAnySealed cX4_hasAnySealed 2 (some .boolean), .fieldLink RX4 56 "CheckpointedStream" "workerCount" "I", .fieldLink RX4 52 "CheckpointedStream" "sealedFor" "[I", .methodLink RX4 158 yX2_forgetBarriers, .instanceMethod yX2_forgetBarriers, .selects RX2 yX2_forgetBarriers yX2_forgetBarriers, .initialized RX2, .code yX2_forgetBarriers cX2_forgetBarriers 2 none, .fieldLink RX2 18 "CheckpointedStream$Readers" "sent" "[Z"] ++ wsX40 ++ wsX20 ++ (vx_atS RX4 90 "java/lang/IllegalStateException" ["java/lang/RuntimeException", "java/lang/Exception"]).filter goodWord)
def wsL_abandon_r1 : List Cond := [Cond.classLink RL 17 "java/lang/IllegalStateException", Cond.methodLink RL 40 yX4_abandon, Cond.instanceMethod yX4_abandon, Cond.selects RX4 yX4_abandon yX4_abandon, Cond.initialized RX4, Cond.code yX4_abandon cX4_abandon 3 (some .int), Cond.classLink RX4 86 "java/lang/IllegalStateException", Cond.initialized "java/lang/IllegalStateException", Cond.fieldLink RX4 63 "CheckpointedStream" "numberUnderWay" "I", Cond.fieldLink RX4 56 "CheckpointedStream" "workerCount" "I", Cond.fieldLink RX4 26 "CheckpointedStream" "channels" "LCheckpointedStream$Channels;", Cond.fieldLink RX4 52 "CheckpointedStream" "sealedFor" "[I", Cond.fieldLink RX4 40 "CheckpointedStream" "sealedTallies" "LCheckpointedStream$Tally;", Cond.fieldLink RX4 37 "CheckpointedStream" "openTallies" "LCheckpointedStream$Tally;", Cond.methodLink RX4 163 yX0_unblockAll, Cond.instanceMethod yX0_unblockAll, Cond.selects RX0 yX0_unblockAll yX0_unblockAll, Cond.initialized RX0, Cond.code yX0_unblockAll cX0_unblockAll 3 none, Cond.fieldLink RX0 18 "CheckpointedStream$Channels" "blocked" "[Z", Cond.methodLink RX0 22 yX0_channelOf, Cond.static yX0_channelOf, Cond.code yX0_channelOf cX0_channelOf 2 (some .int), Cond.methodLink RX4 166 yX4_moveTallies]
def wsL_abandon_r2 : List Cond := [Cond.instanceMethod yX4_moveTallies, Cond.selects RX4 yX4_moveTallies yX4_moveTallies, Cond.code yX4_moveTallies cX4_moveTallies 6 (some .int), Cond.fieldLink RX4 203 "CheckpointedStream$Tally" "counts" "[I", Cond.fieldLink RX4 206 "CheckpointedStream$Tally" "sums" "[I", Cond.methodLink RX4 200 yX4_ownerOfKey, Cond.instanceMethod yX4_ownerOfKey, Cond.selects RX4 yX4_ownerOfKey yX4_ownerOfKey, Cond.code yX4_ownerOfKey cX4_ownerOfKey 2 (some .int), Cond.methodLink RX4 175 yX4_ownerOfGroup, Cond.static yX4_ownerOfGroup, Cond.code yX4_ownerOfGroup cX4_ownerOfGroup 2 (some .int), Cond.methodLink RX4 242 yX3_add, Cond.instanceMethod yX3_add, Cond.selects RX3 yX3_add yX3_add, Cond.initialized RX3, Cond.code yX3_add cX3_add 4 none, Cond.fieldLink RX3 9 "CheckpointedStream$Tally" "counts" "[I", Cond.fieldLink RX3 15 "CheckpointedStream$Tally" "sums" "[I", Cond.methodLink RX4 270 yX3_clearKey, Cond.instanceMethod yX3_clearKey, Cond.selects RX3 yX3_clearKey yX3_clearKey, Cond.code yX3_clearKey cX3_clearKey 2 none]
def wsL_abandon : List Cond := .codeWith yL_abandon cL_abandon 3 (some .int) [(0, 8, 11, 17)] :: ((wsL_abandon_r1 ++ wsL_abandon_r2) ++ wsX40 ++ wsX00 ++ wsX30 ++ (vx_atS RX4 90 "java/lang/IllegalStateException" ["java/lang/RuntimeException", "java/lang/Exception"]).filter goodWord)
def wsL_rescale_r1 : List Cond := [Cond.classLink RL 15 "java/lang/IllegalArgumentException", Cond.methodLink RL 43 yX4_rescale, Cond.instanceMethod yX4_rescale, Cond.selects RX4 yX4_rescale yX4_rescale, Cond.initialized RX4, Cond.code yX4_rescale cX4_rescale 4 (some .int), Cond.classLink RX4 76 "java/lang/IllegalArgumentException", Cond.initialized "java/lang/IllegalArgumentException", Cond.fieldLink RX4 56 "CheckpointedStream" "workerCount" "I", Cond.methodLink RX4 175 yX4_ownerOfGroup, Cond.static yX4_ownerOfGroup, Cond.code yX4_ownerOfGroup cX4_ownerOfGroup 2 (some .int), Cond.methodLink RX4 170 yX4_startAgain, Cond.instanceMethod yX4_startAgain, Cond.selects RX4 yX4_startAgain yX4_startAgain, Cond.code yX4_startAgain cX4_startAgain 3 none, Cond.fieldLink RX4 52 "CheckpointedStream" "sealedFor" "[I", Cond.fieldLink RX4 63 "CheckpointedStream" "numberUnderWay" "I", Cond.fieldLink RX4 37 "CheckpointedStream" "openTallies" "LCheckpointedStream$Tally;", Cond.fieldLink RX4 40 "CheckpointedStream" "sealedTallies" "LCheckpointedStream$Tally;", Cond.fieldLink RX4 26 "CheckpointedStream" "channels" "LCheckpointedStream$Channels;", Cond.fieldLink RX4 19 "CheckpointedStream" "readers" "LCheckpointedStream$Readers;", Cond.fieldLink RX4 33 "CheckpointedStream" "state" "LCheckpointedStream$Tally;", Cond.fieldLink RX4 46 "CheckpointedStream" "kept" "LCheckpointedStream$Tally;"]
def wsL_rescale_r2 : List Cond := [Cond.methodLink RX4 144 yX4_isReadyToCommit, Cond.instanceMethod yX4_isReadyToCommit, Cond.selects RX4 yX4_isReadyToCommit yX4_isReadyToCommit, Cond.code yX4_isReadyToCommit cX4_isReadyToCommit 2 (some .boolean), Cond.fieldLink RX4 66 "CheckpointedStream" "latestComplete" "I", Cond.methodLink RX4 149 yX4_commitSealed, Cond.instanceMethod yX4_commitSealed, Cond.selects RX4 yX4_commitSealed yX4_commitSealed, Cond.code yX4_commitSealed cX4_commitSealed 2 (some .int), Cond.fieldLink RX4 49 "CheckpointedStream" "sink" "LCheckpointedStream$Tally;", Cond.methodLink RX4 166 yX4_moveTallies, Cond.instanceMethod yX4_moveTallies, Cond.selects RX4 yX4_moveTallies yX4_moveTallies, Cond.code yX4_moveTallies cX4_moveTallies 6 (some .int), Cond.fieldLink RX4 203 "CheckpointedStream$Tally" "counts" "[I", Cond.fieldLink RX4 206 "CheckpointedStream$Tally" "sums" "[I", Cond.methodLink RX4 200 yX4_ownerOfKey, Cond.instanceMethod yX4_ownerOfKey, Cond.selects RX4 yX4_ownerOfKey yX4_ownerOfKey, Cond.code yX4_ownerOfKey cX4_ownerOfKey 2 (some .int), Cond.methodLink RX4 242 yX3_add, Cond.instanceMethod yX3_add, Cond.selects RX3 yX3_add yX3_add, Cond.initialized RX3]
def wsL_rescale_r3 : List Cond := [Cond.code yX3_add cX3_add 4 none, Cond.fieldLink RX3 9 "CheckpointedStream$Tally" "counts" "[I", Cond.fieldLink RX3 15 "CheckpointedStream$Tally" "sums" "[I", Cond.methodLink RX4 270 yX3_clearKey, Cond.instanceMethod yX3_clearKey, Cond.selects RX3 yX3_clearKey yX3_clearKey, Cond.code yX3_clearKey cX3_clearKey 2 none, Cond.methodLink RX4 273 yX3_clearAll, Cond.instanceMethod yX3_clearAll, Cond.selects RX3 yX3_clearAll yX3_clearAll, Cond.code yX3_clearAll cX3_clearAll 2 none, Cond.methodLink RX3 18 yX3_clearKey, Cond.methodLink RX4 276 yX0_clearAll, Cond.instanceMethod yX0_clearAll, Cond.selects RX0 yX0_clearAll yX0_clearAll, Cond.initialized RX0, Cond.code yX0_clearAll cX0_clearAll 2 none, Cond.fieldLink RX0 15 "CheckpointedStream$Channels" "sizes" "[I", Cond.fieldLink RX0 18 "CheckpointedStream$Channels" "blocked" "[Z", Cond.methodLink RX4 277 yX2_returnToKept, Cond.instanceMethod yX2_returnToKept, Cond.selects RX2 yX2_returnToKept yX2_returnToKept, Cond.initialized RX2, Cond.code yX2_returnToKept cX2_returnToKept 2 none]
def wsL_rescale_r4 : List Cond := [Cond.fieldLink RX2 9 "CheckpointedStream$Readers" "offsets" "[I", Cond.fieldLink RX2 15 "CheckpointedStream$Readers" "kept" "[I", Cond.methodLink RX4 263 yX3_copyAll, Cond.instanceMethod yX3_copyAll, Cond.selects RX3 yX3_copyAll yX3_copyAll, Cond.code yX3_copyAll cX3_copyAll 3 none]
def wsL_rescale : List Cond := .codeWith yL_rescale cL_rescale 4 (some .int) [(0, 9, 12, 15)] :: ((wsL_rescale_r1 ++ (wsL_rescale_r2 ++ (wsL_rescale_r3 ++ wsL_rescale_r4))) ++ wsX40 ++ wsX30 ++ wsX00 ++ wsX20 ++ (vx_atS RX4 80 "java/lang/IllegalArgumentException" ["java/lang/RuntimeException", "java/lang/Exception"]).filter goodWord)
def wsL_events : List Cond := .codeWith yL_events cL_events 4 (some .int) [(0, 9, 12, 13)] :: ([.classLink RL 13 "java/lang/IndexOutOfBoundsException", .methodLink RL 46 yX4_events, .instanceMethod yX4_events, .selects RX4 yX4_events yX4_events, .initialized RX4, .code yX4_events cX4_events 2 (some .int), .fieldLink RX4 10 "CheckpointedStream" "rows" "LCheckpointedStream$EventRows;", .fieldLink RX4 83 "CheckpointedStream$EventRows" "lengths" "[I", .methodLink RX4 69 yX4_requirePartition, .static yX4_requirePartition, .code yX4_requirePartition cX4_requirePartition 1 none, .classLink RX4 181 "java/lang/IndexOutOfBoundsException", .initialized "java/lang/IndexOutOfBoundsException"] ++ wsX40 ++ wsX10 ++ (vx_atS RX4 185 "java/lang/IndexOutOfBoundsException" ["java/lang/RuntimeException", "java/lang/Exception"]).filter goodWord)
def wsL_offset : List Cond := .codeWith yL_offset cL_offset 4 (some .int) [(0, 9, 12, 13)] :: ([.classLink RL 13 "java/lang/IndexOutOfBoundsException", .methodLink RL 49 yX4_offset, .instanceMethod yX4_offset, .selects RX4 yX4_offset yX4_offset, .initialized RX4, .code yX4_offset cX4_offset 2 (some .int), .fieldLink RX4 19 "CheckpointedStream" "readers" "LCheckpointedStream$Readers;", .fieldLink RX4 178 "CheckpointedStream$Readers" "offsets" "[I", .methodLink RX4 69 yX4_requirePartition, .static yX4_requirePartition, .code yX4_requirePartition cX4_requirePartition 1 none, .classLink RX4 181 "java/lang/IndexOutOfBoundsException", .initialized "java/lang/IndexOutOfBoundsException"] ++ wsX40 ++ wsX20 ++ (vx_atS RX4 185 "java/lang/IndexOutOfBoundsException" ["java/lang/RuntimeException", "java/lang/Exception"]).filter goodWord)
def wsL_eventAt : List Cond := .codeWith yL_eventAt cL_eventAt 5 (some .int) [(0, 10, 13, 13)] :: ([.classLink RL 13 "java/lang/IndexOutOfBoundsException", .methodLink RL 52 yX4_eventAt, .instanceMethod yX4_eventAt, .selects RX4 yX4_eventAt yX4_eventAt, .initialized RX4, .code yX4_eventAt cX4_eventAt 3 (some .int), .classLink RX4 181 "java/lang/IndexOutOfBoundsException", .initialized "java/lang/IndexOutOfBoundsException", .fieldLink RX4 10 "CheckpointedStream" "rows" "LCheckpointedStream$EventRows;", .fieldLink RX4 83 "CheckpointedStream$EventRows" "lengths" "[I", .methodLink RX4 69 yX4_requirePartition, .static yX4_requirePartition, .code yX4_requirePartition cX4_requirePartition 1 none, .methodLink RX4 186 yX1_get, .instanceMethod yX1_get, .selects RX1 yX1_get yX1_get, .initialized RX1, .code yX1_get cX1_get 3 (some .int), .fieldLink RX1 15 "CheckpointedStream$EventRows" "events" "[I"] ++ wsX40 ++ wsX10 ++ (vx_atS RX4 185 "java/lang/IndexOutOfBoundsException" ["java/lang/RuntimeException", "java/lang/Exception"]).filter goodWord)
def wsL_queued_r1 : List Cond := [Cond.classLink RL 13 "java/lang/IndexOutOfBoundsException", Cond.methodLink RL 55 yX4_queued, Cond.instanceMethod yX4_queued, Cond.selects RX4 yX4_queued yX4_queued, Cond.initialized RX4, Cond.code yX4_queued cX4_queued 3 (some .int), Cond.fieldLink RX4 26 "CheckpointedStream" "channels" "LCheckpointedStream$Channels;", Cond.methodLink RX4 69 yX4_requirePartition, Cond.static yX4_requirePartition, Cond.code yX4_requirePartition cX4_requirePartition 1 none, Cond.classLink RX4 181 "java/lang/IndexOutOfBoundsException", Cond.initialized "java/lang/IndexOutOfBoundsException", Cond.methodLink RX4 123 yX4_requireWorker, Cond.instanceMethod yX4_requireWorker, Cond.selects RX4 yX4_requireWorker yX4_requireWorker, Cond.code yX4_requireWorker cX4_requireWorker 2 none, Cond.fieldLink RX4 56 "CheckpointedStream" "workerCount" "I", Cond.methodLink RX4 189 yX0_size, Cond.instanceMethod yX0_size, Cond.selects RX0 yX0_size yX0_size, Cond.initialized RX0, Cond.code yX0_size cX0_size 3 (some .int), Cond.fieldLink RX0 15 "CheckpointedStream$Channels" "sizes" "[I", Cond.methodLink RX0 22 yX0_channelOf]
def wsL_queued_r2 : List Cond := [Cond.static yX0_channelOf, Cond.code yX0_channelOf cX0_channelOf 2 (some .int)]
def wsL_queued : List Cond := .codeWith yL_queued cL_queued 5 (some .int) [(0, 10, 13, 13)] :: ((wsL_queued_r1 ++ wsL_queued_r2) ++ wsX40 ++ wsX00 ++ (vx_atS RX4 185 "java/lang/IndexOutOfBoundsException" ["java/lang/RuntimeException", "java/lang/Exception"]).filter goodWord)
def wsL_itemAt_r1 : List Cond := [Cond.classLink RL 13 "java/lang/IndexOutOfBoundsException", Cond.methodLink RL 58 yX4_itemAt, Cond.instanceMethod yX4_itemAt, Cond.selects RX4 yX4_itemAt yX4_itemAt, Cond.initialized RX4, Cond.code yX4_itemAt cX4_itemAt 4 (some .int), Cond.classLink RX4 181 "java/lang/IndexOutOfBoundsException", Cond.initialized "java/lang/IndexOutOfBoundsException", Cond.fieldLink RX4 26 "CheckpointedStream" "channels" "LCheckpointedStream$Channels;", Cond.methodLink RX4 69 yX4_requirePartition, Cond.static yX4_requirePartition, Cond.code yX4_requirePartition cX4_requirePartition 1 none, Cond.methodLink RX4 123 yX4_requireWorker, Cond.instanceMethod yX4_requireWorker, Cond.selects RX4 yX4_requireWorker yX4_requireWorker, Cond.code yX4_requireWorker cX4_requireWorker 2 none, Cond.fieldLink RX4 56 "CheckpointedStream" "workerCount" "I", Cond.methodLink RX4 189 yX0_size, Cond.instanceMethod yX0_size, Cond.selects RX0 yX0_size yX0_size, Cond.initialized RX0, Cond.code yX0_size cX0_size 3 (some .int), Cond.fieldLink RX0 15 "CheckpointedStream$Channels" "sizes" "[I", Cond.methodLink RX0 22 yX0_channelOf]
def wsL_itemAt_r2 : List Cond := [Cond.static yX0_channelOf, Cond.code yX0_channelOf cX0_channelOf 2 (some .int), Cond.methodLink RX4 194 yX0_get, Cond.instanceMethod yX0_get, Cond.selects RX0 yX0_get yX0_get, Cond.code yX0_get cX0_get 4 (some .int), Cond.fieldLink RX0 9 "CheckpointedStream$Channels" "items" "[I"]
def wsL_itemAt : List Cond := .codeWith yL_itemAt cL_itemAt 6 (some .int) [(0, 12, 15, 13)] :: ((wsL_itemAt_r1 ++ wsL_itemAt_r2) ++ wsX40 ++ wsX00 ++ (vx_atS RX4 185 "java/lang/IndexOutOfBoundsException" ["java/lang/RuntimeException", "java/lang/Exception"]).filter goodWord)
def wsL_isBlocked_r1 : List Cond := [Cond.classLink RL 13 "java/lang/IndexOutOfBoundsException", Cond.methodLink RL 61 yX4_isBlocked, Cond.instanceMethod yX4_isBlocked, Cond.selects RX4 yX4_isBlocked yX4_isBlocked, Cond.initialized RX4, Cond.code yX4_isBlocked cX4_isBlocked 3 (some .boolean), Cond.fieldLink RX4 26 "CheckpointedStream" "channels" "LCheckpointedStream$Channels;", Cond.methodLink RX4 69 yX4_requirePartition, Cond.static yX4_requirePartition, Cond.code yX4_requirePartition cX4_requirePartition 1 none, Cond.classLink RX4 181 "java/lang/IndexOutOfBoundsException", Cond.initialized "java/lang/IndexOutOfBoundsException", Cond.methodLink RX4 123 yX4_requireWorker, Cond.instanceMethod yX4_requireWorker, Cond.selects RX4 yX4_requireWorker yX4_requireWorker, Cond.code yX4_requireWorker cX4_requireWorker 2 none, Cond.fieldLink RX4 56 "CheckpointedStream" "workerCount" "I", Cond.methodLink RX4 197 yX0_isShut, Cond.instanceMethod yX0_isShut, Cond.selects RX0 yX0_isShut yX0_isShut, Cond.initialized RX0, Cond.code yX0_isShut cX0_isShut 3 (some .boolean), Cond.fieldLink RX0 18 "CheckpointedStream$Channels" "blocked" "[Z", Cond.methodLink RX0 22 yX0_channelOf]
def wsL_isBlocked_r2 : List Cond := [Cond.static yX0_channelOf, Cond.code yX0_channelOf cX0_channelOf 2 (some .int)]
def wsL_isBlocked : List Cond := .codeWith yL_isBlocked cL_isBlocked 5 (some .int) [(0, 17, 20, 13)] :: ((wsL_isBlocked_r1 ++ wsL_isBlocked_r2) ++ wsX40 ++ wsX00 ++ (vx_atS RX4 185 "java/lang/IndexOutOfBoundsException" ["java/lang/RuntimeException", "java/lang/Exception"]).filter goodWord)
def wsL_workerOf : List Cond := .codeWith yL_workerOf cL_workerOf 4 (some .int) [(0, 9, 12, 13)] :: ([.classLink RL 13 "java/lang/IndexOutOfBoundsException", .methodLink RL 65 yX4_workerOf, .instanceMethod yX4_workerOf, .selects RX4 yX4_workerOf yX4_workerOf, .initialized RX4, .code yX4_workerOf cX4_workerOf 2 (some .int), .methodLink RX4 73 yX4_requireKey, .static yX4_requireKey, .code yX4_requireKey cX4_requireKey 1 none, .classLink RX4 181 "java/lang/IndexOutOfBoundsException", .initialized "java/lang/IndexOutOfBoundsException", .methodLink RX4 200 yX4_ownerOfKey, .instanceMethod yX4_ownerOfKey, .selects RX4 yX4_ownerOfKey yX4_ownerOfKey, .code yX4_ownerOfKey cX4_ownerOfKey 2 (some .int), .fieldLink RX4 56 "CheckpointedStream" "workerCount" "I", .methodLink RX4 175 yX4_ownerOfGroup, .static yX4_ownerOfGroup, .code yX4_ownerOfGroup cX4_ownerOfGroup 2 (some .int)] ++ wsX40 ++ (vx_atS RX4 185 "java/lang/IndexOutOfBoundsException" ["java/lang/RuntimeException", "java/lang/Exception"]).filter goodWord)
def wsL_groupsOf : List Cond := .codeWith yL_groupsOf cL_groupsOf 4 (some .int) [(0, 9, 12, 13)] :: ([.classLink RL 13 "java/lang/IndexOutOfBoundsException", .methodLink RL 68 yX4_groupsOf, .instanceMethod yX4_groupsOf, .selects RX4 yX4_groupsOf yX4_groupsOf, .initialized RX4, .code yX4_groupsOf cX4_groupsOf 5 (some .int), .fieldLink RX4 56 "CheckpointedStream" "workerCount" "I", .methodLink RX4 123 yX4_requireWorker, .instanceMethod yX4_requireWorker, .selects RX4 yX4_requireWorker yX4_requireWorker, .code yX4_requireWorker cX4_requireWorker 2 none, .classLink RX4 181 "java/lang/IndexOutOfBoundsException", .initialized "java/lang/IndexOutOfBoundsException", .methodLink RX4 175 yX4_ownerOfGroup, .static yX4_ownerOfGroup, .code yX4_ownerOfGroup cX4_ownerOfGroup 2 (some .int)] ++ wsX40 ++ (vx_atS RX4 185 "java/lang/IndexOutOfBoundsException" ["java/lang/RuntimeException", "java/lang/Exception"]).filter goodWord)
def wsL_count : List Cond := .codeWith yL_count cL_count 4 (some .int) [(0, 9, 12, 13)] :: ([.classLink RL 13 "java/lang/IndexOutOfBoundsException", .methodLink RL 71 yX4_count, .instanceMethod yX4_count, .selects RX4 yX4_count yX4_count, .initialized RX4, .code yX4_count cX4_count 2 (some .int), .fieldLink RX4 33 "CheckpointedStream" "state" "LCheckpointedStream$Tally;", .fieldLink RX4 203 "CheckpointedStream$Tally" "counts" "[I", .methodLink RX4 73 yX4_requireKey, .static yX4_requireKey, .code yX4_requireKey cX4_requireKey 1 none, .classLink RX4 181 "java/lang/IndexOutOfBoundsException", .initialized "java/lang/IndexOutOfBoundsException"] ++ wsX40 ++ wsX30 ++ (vx_atS RX4 185 "java/lang/IndexOutOfBoundsException" ["java/lang/RuntimeException", "java/lang/Exception"]).filter goodWord)
def wsL_sum : List Cond := .codeWith yL_sum cL_sum 4 (some .int) [(0, 9, 12, 13)] :: ([.classLink RL 13 "java/lang/IndexOutOfBoundsException", .methodLink RL 74 yX4_sum, .instanceMethod yX4_sum, .selects RX4 yX4_sum yX4_sum, .initialized RX4, .code yX4_sum cX4_sum 2 (some .int), .fieldLink RX4 33 "CheckpointedStream" "state" "LCheckpointedStream$Tally;", .fieldLink RX4 206 "CheckpointedStream$Tally" "sums" "[I", .methodLink RX4 73 yX4_requireKey, .static yX4_requireKey, .code yX4_requireKey cX4_requireKey 1 none, .classLink RX4 181 "java/lang/IndexOutOfBoundsException", .initialized "java/lang/IndexOutOfBoundsException"] ++ wsX40 ++ wsX30 ++ (vx_atS RX4 185 "java/lang/IndexOutOfBoundsException" ["java/lang/RuntimeException", "java/lang/Exception"]).filter goodWord)
def wsL_open : List Cond := .codeWith yL_open cL_open 4 (some .int) [(0, 9, 12, 13)] :: ([.classLink RL 13 "java/lang/IndexOutOfBoundsException", .methodLink RL 77 yX4_open, .instanceMethod yX4_open, .selects RX4 yX4_open yX4_open, .initialized RX4, .code yX4_open cX4_open 4 (some .int), .fieldLink RX4 37 "CheckpointedStream" "openTallies" "LCheckpointedStream$Tally;", .fieldLink RX4 203 "CheckpointedStream$Tally" "counts" "[I", .methodLink RX4 123 yX4_requireWorker, .instanceMethod yX4_requireWorker, .selects RX4 yX4_requireWorker yX4_requireWorker, .code yX4_requireWorker cX4_requireWorker 2 none, .classLink RX4 181 "java/lang/IndexOutOfBoundsException", .initialized "java/lang/IndexOutOfBoundsException", .fieldLink RX4 56 "CheckpointedStream" "workerCount" "I", .methodLink RX4 200 yX4_ownerOfKey, .instanceMethod yX4_ownerOfKey, .selects RX4 yX4_ownerOfKey yX4_ownerOfKey, .code yX4_ownerOfKey cX4_ownerOfKey 2 (some .int), .methodLink RX4 175 yX4_ownerOfGroup, .static yX4_ownerOfGroup, .code yX4_ownerOfGroup cX4_ownerOfGroup 2 (some .int)] ++ wsX40 ++ wsX30 ++ (vx_atS RX4 185 "java/lang/IndexOutOfBoundsException" ["java/lang/RuntimeException", "java/lang/Exception"]).filter goodWord)
def wsL_sealed : List Cond := .codeWith yL_sealed cL_sealed 4 (some .int) [(0, 9, 12, 13)] :: ([.classLink RL 13 "java/lang/IndexOutOfBoundsException", .methodLink RL 80 yX4_sealed, .instanceMethod yX4_sealed, .selects RX4 yX4_sealed yX4_sealed, .initialized RX4, .code yX4_sealed cX4_sealed 2 (some .int), .fieldLink RX4 52 "CheckpointedStream" "sealedFor" "[I", .methodLink RX4 123 yX4_requireWorker, .instanceMethod yX4_requireWorker, .selects RX4 yX4_requireWorker yX4_requireWorker, .code yX4_requireWorker cX4_requireWorker 2 none, .classLink RX4 181 "java/lang/IndexOutOfBoundsException", .initialized "java/lang/IndexOutOfBoundsException", .fieldLink RX4 56 "CheckpointedStream" "workerCount" "I"] ++ wsX40 ++ (vx_atS RX4 185 "java/lang/IndexOutOfBoundsException" ["java/lang/RuntimeException", "java/lang/Exception"]).filter goodWord)
def wsL_hasSent : List Cond := .codeWith yL_hasSent cL_hasSent 4 (some .int) [(0, 16, 19, 13)] :: ([.classLink RL 13 "java/lang/IndexOutOfBoundsException", .methodLink RL 83 yX4_hasSent, .instanceMethod yX4_hasSent, .selects RX4 yX4_hasSent yX4_hasSent, .initialized RX4, .code yX4_hasSent cX4_hasSent 2 (some .boolean), .fieldLink RX4 63 "CheckpointedStream" "numberUnderWay" "I", .fieldLink RX4 19 "CheckpointedStream" "readers" "LCheckpointedStream$Readers;", .fieldLink RX4 105 "CheckpointedStream$Readers" "sent" "[Z", .methodLink RX4 69 yX4_requirePartition, .static yX4_requirePartition, .code yX4_requirePartition cX4_requirePartition 1 none, .classLink RX4 181 "java/lang/IndexOutOfBoundsException", .initialized "java/lang/IndexOutOfBoundsException"] ++ wsX40 ++ wsX20 ++ (vx_atS RX4 185 "java/lang/IndexOutOfBoundsException" ["java/lang/RuntimeException", "java/lang/Exception"]).filter goodWord)
def wsL_keptOffset : List Cond := .codeWith yL_keptOffset cL_keptOffset 4 (some .int) [(0, 9, 12, 13)] :: ([.classLink RL 13 "java/lang/IndexOutOfBoundsException", .methodLink RL 87 yX4_keptOffset, .instanceMethod yX4_keptOffset, .selects RX4 yX4_keptOffset yX4_keptOffset, .initialized RX4, .code yX4_keptOffset cX4_keptOffset 2 (some .int), .fieldLink RX4 19 "CheckpointedStream" "readers" "LCheckpointedStream$Readers;", .fieldLink RX4 209 "CheckpointedStream$Readers" "kept" "[I", .methodLink RX4 69 yX4_requirePartition, .static yX4_requirePartition, .code yX4_requirePartition cX4_requirePartition 1 none, .classLink RX4 181 "java/lang/IndexOutOfBoundsException", .initialized "java/lang/IndexOutOfBoundsException"] ++ wsX40 ++ wsX20 ++ (vx_atS RX4 185 "java/lang/IndexOutOfBoundsException" ["java/lang/RuntimeException", "java/lang/Exception"]).filter goodWord)
def wsL_keptSum : List Cond := .codeWith yL_keptSum cL_keptSum 4 (some .int) [(0, 9, 12, 13)] :: ([.classLink RL 13 "java/lang/IndexOutOfBoundsException", .methodLink RL 90 yX4_keptSum, .instanceMethod yX4_keptSum, .selects RX4 yX4_keptSum yX4_keptSum, .initialized RX4, .code yX4_keptSum cX4_keptSum 2 (some .int), .fieldLink RX4 46 "CheckpointedStream" "kept" "LCheckpointedStream$Tally;", .fieldLink RX4 206 "CheckpointedStream$Tally" "sums" "[I", .methodLink RX4 73 yX4_requireKey, .static yX4_requireKey, .code yX4_requireKey cX4_requireKey 1 none, .classLink RX4 181 "java/lang/IndexOutOfBoundsException", .initialized "java/lang/IndexOutOfBoundsException"] ++ wsX40 ++ wsX30 ++ (vx_atS RX4 185 "java/lang/IndexOutOfBoundsException" ["java/lang/RuntimeException", "java/lang/Exception"]).filter goodWord)
def wsL_committedCount : List Cond := .codeWith yL_committedCount cL_committedCount 4 (some .int) [(0, 9, 12, 13)] :: ([.classLink RL 13 "java/lang/IndexOutOfBoundsException", .methodLink RL 93 yX4_committedCount, .instanceMethod yX4_committedCount, .selects RX4 yX4_committedCount yX4_committedCount, .initialized RX4, .code yX4_committedCount cX4_committedCount 2 (some .int), .fieldLink RX4 49 "CheckpointedStream" "sink" "LCheckpointedStream$Tally;", .fieldLink RX4 203 "CheckpointedStream$Tally" "counts" "[I", .methodLink RX4 73 yX4_requireKey, .static yX4_requireKey, .code yX4_requireKey cX4_requireKey 1 none, .classLink RX4 181 "java/lang/IndexOutOfBoundsException", .initialized "java/lang/IndexOutOfBoundsException"] ++ wsX40 ++ wsX30 ++ (vx_atS RX4 185 "java/lang/IndexOutOfBoundsException" ["java/lang/RuntimeException", "java/lang/Exception"]).filter goodWord)
def wsL_committedSum : List Cond := .codeWith yL_committedSum cL_committedSum 4 (some .int) [(0, 9, 12, 13)] :: ([.classLink RL 13 "java/lang/IndexOutOfBoundsException", .methodLink RL 96 yX4_committedSum, .instanceMethod yX4_committedSum, .selects RX4 yX4_committedSum yX4_committedSum, .initialized RX4, .code yX4_committedSum cX4_committedSum 2 (some .int), .fieldLink RX4 49 "CheckpointedStream" "sink" "LCheckpointedStream$Tally;", .fieldLink RX4 206 "CheckpointedStream$Tally" "sums" "[I", .methodLink RX4 73 yX4_requireKey, .static yX4_requireKey, .code yX4_requireKey cX4_requireKey 1 none, .classLink RX4 181 "java/lang/IndexOutOfBoundsException", .initialized "java/lang/IndexOutOfBoundsException"] ++ wsX40 ++ wsX30 ++ (vx_atS RX4 185 "java/lang/IndexOutOfBoundsException" ["java/lang/RuntimeException", "java/lang/Exception"]).filter goodWord)
def wsL_readSum_r1 : List Cond := [Cond.classLink RL 13 "java/lang/IndexOutOfBoundsException", Cond.methodLink RL 99 yX4_readSum, Cond.instanceMethod yX4_readSum, Cond.selects RX4 yX4_readSum yX4_readSum, Cond.initialized RX4, Cond.code yX4_readSum cX4_readSum 4 (some .int), Cond.fieldLink RX4 10 "CheckpointedStream" "rows" "LCheckpointedStream$EventRows;", Cond.fieldLink RX4 19 "CheckpointedStream" "readers" "LCheckpointedStream$Readers;", Cond.fieldLink RX4 178 "CheckpointedStream$Readers" "offsets" "[I", Cond.methodLink RX4 73 yX4_requireKey, Cond.static yX4_requireKey, Cond.code yX4_requireKey cX4_requireKey 1 none, Cond.classLink RX4 181 "java/lang/IndexOutOfBoundsException", Cond.initialized "java/lang/IndexOutOfBoundsException", Cond.methodLink RX4 211 yX1_sumAhead, Cond.instanceMethod yX1_sumAhead, Cond.selects RX1 yX1_sumAhead yX1_sumAhead, Cond.initialized RX1, Cond.code yX1_sumAhead cX1_sumAhead 7 (some .int), Cond.methodLink RX1 18 yX1_get, Cond.instanceMethod yX1_get, Cond.selects RX1 yX1_get yX1_get, Cond.code yX1_get cX1_get 3 (some .int), Cond.fieldLink RX1 15 "CheckpointedStream$EventRows" "events" "[I"]
def wsL_readSum_r2 : List Cond := [Cond.static yX4_keyOf, Cond.code yX4_keyOf cX4_keyOf 1 (some .int), Cond.static yX4_valueOf, Cond.code yX4_valueOf cX4_valueOf 1 (some .int)]
def wsL_readSum : List Cond := .codeWith yL_readSum cL_readSum 4 (some .int) [(0, 9, 12, 13)] :: ((wsL_readSum_r1 ++ wsL_readSum_r2) ++ wsX40 ++ wsX20 ++ wsX10 ++ (vx_atS RX4 185 "java/lang/IndexOutOfBoundsException" ["java/lang/RuntimeException", "java/lang/Exception"]).filter goodWord)
def wsL_sumInChannels : List Cond := .codeWith yL_sumInChannels cL_sumInChannels 4 (some .int) [(0, 9, 12, 13)] :: ([.classLink RL 13 "java/lang/IndexOutOfBoundsException", .methodLink RL 102 yX4_sumInChannels, .instanceMethod yX4_sumInChannels, .selects RX4 yX4_sumInChannels yX4_sumInChannels, .initialized RX4, .code yX4_sumInChannels cX4_sumInChannels 2 (some .int), .fieldLink RX4 26 "CheckpointedStream" "channels" "LCheckpointedStream$Channels;", .methodLink RX4 73 yX4_requireKey, .static yX4_requireKey, .code yX4_requireKey cX4_requireKey 1 none, .classLink RX4 181 "java/lang/IndexOutOfBoundsException", .initialized "java/lang/IndexOutOfBoundsException", .methodLink RX4 214 yX0_sumOfKey, .instanceMethod yX0_sumOfKey, .selects RX0 yX0_sumOfKey yX0_sumOfKey, .initialized RX0, .code yX0_sumOfKey cX0_sumOfKey 6 (some .int), .fieldLink RX0 15 "CheckpointedStream$Channels" "sizes" "[I", .fieldLink RX0 9 "CheckpointedStream$Channels" "items" "[I", .static yX4_keyOf, .code yX4_keyOf cX4_keyOf 1 (some .int), .static yX4_valueOf, .code yX4_valueOf cX4_valueOf 1 (some .int)] ++ wsX40 ++ wsX00 ++ (vx_atS RX4 185 "java/lang/IndexOutOfBoundsException" ["java/lang/RuntimeException", "java/lang/Exception"]).filter goodWord)
def wsL_law0_r1 : List Cond := [Cond.classLink RL 8 RX4, Cond.instantiable RX4 14, Cond.initialized RX4, Cond.classLink RL 106 RX5, Cond.instantiable RX5 27, Cond.initialized RX5, Cond.arrayClass .long, Cond.methodLink RL 105 yX4_init, Cond.instanceMethod yX4_init, Cond.code yX4_init cX4_init 2 none, Cond.methodLink RX4 1 objectInit, Cond.instanceMethod objectInit, Cond.code objectInit ⟨#[0xb1]⟩ 1 none, Cond.classLink RX4 7 RX1, Cond.instantiable RX1 2, Cond.initialized RX1, Cond.fieldLink RX4 10 "CheckpointedStream" "rows" "LCheckpointedStream$EventRows;", Cond.classLink RX4 16 RX2, Cond.instantiable RX2 4, Cond.initialized RX2, Cond.fieldLink RX4 19 "CheckpointedStream" "readers" "LCheckpointedStream$Readers;", Cond.classLink RX4 23 RX0, Cond.instantiable RX0 3, Cond.initialized RX0]
def wsL_law0_r2 : List Cond := [Cond.fieldLink RX4 26 "CheckpointedStream" "channels" "LCheckpointedStream$Channels;", Cond.classLink RX4 30 RX3, Cond.instantiable RX3 2, Cond.initialized RX3, Cond.fieldLink RX4 33 "CheckpointedStream" "state" "LCheckpointedStream$Tally;", Cond.fieldLink RX4 37 "CheckpointedStream" "openTallies" "LCheckpointedStream$Tally;", Cond.fieldLink RX4 40 "CheckpointedStream" "sealedTallies" "LCheckpointedStream$Tally;", Cond.fieldLink RX4 43 "CheckpointedStream" "keeping" "LCheckpointedStream$Tally;", Cond.fieldLink RX4 46 "CheckpointedStream" "kept" "LCheckpointedStream$Tally;", Cond.fieldLink RX4 49 "CheckpointedStream" "sink" "LCheckpointedStream$Tally;", Cond.arrayClass .int, Cond.fieldLink RX4 52 "CheckpointedStream" "sealedFor" "[I", Cond.fieldLink RX4 56 "CheckpointedStream" "workerCount" "I", Cond.fieldLink RX4 60 "CheckpointedStream" "lastBegun" "I", Cond.fieldLink RX4 63 "CheckpointedStream" "numberUnderWay" "I", Cond.fieldLink RX4 66 "CheckpointedStream" "latestComplete" "I", Cond.instanceMethod yX1_init, Cond.code yX1_init cX1_init 1 none, Cond.methodLink RX1 3 objectInit, Cond.fieldLink RX1 9 "CheckpointedStream$EventRows" "lengths" "[I", Cond.fieldLink RX1 15 "CheckpointedStream$EventRows" "events" "[I", Cond.instanceMethod yX2_init, Cond.code yX2_init cX2_init 1 none, Cond.methodLink RX2 3 objectInit]
def wsL_law0_r3 : List Cond := [Cond.fieldLink RX2 9 "CheckpointedStream$Readers" "offsets" "[I", Cond.fieldLink RX2 15 "CheckpointedStream$Readers" "kept" "[I", Cond.arrayClass .boolean, Cond.fieldLink RX2 18 "CheckpointedStream$Readers" "sent" "[Z", Cond.fieldLink RX2 22 "CheckpointedStream$Readers" "keeping" "[I", Cond.instanceMethod yX0_init, Cond.code yX0_init cX0_init 1 none, Cond.methodLink RX0 3 objectInit, Cond.fieldLink RX0 9 "CheckpointedStream$Channels" "items" "[I", Cond.fieldLink RX0 15 "CheckpointedStream$Channels" "sizes" "[I", Cond.fieldLink RX0 18 "CheckpointedStream$Channels" "blocked" "[Z", Cond.instanceMethod yX3_init, Cond.code yX3_init cX3_init 1 none, Cond.methodLink RX3 3 objectInit, Cond.fieldLink RX3 9 "CheckpointedStream$Tally" "counts" "[I", Cond.fieldLink RX3 15 "CheckpointedStream$Tally" "sums" "[I", Cond.methodLink RL 108 yX5_init, Cond.instanceMethod yX5_init, Cond.code yX5_init cX5_init 1 none, Cond.methodLink RX5 1 objectInit, Cond.fieldLink RX5 7 "CheckpointedStreamModel" "workers" "I", Cond.fieldLink RX5 13 "CheckpointedStreamModel" "sizes" "[I", Cond.fieldLink RX5 17 "CheckpointedStreamModel" "offsets" "[I", Cond.fieldLink RX5 20 "CheckpointedStreamModel" "events" "[I"]
def wsL_law0_r4 : List Cond := [Cond.fieldLink RX5 23 "CheckpointedStreamModel" "items" "[I", Cond.fieldLink RX5 26 "CheckpointedStreamModel" "lengths" "[I", Cond.fieldLink RX5 29 "CheckpointedStreamModel" "areBlocked" "[Z", Cond.fieldLink RX5 33 "CheckpointedStreamModel" "counts" "[I", Cond.fieldLink RX5 36 "CheckpointedStreamModel" "sums" "[I", Cond.fieldLink RX5 39 "CheckpointedStreamModel" "openCounts" "[I", Cond.fieldLink RX5 42 "CheckpointedStreamModel" "openSums" "[I", Cond.fieldLink RX5 45 "CheckpointedStreamModel" "sealedCounts" "[I", Cond.fieldLink RX5 48 "CheckpointedStreamModel" "sealedSums" "[I", Cond.fieldLink RX5 51 "CheckpointedStreamModel" "sealedFor" "[I", Cond.fieldLink RX5 54 "CheckpointedStreamModel" "sinkCounts" "[I", Cond.fieldLink RX5 57 "CheckpointedStreamModel" "sinkSums" "[I", Cond.fieldLink RX5 60 "CheckpointedStreamModel" "underWay" "I", Cond.fieldLink RX5 63 "CheckpointedStreamModel" "complete" "I", Cond.fieldLink RX5 66 "CheckpointedStreamModel" "haveSent" "[Z", Cond.fieldLink RX5 69 "CheckpointedStreamModel" "nextOffsets" "[I", Cond.fieldLink RX5 72 "CheckpointedStreamModel" "nextCounts" "[I", Cond.fieldLink RX5 75 "CheckpointedStreamModel" "nextSums" "[I", Cond.fieldLink RX5 78 "CheckpointedStreamModel" "keptOffsets" "[I", Cond.fieldLink RX5 81 "CheckpointedStreamModel" "keptCounts" "[I", Cond.fieldLink RX5 84 "CheckpointedStreamModel" "keptSums" "[I", Cond.methodLink RX5 87 yX5_unseals, Cond.instanceMethod yX5_unseals, Cond.selects RX5 yX5_unseals yX5_unseals]
def wsL_law0_r5 : List Cond := [Cond.code yX5_unseals cX5_unseals 2 none, Cond.methodLink RL 109 yL_append, Cond.static yL_append, Cond.initialized RL, Cond.codeWith yL_append cL_append 6 (some .int) [(0, 12, 15, 13), (0, 12, 19, 15), (0, 12, 23, 17)], Cond.classLink RL 13 "java/lang/IndexOutOfBoundsException", Cond.classLink RL 15 "java/lang/IllegalArgumentException", Cond.classLink RL 17 "java/lang/IllegalStateException", Cond.methodLink RL 7 yX4_append, Cond.instanceMethod yX4_append, Cond.selects RX4 yX4_append yX4_append, Cond.code yX4_append cX4_append 4 (some .int), Cond.classLink RX4 76 "java/lang/IllegalArgumentException", Cond.initialized "java/lang/IllegalArgumentException", Cond.classLink RX4 86 "java/lang/IllegalStateException", Cond.initialized "java/lang/IllegalStateException", Cond.fieldLink RX4 83 "CheckpointedStream$EventRows" "lengths" "[I", Cond.methodLink RX4 69 yX4_requirePartition, Cond.static yX4_requirePartition, Cond.code yX4_requirePartition cX4_requirePartition 1 none, Cond.classLink RX4 181 "java/lang/IndexOutOfBoundsException", Cond.initialized "java/lang/IndexOutOfBoundsException", Cond.methodLink RX4 73 yX4_requireKey, Cond.static yX4_requireKey]
def wsL_law0_r6 : List Cond := [Cond.code yX4_requireKey cX4_requireKey 1 none, Cond.methodLink RX4 91 yX1_add, Cond.instanceMethod yX1_add, Cond.selects RX1 yX1_add yX1_add, Cond.code yX1_add cX1_add 4 (some .int), Cond.methodLink RL 114 yX5_append, Cond.instanceMethod yX5_append, Cond.selects RX5 yX5_append yX5_append, Cond.code yX5_append cX5_append 5 (some .int), Cond.methodLink RX5 101 yX5_isPartition, Cond.static yX5_isPartition, Cond.code yX5_isPartition cX5_isPartition 1 (some .boolean), Cond.methodLink RX5 93 yX5_in, Cond.static yX5_in, Cond.code yX5_in cX5_in 3 (some .boolean), Cond.methodLink RX5 105 yX5_isKey, Cond.static yX5_isKey, Cond.code yX5_isKey cX5_isKey 1 (some .boolean), Cond.methodLink RX5 108 yX5_holds, Cond.instanceMethod yX5_holds, Cond.selects RX5 yX5_holds yX5_holds, Cond.code yX5_holds cX5_holds 2 (some .boolean), Cond.fieldLink RX5 90 "CheckpointedStreamModel" "thrown" "I", Cond.methodLink RL 115 yX5_thrown]
def wsL_law0_r7 : List Cond := [Cond.instanceMethod yX5_thrown, Cond.selects RX5 yX5_thrown yX5_thrown, Cond.code yX5_thrown cX5_thrown 1 (some .int), Cond.methodLink RL 118 yL_read, Cond.static yL_read, Cond.codeWith yL_read cL_read 4 (some .int) [(0, 9, 12, 13), (0, 9, 15, 17)], Cond.methodLink RL 19 yX4_read, Cond.instanceMethod yX4_read, Cond.selects RX4 yX4_read yX4_read, Cond.code yX4_read cX4_read 2 (some .int), Cond.methodLink RX4 95 yX4_canReadFrom, Cond.instanceMethod yX4_canReadFrom, Cond.selects RX4 yX4_canReadFrom yX4_canReadFrom, Cond.code yX4_canReadFrom cX4_canReadFrom 4 (some .boolean), Cond.fieldLink RX4 178 "CheckpointedStream$Readers" "offsets" "[I", Cond.methodLink RX4 186 yX1_get, Cond.instanceMethod yX1_get, Cond.selects RX1 yX1_get yX1_get, Cond.code yX1_get cX1_get 3 (some .int), Cond.methodLink RX4 223 yX4_keyOf, Cond.static yX4_keyOf, Cond.code yX4_keyOf cX4_keyOf 1 (some .int), Cond.methodLink RX4 200 yX4_ownerOfKey, Cond.instanceMethod yX4_ownerOfKey]
def wsL_law0_r8 : List Cond := [Cond.selects RX4 yX4_ownerOfKey yX4_ownerOfKey, Cond.code yX4_ownerOfKey cX4_ownerOfKey 2 (some .int), Cond.methodLink RX4 175 yX4_ownerOfGroup, Cond.static yX4_ownerOfGroup, Cond.code yX4_ownerOfGroup cX4_ownerOfGroup 2 (some .int), Cond.methodLink RX4 226 yX0_hasRoom, Cond.instanceMethod yX0_hasRoom, Cond.selects RX0 yX0_hasRoom yX0_hasRoom, Cond.code yX0_hasRoom cX0_hasRoom 3 (some .boolean), Cond.methodLink RX0 26 yX0_size, Cond.instanceMethod yX0_size, Cond.selects RX0 yX0_size yX0_size, Cond.code yX0_size cX0_size 3 (some .int), Cond.methodLink RX0 22 yX0_channelOf, Cond.static yX0_channelOf, Cond.code yX0_channelOf cX0_channelOf 2 (some .int), Cond.methodLink RX4 101 yX4_readFrom, Cond.instanceMethod yX4_readFrom, Cond.selects RX4 yX4_readFrom yX4_readFrom, Cond.code yX4_readFrom cX4_readFrom 4 (some .int), Cond.methodLink RX4 116 yX0_put, Cond.instanceMethod yX0_put, Cond.selects RX0 yX0_put yX0_put, Cond.code yX0_put cX0_put 5 none]
def wsL_law0_r9 : List Cond := [Cond.methodLink RL 121 yX5_read, Cond.instanceMethod yX5_read, Cond.selects RX5 yX5_read yX5_read, Cond.code yX5_read cX5_read 2 (some .int), Cond.methodLink RX5 125 yX5_canRead, Cond.instanceMethod yX5_canRead, Cond.selects RX5 yX5_canRead yX5_canRead, Cond.code yX5_canRead cX5_canRead 2 (some .boolean), Cond.methodLink RX5 111 yX5_nextEvent, Cond.instanceMethod yX5_nextEvent, Cond.selects RX5 yX5_nextEvent yX5_nextEvent, Cond.code yX5_nextEvent cX5_nextEvent 2 (some .int), Cond.methodLink RX5 115 yX5_workerOfKey, Cond.instanceMethod yX5_workerOfKey, Cond.selects RX5 yX5_workerOfKey yX5_workerOfKey, Cond.code yX5_workerOfKey cX5_workerOfKey 2 (some .int), Cond.methodLink RX5 97 yX5_workerOfGroup, Cond.static yX5_workerOfGroup, Cond.code yX5_workerOfGroup cX5_workerOfGroup 2 (some .int), Cond.methodLink RX5 118 yX5_channel, Cond.static yX5_channel, Cond.code yX5_channel cX5_channel 2 (some .int), Cond.methodLink RX5 128 yX5_reads, Cond.instanceMethod yX5_reads]
def wsL_law0_r10 : List Cond := [Cond.selects RX5 yX5_reads yX5_reads, Cond.code yX5_reads cX5_reads 4 (some .int), Cond.methodLink RX5 121 yX5_puts, Cond.instanceMethod yX5_puts, Cond.selects RX5 yX5_puts yX5_puts, Cond.code yX5_puts cX5_puts 3 none, Cond.methodLink RL 122 yL_sendBarrier, Cond.static yL_sendBarrier, Cond.codeWith yL_sendBarrier cL_sendBarrier 4 (some .int) [(0, 9, 12, 13), (0, 9, 15, 17)], Cond.methodLink RL 23 yX4_sendBarrier, Cond.instanceMethod yX4_sendBarrier, Cond.selects RX4 yX4_sendBarrier yX4_sendBarrier, Cond.code yX4_sendBarrier cX4_sendBarrier 3 (some .int), Cond.fieldLink RX4 105 "CheckpointedStream$Readers" "sent" "[Z", Cond.methodLink RX4 111 yX4_hasRoomInAllChannels, Cond.instanceMethod yX4_hasRoomInAllChannels, Cond.selects RX4 yX4_hasRoomInAllChannels yX4_hasRoomInAllChannels, Cond.code yX4_hasRoomInAllChannels cX4_hasRoomInAllChannels 3 (some .boolean), Cond.methodLink RX4 120 yX2_keepForBarrier, Cond.instanceMethod yX2_keepForBarrier, Cond.selects RX2 yX2_keepForBarrier yX2_keepForBarrier, Cond.code yX2_keepForBarrier cX2_keepForBarrier 2 (some .int), Cond.methodLink RL 124 yX5_sendBarrier, Cond.instanceMethod yX5_sendBarrier]
def wsL_law0_r11 : List Cond := [Cond.selects RX5 yX5_sendBarrier yX5_sendBarrier, Cond.code yX5_sendBarrier cX5_sendBarrier 3 (some .int), Cond.methodLink RX5 131 yX5_canSend, Cond.instanceMethod yX5_canSend, Cond.selects RX5 yX5_canSend yX5_canSend, Cond.code yX5_canSend cX5_canSend 4 (some .boolean), Cond.methodLink RL 125 yL_take, Cond.static yL_take, Cond.codeWith yL_take cL_take 5 (some .int) [(0, 10, 13, 13), (0, 10, 17, 17)], Cond.methodLink RL 26 yX4_take, Cond.instanceMethod yX4_take, Cond.selects RX4 yX4_take yX4_take, Cond.code yX4_take cX4_take 3 (some .int), Cond.methodLink RX4 123 yX4_requireWorker, Cond.instanceMethod yX4_requireWorker, Cond.selects RX4 yX4_requireWorker yX4_requireWorker, Cond.code yX4_requireWorker cX4_requireWorker 2 none, Cond.methodLink RX4 126 yX0_canGive, Cond.instanceMethod yX0_canGive, Cond.selects RX0 yX0_canGive yX0_canGive, Cond.code yX0_canGive cX0_canGive 3 (some .boolean), Cond.methodLink RX0 29 yX0_isShut, Cond.instanceMethod yX0_isShut, Cond.selects RX0 yX0_isShut yX0_isShut]
def wsL_law0_r12 : List Cond := [Cond.code yX0_isShut cX0_isShut 3 (some .boolean), Cond.methodLink RX4 132 yX4_takeFrom, Cond.instanceMethod yX4_takeFrom, Cond.selects RX4 yX4_takeFrom yX4_takeFrom, Cond.code yX4_takeFrom cX4_takeFrom 4 (some .int), Cond.methodLink RX4 229 yX0_removeFirst, Cond.instanceMethod yX0_removeFirst, Cond.selects RX0 yX0_removeFirst yX0_removeFirst, Cond.code yX0_removeFirst cX0_removeFirst 7 (some .int), Cond.methodLink RX4 232 yX4_valueOf, Cond.static yX4_valueOf, Cond.code yX4_valueOf cX4_valueOf 1 (some .int), Cond.methodLink RX4 235 yX4_takeEvent, Cond.instanceMethod yX4_takeEvent, Cond.selects RX4 yX4_takeEvent yX4_takeEvent, Cond.code yX4_takeEvent cX4_takeEvent 3 (some .int), Cond.fieldLink RX4 203 "CheckpointedStream$Tally" "counts" "[I", Cond.methodLink RX4 242 yX3_add, Cond.instanceMethod yX3_add, Cond.selects RX3 yX3_add yX3_add, Cond.code yX3_add cX3_add 4 none, Cond.methodLink RX4 238 yX4_takeBarrier, Cond.instanceMethod yX4_takeBarrier, Cond.selects RX4 yX4_takeBarrier yX4_takeBarrier]
def wsL_law0_r13 : List Cond := [Cond.code yX4_takeBarrier cX4_takeBarrier 3 none, Cond.methodLink RX4 244 yX0_block, Cond.instanceMethod yX0_block, Cond.selects RX0 yX0_block yX0_block, Cond.code yX0_block cX0_block 3 none, Cond.methodLink RX4 247 yX0_areAllBlocked, Cond.instanceMethod yX0_areAllBlocked, Cond.selects RX0 yX0_areAllBlocked yX0_areAllBlocked, Cond.code yX0_areAllBlocked cX0_areAllBlocked 3 (some .boolean), Cond.methodLink RX4 250 yX4_sealTransaction, Cond.instanceMethod yX4_sealTransaction, Cond.selects RX4 yX4_sealTransaction yX4_sealTransaction, Cond.code yX4_sealTransaction cX4_sealTransaction 3 none, Cond.methodLink RX4 253 yX3_copyKey, Cond.instanceMethod yX3_copyKey, Cond.selects RX3 yX3_copyKey yX3_copyKey, Cond.code yX3_copyKey cX3_copyKey 3 none, Cond.methodLink RX4 166 yX4_moveTallies, Cond.instanceMethod yX4_moveTallies, Cond.selects RX4 yX4_moveTallies yX4_moveTallies, Cond.code yX4_moveTallies cX4_moveTallies 6 (some .int), Cond.fieldLink RX4 206 "CheckpointedStream$Tally" "sums" "[I", Cond.methodLink RX4 270 yX3_clearKey, Cond.instanceMethod yX3_clearKey]
def wsL_law0_r14 : List Cond := [Cond.selects RX3 yX3_clearKey yX3_clearKey, Cond.code yX3_clearKey cX3_clearKey 2 none, Cond.methodLink RX4 163 yX0_unblockAll, Cond.instanceMethod yX0_unblockAll, Cond.selects RX0 yX0_unblockAll yX0_unblockAll, Cond.code yX0_unblockAll cX0_unblockAll 3 none, Cond.methodLink RX4 257 yX4_haveAllSealed, Cond.instanceMethod yX4_haveAllSealed, Cond.selects RX4 yX4_haveAllSealed yX4_haveAllSealed, Cond.code yX4_haveAllSealed cX4_haveAllSealed 2 (some .boolean), Cond.methodLink RX4 260 yX4_completeCheckpoint, Cond.instanceMethod yX4_completeCheckpoint, Cond.selects RX4 yX4_completeCheckpoint yX4_completeCheckpoint, Cond.code yX4_completeCheckpoint cX4_completeCheckpoint 1 none, Cond.methodLink RX4 263 yX3_copyAll, Cond.instanceMethod yX3_copyAll, Cond.selects RX3 yX3_copyAll yX3_copyAll, Cond.code yX3_copyAll cX3_copyAll 3 none, Cond.methodLink RX4 267 yX2_keepAll, Cond.instanceMethod yX2_keepAll, Cond.selects RX2 yX2_keepAll yX2_keepAll, Cond.code yX2_keepAll cX2_keepAll 2 none, Cond.methodLink RL 128 yX5_take, Cond.instanceMethod yX5_take]
def wsL_law0_r15 : List Cond := [Cond.selects RX5 yX5_take yX5_take, Cond.code yX5_take cX5_take 3 (some .int), Cond.methodLink RX5 145 yX5_isWorker, Cond.instanceMethod yX5_isWorker, Cond.selects RX5 yX5_isWorker yX5_isWorker, Cond.code yX5_isWorker cX5_isWorker 2 (some .boolean), Cond.methodLink RX5 148 yX5_canTake, Cond.instanceMethod yX5_canTake, Cond.selects RX5 yX5_canTake yX5_canTake, Cond.code yX5_canTake cX5_canTake 3 (some .boolean), Cond.methodLink RX5 152 yX5_takes, Cond.instanceMethod yX5_takes, Cond.selects RX5 yX5_takes yX5_takes, Cond.code yX5_takes cX5_takes 6 (some .int), Cond.methodLink RX5 134 yX5_aligns, Cond.instanceMethod yX5_aligns, Cond.selects RX5 yX5_aligns yX5_aligns, Cond.code yX5_aligns cX5_aligns 3 none, Cond.methodLink RX5 138 yX5_completes, Cond.instanceMethod yX5_completes, Cond.selects RX5 yX5_completes yX5_completes, Cond.code yX5_completes cX5_completes 2 none, Cond.methodLink RX5 141 yX5_copies, Cond.static yX5_copies]
def wsL_law0_r16 : List Cond := [Cond.code yX5_copies cX5_copies 3 none, Cond.methodLink RL 129 yL_pump, Cond.static yL_pump, Cond.codeWith yL_pump cL_pump 4 (some .int) [(0, 9, 12, 15)], Cond.methodLink RL 30 yX4_pump, Cond.instanceMethod yX4_pump, Cond.selects RX4 yX4_pump yX4_pump, Cond.code yX4_pump cX4_pump 4 (some .int), Cond.methodLink RX4 137 yX4_readRound, Cond.instanceMethod yX4_readRound, Cond.selects RX4 yX4_readRound yX4_readRound, Cond.code yX4_readRound cX4_readRound 3 (some .int), Cond.methodLink RX4 141 yX4_takeRound, Cond.instanceMethod yX4_takeRound, Cond.selects RX4 yX4_takeRound yX4_takeRound, Cond.code yX4_takeRound cX4_takeRound 4 (some .int), Cond.methodLink RL 131 yX5_pump, Cond.instanceMethod yX5_pump, Cond.selects RX5 yX5_pump yX5_pump, Cond.code yX5_pump cX5_pump 6 (some .int), Cond.methodLink RL 132 yL_commit, Cond.static yL_commit, Cond.codeWith yL_commit cL_commit 4 (some .int) [(0, 9, 12, 13), (0, 9, 15, 17)], Cond.methodLink RL 33 yX4_commit]
def wsL_law0_r17 : List Cond := [Cond.instanceMethod yX4_commit, Cond.selects RX4 yX4_commit yX4_commit, Cond.code yX4_commit cX4_commit 2 (some .int), Cond.methodLink RX4 144 yX4_isReadyToCommit, Cond.instanceMethod yX4_isReadyToCommit, Cond.selects RX4 yX4_isReadyToCommit yX4_isReadyToCommit, Cond.code yX4_isReadyToCommit cX4_isReadyToCommit 2 (some .boolean), Cond.methodLink RX4 149 yX4_commitSealed, Cond.instanceMethod yX4_commitSealed, Cond.selects RX4 yX4_commitSealed yX4_commitSealed, Cond.code yX4_commitSealed cX4_commitSealed 2 (some .int), Cond.methodLink RL 134 yX5_commit, Cond.instanceMethod yX5_commit, Cond.selects RX5 yX5_commit yX5_commit, Cond.code yX5_commit cX5_commit 2 (some .int), Cond.methodLink RX5 155 yX5_mayCommit, Cond.instanceMethod yX5_mayCommit, Cond.selects RX5 yX5_mayCommit yX5_mayCommit, Cond.code yX5_mayCommit cX5_mayCommit 2 (some .boolean), Cond.methodLink RX5 158 yX5_commits, Cond.instanceMethod yX5_commits, Cond.selects RX5 yX5_commits yX5_commits, Cond.code yX5_commits cX5_commits 4 (some .int), Cond.methodLink RL 135 yL_beginCheckpoint]
def wsL_law0_r18 : List Cond := [Cond.static yL_beginCheckpoint, Cond.codeWith yL_beginCheckpoint cL_beginCheckpoint 3 (some .int) [(0, 8, 11, 17)], Cond.methodLink RL 36 yX4_beginCheckpoint, Cond.instanceMethod yX4_beginCheckpoint, Cond.selects RX4 yX4_beginCheckpoint yX4_beginCheckpoint, Cond.code yX4_beginCheckpoint cX4_beginCheckpoint 1 (some .int), Cond.methodLink RX4 152 yX4_hasAnySealed, Cond.instanceMethod yX4_hasAnySealed, Cond.selects RX4 yX4_hasAnySealed yX4_hasAnySealed, Cond.code yX4_hasAnySealed cX4_hasAnySealed 2 (some .boolean), Cond.methodLink RX4 158 yX2_forgetBarriers, Cond.instanceMethod yX2_forgetBarriers, Cond.selects RX2 yX2_forgetBarriers yX2_forgetBarriers, Cond.code yX2_forgetBarriers cX2_forgetBarriers 2 none, Cond.methodLink RL 138 yX5_beginCheckpoint, Cond.instanceMethod yX5_beginCheckpoint, Cond.selects RX5 yX5_beginCheckpoint yX5_beginCheckpoint, Cond.code yX5_beginCheckpoint cX5_beginCheckpoint 1 (some .int), Cond.fieldLink RX5 165 "CheckpointedStreamModel" "begun" "I", Cond.methodLink RX5 161 yX5_isAnySealed, Cond.instanceMethod yX5_isAnySealed, Cond.selects RX5 yX5_isAnySealed yX5_isAnySealed, Cond.code yX5_isAnySealed cX5_isAnySealed 1 (some .boolean), Cond.methodLink RX5 168 yX5_lifts]
def wsL_law0_r19 : List Cond := [Cond.instanceMethod yX5_lifts, Cond.selects RX5 yX5_lifts yX5_lifts, Cond.code yX5_lifts cX5_lifts 2 none, Cond.methodLink RL 139 yL_abandon, Cond.static yL_abandon, Cond.codeWith yL_abandon cL_abandon 3 (some .int) [(0, 8, 11, 17)], Cond.methodLink RL 40 yX4_abandon, Cond.instanceMethod yX4_abandon, Cond.selects RX4 yX4_abandon yX4_abandon, Cond.code yX4_abandon cX4_abandon 3 (some .int), Cond.methodLink RL 141 yX5_abandon, Cond.instanceMethod yX5_abandon, Cond.selects RX5 yX5_abandon yX5_abandon, Cond.code yX5_abandon cX5_abandon 2 (some .int), Cond.methodLink RL 142 yX4_crash, Cond.instanceMethod yX4_crash, Cond.selects RX4 yX4_crash yX4_crash, Cond.code yX4_crash cX4_crash 1 (some .int), Cond.methodLink RX4 170 yX4_startAgain, Cond.instanceMethod yX4_startAgain, Cond.selects RX4 yX4_startAgain yX4_startAgain, Cond.code yX4_startAgain cX4_startAgain 3 none, Cond.methodLink RX4 273 yX3_clearAll, Cond.instanceMethod yX3_clearAll]
def wsL_law0_r20 : List Cond := [Cond.selects RX3 yX3_clearAll yX3_clearAll, Cond.code yX3_clearAll cX3_clearAll 2 none, Cond.methodLink RX3 18 yX3_clearKey, Cond.methodLink RX4 276 yX0_clearAll, Cond.instanceMethod yX0_clearAll, Cond.selects RX0 yX0_clearAll yX0_clearAll, Cond.code yX0_clearAll cX0_clearAll 2 none, Cond.methodLink RX4 277 yX2_returnToKept, Cond.instanceMethod yX2_returnToKept, Cond.selects RX2 yX2_returnToKept yX2_returnToKept, Cond.code yX2_returnToKept cX2_returnToKept 2 none, Cond.methodLink RL 145 yX5_crash, Cond.instanceMethod yX5_crash, Cond.selects RX5 yX5_crash yX5_crash, Cond.code yX5_crash cX5_crash 1 (some .int), Cond.methodLink RX5 175 yX5_startsAgain, Cond.instanceMethod yX5_startsAgain, Cond.selects RX5 yX5_startsAgain yX5_startsAgain, Cond.code yX5_startsAgain cX5_startsAgain 3 none, Cond.methodLink RX5 171 yX5_clears, Cond.static yX5_clears, Cond.code yX5_clears cX5_clears 2 none, Cond.methodLink RL 146 yL_rescale, Cond.static yL_rescale]
def wsL_law0_r21 : List Cond := [Cond.codeWith yL_rescale cL_rescale 4 (some .int) [(0, 9, 12, 15)], Cond.methodLink RL 43 yX4_rescale, Cond.instanceMethod yX4_rescale, Cond.selects RX4 yX4_rescale yX4_rescale, Cond.code yX4_rescale cX4_rescale 4 (some .int), Cond.methodLink RL 148 yX5_rescale, Cond.instanceMethod yX5_rescale, Cond.selects RX5 yX5_rescale yX5_rescale, Cond.code yX5_rescale cX5_rescale 4 (some .int), Cond.methodLink RL 149 yL_events, Cond.static yL_events, Cond.codeWith yL_events cL_events 4 (some .int) [(0, 9, 12, 13)], Cond.methodLink RL 46 yX4_events, Cond.instanceMethod yX4_events, Cond.selects RX4 yX4_events yX4_events, Cond.code yX4_events cX4_events 2 (some .int), Cond.methodLink RL 151 yX5_events, Cond.instanceMethod yX5_events, Cond.selects RX5 yX5_events yX5_events, Cond.code yX5_events cX5_events 2 (some .int), Cond.methodLink RL 152 yL_offset, Cond.static yL_offset, Cond.codeWith yL_offset cL_offset 4 (some .int) [(0, 9, 12, 13)], Cond.methodLink RL 49 yX4_offset]
def wsL_law0_r22 : List Cond := [Cond.instanceMethod yX4_offset, Cond.selects RX4 yX4_offset yX4_offset, Cond.code yX4_offset cX4_offset 2 (some .int), Cond.methodLink RL 154 yX5_offset, Cond.instanceMethod yX5_offset, Cond.selects RX5 yX5_offset yX5_offset, Cond.code yX5_offset cX5_offset 2 (some .int), Cond.methodLink RL 155 yL_eventAt, Cond.static yL_eventAt, Cond.codeWith yL_eventAt cL_eventAt 5 (some .int) [(0, 10, 13, 13)], Cond.methodLink RL 52 yX4_eventAt, Cond.instanceMethod yX4_eventAt, Cond.selects RX4 yX4_eventAt yX4_eventAt, Cond.code yX4_eventAt cX4_eventAt 3 (some .int), Cond.methodLink RL 157 yX5_eventAt, Cond.instanceMethod yX5_eventAt, Cond.selects RX5 yX5_eventAt yX5_eventAt, Cond.code yX5_eventAt cX5_eventAt 3 (some .int), Cond.methodLink RL 158 yL_queued, Cond.static yL_queued, Cond.codeWith yL_queued cL_queued 5 (some .int) [(0, 10, 13, 13)], Cond.methodLink RL 55 yX4_queued, Cond.instanceMethod yX4_queued, Cond.selects RX4 yX4_queued yX4_queued]
def wsL_law0_r23 : List Cond := [Cond.code yX4_queued cX4_queued 3 (some .int), Cond.methodLink RX4 189 yX0_size, Cond.methodLink RL 160 yX5_queued, Cond.instanceMethod yX5_queued, Cond.selects RX5 yX5_queued yX5_queued, Cond.code yX5_queued cX5_queued 3 (some .int), Cond.methodLink RX5 178 yX5_isChannel, Cond.instanceMethod yX5_isChannel, Cond.selects RX5 yX5_isChannel yX5_isChannel, Cond.code yX5_isChannel cX5_isChannel 3 (some .boolean), Cond.methodLink RL 161 yL_itemAt, Cond.static yL_itemAt, Cond.codeWith yL_itemAt cL_itemAt 6 (some .int) [(0, 12, 15, 13)], Cond.methodLink RL 58 yX4_itemAt, Cond.instanceMethod yX4_itemAt, Cond.selects RX4 yX4_itemAt yX4_itemAt, Cond.code yX4_itemAt cX4_itemAt 4 (some .int), Cond.methodLink RX4 194 yX0_get, Cond.instanceMethod yX0_get, Cond.selects RX0 yX0_get yX0_get, Cond.code yX0_get cX0_get 4 (some .int), Cond.methodLink RL 163 yX5_itemAt, Cond.instanceMethod yX5_itemAt, Cond.selects RX5 yX5_itemAt yX5_itemAt]
def wsL_law0_r24 : List Cond := [Cond.code yX5_itemAt cX5_itemAt 5 (some .int), Cond.methodLink RL 164 yL_isBlocked, Cond.static yL_isBlocked, Cond.codeWith yL_isBlocked cL_isBlocked 5 (some .int) [(0, 17, 20, 13)], Cond.methodLink RL 61 yX4_isBlocked, Cond.instanceMethod yX4_isBlocked, Cond.selects RX4 yX4_isBlocked yX4_isBlocked, Cond.code yX4_isBlocked cX4_isBlocked 3 (some .boolean), Cond.methodLink RX4 197 yX0_isShut, Cond.methodLink RL 166 yX5_isBlocked, Cond.instanceMethod yX5_isBlocked, Cond.selects RX5 yX5_isBlocked yX5_isBlocked, Cond.code yX5_isBlocked cX5_isBlocked 3 (some .boolean), Cond.methodLink RL 167 yX4_workers, Cond.instanceMethod yX4_workers, Cond.selects RX4 yX4_workers yX4_workers, Cond.code yX4_workers cX4_workers 1 (some .int), Cond.methodLink RL 170 yX5_workers, Cond.instanceMethod yX5_workers, Cond.selects RX5 yX5_workers yX5_workers, Cond.code yX5_workers cX5_workers 1 (some .int), Cond.methodLink RL 171 yL_workerOf, Cond.static yL_workerOf, Cond.codeWith yL_workerOf cL_workerOf 4 (some .int) [(0, 9, 12, 13)]]
def wsL_law0_r25 : List Cond := [Cond.methodLink RL 65 yX4_workerOf, Cond.instanceMethod yX4_workerOf, Cond.selects RX4 yX4_workerOf yX4_workerOf, Cond.code yX4_workerOf cX4_workerOf 2 (some .int), Cond.methodLink RL 173 yX5_workerOf, Cond.instanceMethod yX5_workerOf, Cond.selects RX5 yX5_workerOf yX5_workerOf, Cond.code yX5_workerOf cX5_workerOf 2 (some .int), Cond.methodLink RL 174 yL_groupsOf, Cond.static yL_groupsOf, Cond.codeWith yL_groupsOf cL_groupsOf 4 (some .int) [(0, 9, 12, 13)], Cond.methodLink RL 68 yX4_groupsOf, Cond.instanceMethod yX4_groupsOf, Cond.selects RX4 yX4_groupsOf yX4_groupsOf, Cond.code yX4_groupsOf cX4_groupsOf 5 (some .int), Cond.methodLink RL 176 yX5_groupsOf, Cond.instanceMethod yX5_groupsOf, Cond.selects RX5 yX5_groupsOf yX5_groupsOf, Cond.code yX5_groupsOf cX5_groupsOf 4 (some .int), Cond.methodLink RL 177 yL_count, Cond.static yL_count, Cond.codeWith yL_count cL_count 4 (some .int) [(0, 9, 12, 13)], Cond.methodLink RL 71 yX4_count, Cond.instanceMethod yX4_count]
def wsL_law0_r26 : List Cond := [Cond.selects RX4 yX4_count yX4_count, Cond.code yX4_count cX4_count 2 (some .int), Cond.methodLink RL 179 yX5_count, Cond.instanceMethod yX5_count, Cond.selects RX5 yX5_count yX5_count, Cond.code yX5_count cX5_count 2 (some .int), Cond.methodLink RX5 181 yX5_ofKey, Cond.instanceMethod yX5_ofKey, Cond.selects RX5 yX5_ofKey yX5_ofKey, Cond.code yX5_ofKey cX5_ofKey 3 (some .int), Cond.methodLink RL 180 yL_sum, Cond.static yL_sum, Cond.codeWith yL_sum cL_sum 4 (some .int) [(0, 9, 12, 13)], Cond.methodLink RL 74 yX4_sum, Cond.instanceMethod yX4_sum, Cond.selects RX4 yX4_sum yX4_sum, Cond.code yX4_sum cX4_sum 2 (some .int), Cond.methodLink RL 182 yX5_sum, Cond.instanceMethod yX5_sum, Cond.selects RX5 yX5_sum yX5_sum, Cond.code yX5_sum cX5_sum 2 (some .int), Cond.methodLink RL 183 yL_open, Cond.static yL_open, Cond.codeWith yL_open cL_open 4 (some .int) [(0, 9, 12, 13)]]
def wsL_law0_r27 : List Cond := [Cond.methodLink RL 77 yX4_open, Cond.instanceMethod yX4_open, Cond.selects RX4 yX4_open yX4_open, Cond.code yX4_open cX4_open 4 (some .int), Cond.methodLink RL 185 yX5_open, Cond.instanceMethod yX5_open, Cond.selects RX5 yX5_open yX5_open, Cond.code yX5_open cX5_open 4 (some .int), Cond.methodLink RL 186 yL_sealed, Cond.static yL_sealed, Cond.codeWith yL_sealed cL_sealed 4 (some .int) [(0, 9, 12, 13)], Cond.methodLink RL 80 yX4_sealed, Cond.instanceMethod yX4_sealed, Cond.selects RX4 yX4_sealed yX4_sealed, Cond.code yX4_sealed cX4_sealed 2 (some .int), Cond.methodLink RL 188 yX5_sealed, Cond.instanceMethod yX5_sealed, Cond.selects RX5 yX5_sealed yX5_sealed, Cond.code yX5_sealed cX5_sealed 2 (some .int), Cond.methodLink RL 189 yX4_underWay, Cond.instanceMethod yX4_underWay, Cond.selects RX4 yX4_underWay yX4_underWay, Cond.code yX4_underWay cX4_underWay 1 (some .int), Cond.methodLink RL 192 yX5_underWay]
def wsL_law0_r28 : List Cond := [Cond.instanceMethod yX5_underWay, Cond.selects RX5 yX5_underWay yX5_underWay, Cond.code yX5_underWay cX5_underWay 1 (some .int), Cond.methodLink RL 193 yX4_complete, Cond.instanceMethod yX4_complete, Cond.selects RX4 yX4_complete yX4_complete, Cond.code yX4_complete cX4_complete 1 (some .int), Cond.methodLink RL 196 yX5_complete, Cond.instanceMethod yX5_complete, Cond.selects RX5 yX5_complete yX5_complete, Cond.code yX5_complete cX5_complete 1 (some .int), Cond.methodLink RL 197 yL_hasSent, Cond.static yL_hasSent, Cond.codeWith yL_hasSent cL_hasSent 4 (some .int) [(0, 16, 19, 13)], Cond.methodLink RL 83 yX4_hasSent, Cond.instanceMethod yX4_hasSent, Cond.selects RX4 yX4_hasSent yX4_hasSent, Cond.code yX4_hasSent cX4_hasSent 2 (some .boolean), Cond.methodLink RL 199 yX5_hasSent, Cond.instanceMethod yX5_hasSent, Cond.selects RX5 yX5_hasSent yX5_hasSent, Cond.code yX5_hasSent cX5_hasSent 2 (some .boolean), Cond.methodLink RL 200 yL_keptOffset, Cond.static yL_keptOffset]
def wsL_law0_r29 : List Cond := [Cond.codeWith yL_keptOffset cL_keptOffset 4 (some .int) [(0, 9, 12, 13)], Cond.methodLink RL 87 yX4_keptOffset, Cond.instanceMethod yX4_keptOffset, Cond.selects RX4 yX4_keptOffset yX4_keptOffset, Cond.code yX4_keptOffset cX4_keptOffset 2 (some .int), Cond.fieldLink RX4 209 "CheckpointedStream$Readers" "kept" "[I", Cond.methodLink RL 202 yX5_keptOffset, Cond.instanceMethod yX5_keptOffset, Cond.selects RX5 yX5_keptOffset yX5_keptOffset, Cond.code yX5_keptOffset cX5_keptOffset 2 (some .int), Cond.methodLink RL 203 yL_keptSum, Cond.static yL_keptSum, Cond.codeWith yL_keptSum cL_keptSum 4 (some .int) [(0, 9, 12, 13)], Cond.methodLink RL 90 yX4_keptSum, Cond.instanceMethod yX4_keptSum, Cond.selects RX4 yX4_keptSum yX4_keptSum, Cond.code yX4_keptSum cX4_keptSum 2 (some .int), Cond.methodLink RL 205 yX5_keptSum, Cond.instanceMethod yX5_keptSum, Cond.selects RX5 yX5_keptSum yX5_keptSum, Cond.code yX5_keptSum cX5_keptSum 2 (some .int), Cond.methodLink RL 206 yL_committedCount, Cond.static yL_committedCount, Cond.codeWith yL_committedCount cL_committedCount 4 (some .int) [(0, 9, 12, 13)]]
def wsL_law0_r30 : List Cond := [Cond.methodLink RL 93 yX4_committedCount, Cond.instanceMethod yX4_committedCount, Cond.selects RX4 yX4_committedCount yX4_committedCount, Cond.code yX4_committedCount cX4_committedCount 2 (some .int), Cond.methodLink RL 208 yX5_committedCount, Cond.instanceMethod yX5_committedCount, Cond.selects RX5 yX5_committedCount yX5_committedCount, Cond.code yX5_committedCount cX5_committedCount 2 (some .int), Cond.methodLink RL 209 yL_committedSum, Cond.static yL_committedSum, Cond.codeWith yL_committedSum cL_committedSum 4 (some .int) [(0, 9, 12, 13)], Cond.methodLink RL 96 yX4_committedSum, Cond.instanceMethod yX4_committedSum, Cond.selects RX4 yX4_committedSum yX4_committedSum, Cond.code yX4_committedSum cX4_committedSum 2 (some .int), Cond.methodLink RL 211 yX5_committedSum, Cond.instanceMethod yX5_committedSum, Cond.selects RX5 yX5_committedSum yX5_committedSum, Cond.code yX5_committedSum cX5_committedSum 2 (some .int), Cond.methodLink RL 212 yX4_committed, Cond.instanceMethod yX4_committed, Cond.selects RX4 yX4_committed yX4_committed, Cond.code yX4_committed cX4_committed 3 (some .int), Cond.methodLink RL 215 yX5_committed]
def wsL_law0_r31 : List Cond := [Cond.instanceMethod yX5_committed, Cond.selects RX5 yX5_committed yX5_committed, Cond.code yX5_committed cX5_committed 3 (some .int), Cond.methodLink RL 216 yL_readSum, Cond.static yL_readSum, Cond.codeWith yL_readSum cL_readSum 4 (some .int) [(0, 9, 12, 13)], Cond.methodLink RL 99 yX4_readSum, Cond.instanceMethod yX4_readSum, Cond.selects RX4 yX4_readSum yX4_readSum, Cond.code yX4_readSum cX4_readSum 4 (some .int), Cond.methodLink RX4 211 yX1_sumAhead, Cond.instanceMethod yX1_sumAhead, Cond.selects RX1 yX1_sumAhead yX1_sumAhead, Cond.code yX1_sumAhead cX1_sumAhead 7 (some .int), Cond.methodLink RX1 18 yX1_get, Cond.methodLink RL 218 yX5_readSum, Cond.instanceMethod yX5_readSum, Cond.selects RX5 yX5_readSum yX5_readSum, Cond.code yX5_readSum cX5_readSum 6 (some .int), Cond.methodLink RL 219 yL_sumInChannels, Cond.static yL_sumInChannels, Cond.codeWith yL_sumInChannels cL_sumInChannels 4 (some .int) [(0, 9, 12, 13)], Cond.methodLink RL 102 yX4_sumInChannels, Cond.instanceMethod yX4_sumInChannels]
def wsL_law0_r32 : List Cond := [Cond.selects RX4 yX4_sumInChannels yX4_sumInChannels, Cond.code yX4_sumInChannels cX4_sumInChannels 2 (some .int), Cond.methodLink RX4 214 yX0_sumOfKey, Cond.instanceMethod yX0_sumOfKey, Cond.selects RX0 yX0_sumOfKey yX0_sumOfKey, Cond.code yX0_sumOfKey cX0_sumOfKey 6 (some .int), Cond.methodLink RL 221 yX5_sumInChannels, Cond.instanceMethod yX5_sumInChannels, Cond.selects RX5 yX5_sumInChannels yX5_sumInChannels, Cond.code yX5_sumInChannels cX5_sumInChannels 6 (some .int)]
def wsL_law0 : List Cond := (wsL_law0_r1 ++ (wsL_law0_r2 ++ (wsL_law0_r3 ++ (wsL_law0_r4 ++ (wsL_law0_r5 ++ (wsL_law0_r6 ++ (wsL_law0_r7 ++ (wsL_law0_r8 ++ (wsL_law0_r9 ++ (wsL_law0_r10 ++ (wsL_law0_r11 ++ (wsL_law0_r12 ++ (wsL_law0_r13 ++ (wsL_law0_r14 ++ (wsL_law0_r15 ++ (wsL_law0_r16 ++ (wsL_law0_r17 ++ (wsL_law0_r18 ++ (wsL_law0_r19 ++ (wsL_law0_r20 ++ (wsL_law0_r21 ++ (wsL_law0_r22 ++ (wsL_law0_r23 ++ (wsL_law0_r24 ++ (wsL_law0_r25 ++ (wsL_law0_r26 ++ (wsL_law0_r27 ++ (wsL_law0_r28 ++ (wsL_law0_r29 ++ (wsL_law0_r30 ++ (wsL_law0_r31 ++ wsL_law0_r32))))))))))))))))))))))))))))))) ++ wsX40 ++ wsX50 ++ wsX10 ++ wsX20 ++ wsX00 ++ wsX30 ++ ([] : List Cond)
def wsL_law : List Cond := wsL_law0 ++ (vx_atS RX4 80 "java/lang/IllegalArgumentException" ["java/lang/RuntimeException", "java/lang/Exception"]).filter goodWord ++ (vx_atS RX4 90 "java/lang/IllegalStateException" ["java/lang/RuntimeException", "java/lang/Exception"]).filter goodWord ++ (vx_atS RX4 185 "java/lang/IndexOutOfBoundsException" ["java/lang/RuntimeException", "java/lang/Exception"]).filter goodWord
end
section
theorem lw_appin {a b big : List Cond} (ha : ∀ w ∈ a, w ∈ big) (hb : ∀ w ∈ b, w ∈ big) : ∀ w ∈ a ++ b, w ∈ big := fun w h => (List.mem_append.mp h).elim (ha w) (hb w)
set_option maxRecDepth 20000 in
theorem wsL_law0_r1_in : ∀ w ∈ wsL_law0_r1, w ∈ lw_tbl := fun w h => (goodIn_p wsL_law0_r1 [56, 59] (by decide +kernel) (by decide +kernel) w h).1
set_option maxRecDepth 20000 in
theorem wsL_law0_r2_in : ∀ w ∈ wsL_law0_r2, w ∈ lw_tbl := fun w h => (goodIn_p wsL_law0_r2 [64, 79] (by decide +kernel) (by decide +kernel) w h).1
set_option maxRecDepth 20000 in
theorem wsL_law0_r3_in : ∀ w ∈ wsL_law0_r3, w ∈ lw_tbl := fun w h => (goodIn_p wsL_law0_r3 [102, 118, 702] (by decide +kernel) (by decide +kernel) w h).1
set_option maxRecDepth 20000 in
theorem wsL_law0_r4_in : ∀ w ∈ wsL_law0_r4, w ∈ lw_tbl := fun w h => (goodIn_p wsL_law0_r4 [] (by decide +kernel) (by decide +kernel) w h).1
set_option maxRecDepth 20000 in
theorem wsL_law0_r5_in : ∀ w ∈ wsL_law0_r5, w ∈ lw_tbl := fun w h => (goodIn_p wsL_law0_r5 [707, 249, 252] (by decide +kernel) (by decide +kernel) w h).1
set_option maxRecDepth 20000 in
theorem wsL_law0_r6_in : ∀ w ∈ wsL_law0_r6, w ∈ lw_tbl := fun w h => (goodIn_p wsL_law0_r6 [323, 360, 797, 800, 803, 806, 810] (by decide +kernel) (by decide +kernel) w h).1
set_option maxRecDepth 20000 in
theorem wsL_law0_r7_in : ∀ w ∈ wsL_law0_r7, w ∈ lw_tbl := fun w h => (goodIn_p wsL_law0_r7 [793, 367, 371, 375, 378] (by decide +kernel) (by decide +kernel) w h).1
set_option maxRecDepth 20000 in
theorem wsL_law0_r8_in : ∀ w ∈ wsL_law0_r8, w ∈ lw_tbl := fun w h => (goodIn_p wsL_law0_r8 [195, 198, 382, 386, 389, 394, 398] (by decide +kernel) (by decide +kernel) w h).1
set_option maxRecDepth 20000 in
theorem wsL_law0_r9_in : ∀ w ∈ wsL_law0_r9, w ∈ lw_tbl := fun w h => (goodIn_p wsL_law0_r9 [814, 818, 822, 826, 829, 832] (by decide +kernel) (by decide +kernel) w h).1
set_option maxRecDepth 20000 in
theorem wsL_law0_r10_in : ∀ w ∈ wsL_law0_r10, w ∈ lw_tbl := fun w h => (goodIn_p wsL_law0_r10 [836, 840, 405, 410, 415] (by decide +kernel) (by decide +kernel) w h).1
set_option maxRecDepth 20000 in
theorem wsL_law0_r11_in : ∀ w ∈ wsL_law0_r11, w ∈ lw_tbl := fun w h => (goodIn_p wsL_law0_r11 [844, 848, 422, 426, 431] (by decide +kernel) (by decide +kernel) w h).1
set_option maxRecDepth 20000 in
theorem wsL_law0_r12_in : ∀ w ∈ wsL_law0_r12, w ∈ lw_tbl := fun w h => (goodIn_p wsL_law0_r12 [435, 440, 444, 447, 451, 202] (by decide +kernel) (by decide +kernel) w h).1
set_option maxRecDepth 20000 in
theorem wsL_law0_r13_in : ∀ w ∈ wsL_law0_r13, w ∈ lw_tbl := fun w h => (goodIn_p wsL_law0_r13 [455, 459, 463, 467, 471, 191] (by decide +kernel) (by decide +kernel) w h).1
set_option maxRecDepth 20000 in
theorem wsL_law0_r14_in : ∀ w ∈ wsL_law0_r14, w ∈ lw_tbl := fun w h => (goodIn_p wsL_law0_r14 [206, 475, 479, 483, 223, 487] (by decide +kernel) (by decide +kernel) w h).1
set_option maxRecDepth 20000 in
theorem wsL_law0_r15_in : ∀ w ∈ wsL_law0_r15, w ∈ lw_tbl := fun w h => (goodIn_p wsL_law0_r15 [852, 856, 860, 864, 868, 872] (by decide +kernel) (by decide +kernel) w h).1
set_option maxRecDepth 20000 in
theorem wsL_law0_r16_in : ∀ w ∈ wsL_law0_r16, w ∈ lw_tbl := fun w h => (goodIn_p wsL_law0_r16 [875, 494, 499, 503, 879] (by decide +kernel) (by decide +kernel) w h).1
set_option maxRecDepth 20000 in
theorem wsL_law0_r17_in : ∀ w ∈ wsL_law0_r17, w ∈ lw_tbl := fun w h => (goodIn_p wsL_law0_r17 [510, 183, 187, 883, 887, 891] (by decide +kernel) (by decide +kernel) w h).1
set_option maxRecDepth 20000 in
theorem wsL_law0_r18_in : ∀ w ∈ wsL_law0_r18, w ∈ lw_tbl := fun w h => (goodIn_p wsL_law0_r18 [518, 522, 527, 895, 899] (by decide +kernel) (by decide +kernel) w h).1
set_option maxRecDepth 20000 in
theorem wsL_law0_r19_in : ∀ w ∈ wsL_law0_r19, w ∈ lw_tbl := fun w h => (goodIn_p wsL_law0_r19 [903, 534, 907, 175, 179] (by decide +kernel) (by decide +kernel) w h).1
set_option maxRecDepth 20000 in
theorem wsL_law0_r20_in : ∀ w ∈ wsL_law0_r20, w ∈ lw_tbl := fun w h => (goodIn_p wsL_law0_r20 [210, 215, 219, 911, 915, 918] (by decide +kernel) (by decide +kernel) w h).1
set_option maxRecDepth 20000 in
theorem wsL_law0_r21_in : ∀ w ∈ wsL_law0_r21, w ∈ lw_tbl := fun w h => (goodIn_p wsL_law0_r21 [542, 922, 550, 926] (by decide +kernel) (by decide +kernel) w h).1
set_option maxRecDepth 20000 in
theorem wsL_law0_r22_in : ∀ w ∈ wsL_law0_r22, w ∈ lw_tbl := fun w h => (goodIn_p wsL_law0_r22 [557, 930, 564, 934] (by decide +kernel) (by decide +kernel) w h).1
set_option maxRecDepth 20000 in
theorem wsL_law0_r23_in : ∀ w ∈ wsL_law0_r23, w ∈ lw_tbl := fun w h => (goodIn_p wsL_law0_r23 [572, 938, 942, 580, 585] (by decide +kernel) (by decide +kernel) w h).1
set_option maxRecDepth 20000 in
theorem wsL_law0_r24_in : ∀ w ∈ wsL_law0_r24, w ∈ lw_tbl := fun w h => (goodIn_p wsL_law0_r24 [946, 592, 950, 227, 954] (by decide +kernel) (by decide +kernel) w h).1
set_option maxRecDepth 20000 in
theorem wsL_law0_r25_in : ∀ w ∈ wsL_law0_r25, w ∈ lw_tbl := fun w h => (goodIn_p wsL_law0_r25 [600, 958, 607, 962] (by decide +kernel) (by decide +kernel) w h).1
set_option maxRecDepth 20000 in
theorem wsL_law0_r26_in : ∀ w ∈ wsL_law0_r26, w ∈ lw_tbl := fun w h => (goodIn_p wsL_law0_r26 [614, 966, 970, 621, 974] (by decide +kernel) (by decide +kernel) w h).1
set_option maxRecDepth 20000 in
theorem wsL_law0_r27_in : ∀ w ∈ wsL_law0_r27, w ∈ lw_tbl := fun w h => (goodIn_p wsL_law0_r27 [628, 978, 635, 982, 231] (by decide +kernel) (by decide +kernel) w h).1
set_option maxRecDepth 20000 in
theorem wsL_law0_r28_in : ∀ w ∈ wsL_law0_r28, w ∈ lw_tbl := fun w h => (goodIn_p wsL_law0_r28 [986, 235, 990, 642, 994] (by decide +kernel) (by decide +kernel) w h).1
set_option maxRecDepth 20000 in
theorem wsL_law0_r29_in : ∀ w ∈ wsL_law0_r29, w ∈ lw_tbl := fun w h => (goodIn_p wsL_law0_r29 [649, 998, 656, 1002] (by decide +kernel) (by decide +kernel) w h).1
set_option maxRecDepth 20000 in
theorem wsL_law0_r30_in : ∀ w ∈ wsL_law0_r30, w ∈ lw_tbl := fun w h => (goodIn_p wsL_law0_r30 [663, 1006, 670, 1010, 239] (by decide +kernel) (by decide +kernel) w h).1
set_option maxRecDepth 20000 in
theorem wsL_law0_r31_in : ∀ w ∈ wsL_law0_r31, w ∈ lw_tbl := fun w h => (goodIn_p wsL_law0_r31 [1014, 677, 681, 1018] (by decide +kernel) (by decide +kernel) w h).1
set_option maxRecDepth 20000 in
theorem wsL_law0_r32_in : ∀ w ∈ wsL_law0_r32, w ∈ lw_tbl := fun w h => (goodIn_p wsL_law0_r32 [691, 695, 1022] (by decide +kernel) (by decide +kernel) w h).1
theorem wsX40_in : ∀ w ∈ wsX40, w ∈ lw_tbl := by decide +kernel
theorem wsX50_in : ∀ w ∈ wsX50, w ∈ lw_tbl := by decide +kernel
theorem wsX10_in : ∀ w ∈ wsX10, w ∈ lw_tbl := by decide +kernel
theorem wsX20_in : ∀ w ∈ wsX20, w ∈ lw_tbl := by decide +kernel
theorem wsX00_in : ∀ w ∈ wsX00, w ∈ lw_tbl := by decide +kernel
theorem wsX30_in : ∀ w ∈ wsX30, w ∈ lw_tbl := by decide +kernel
end
section
theorem wsL_law_in0 : ∀ w ∈ wsL_law0, w ∈ lw_tbl := (lw_appin (lw_appin (lw_appin (lw_appin (lw_appin (lw_appin (lw_appin (lw_appin wsL_law0_r1_in (lw_appin wsL_law0_r2_in (lw_appin wsL_law0_r3_in (lw_appin wsL_law0_r4_in (lw_appin wsL_law0_r5_in (lw_appin wsL_law0_r6_in (lw_appin wsL_law0_r7_in (lw_appin wsL_law0_r8_in (lw_appin wsL_law0_r9_in (lw_appin wsL_law0_r10_in (lw_appin wsL_law0_r11_in (lw_appin wsL_law0_r12_in (lw_appin wsL_law0_r13_in (lw_appin wsL_law0_r14_in (lw_appin wsL_law0_r15_in (lw_appin wsL_law0_r16_in (lw_appin wsL_law0_r17_in (lw_appin wsL_law0_r18_in (lw_appin wsL_law0_r19_in (lw_appin wsL_law0_r20_in (lw_appin wsL_law0_r21_in (lw_appin wsL_law0_r22_in (lw_appin wsL_law0_r23_in (lw_appin wsL_law0_r24_in (lw_appin wsL_law0_r25_in (lw_appin wsL_law0_r26_in (lw_appin wsL_law0_r27_in (lw_appin wsL_law0_r28_in (lw_appin wsL_law0_r29_in (lw_appin wsL_law0_r30_in (lw_appin wsL_law0_r31_in wsL_law0_r32_in))))))))))))))))))))))))))))))) wsX40_in) wsX50_in) wsX10_in) wsX20_in) wsX00_in) wsX30_in) (fun _ h => absurd h List.not_mem_nil))
theorem wsL_law_x0 : ∀ w ∈ (vx_atS RX4 80 "java/lang/IllegalArgumentException" ["java/lang/RuntimeException", "java/lang/Exception"]).filter goodWord, w ∈ lw_tbl := by decide +kernel
theorem wsL_law_x1 : ∀ w ∈ (vx_atS RX4 90 "java/lang/IllegalStateException" ["java/lang/RuntimeException", "java/lang/Exception"]).filter goodWord, w ∈ lw_tbl := by decide +kernel
theorem wsL_law_x2 : ∀ w ∈ (vx_atS RX4 185 "java/lang/IndexOutOfBoundsException" ["java/lang/RuntimeException", "java/lang/Exception"]).filter goodWord, w ∈ lw_tbl := by decide +kernel
theorem wsL_law_in : ∀ w ∈ wsL_law, w ∈ lw_tbl := fun w h => (List.mem_append.mp h).elim (fun h => (List.mem_append.mp h).elim (fun h => (List.mem_append.mp h).elim (fun h => wsL_law_in0 w h) (fun h => wsL_law_x0 w h)) (fun h => wsL_law_x1 w h)) (fun h => wsL_law_x2 w h)
theorem inlX0 : ∀ w ∈ wsX00, w ∈ wsL_law := fun _ h => List.mem_append_left _ (List.mem_append_left _ (List.mem_append_left _ (List.mem_append_left _ (List.mem_append_left _ (List.mem_append_right _ h)))))
theorem inX0 : ∀ w ∈ wsX00, w ∈ lw_tbl := fun w h => wsL_law_in w (inlX0 w h)
theorem inlX1 : ∀ w ∈ wsX10, w ∈ wsL_law := fun _ h => List.mem_append_left _ (List.mem_append_left _ (List.mem_append_left _ (List.mem_append_left _ (List.mem_append_left _ (List.mem_append_left _ (List.mem_append_left _ (List.mem_append_right _ h)))))))
theorem inX1 : ∀ w ∈ wsX10, w ∈ lw_tbl := fun w h => wsL_law_in w (inlX1 w h)
theorem inlX2 : ∀ w ∈ wsX20, w ∈ wsL_law := fun _ h => List.mem_append_left _ (List.mem_append_left _ (List.mem_append_left _ (List.mem_append_left _ (List.mem_append_left _ (List.mem_append_left _ (List.mem_append_right _ h))))))
theorem inX2 : ∀ w ∈ wsX20, w ∈ lw_tbl := fun w h => wsL_law_in w (inlX2 w h)
theorem inlX3 : ∀ w ∈ wsX30, w ∈ wsL_law := fun _ h => List.mem_append_left _ (List.mem_append_left _ (List.mem_append_left _ (List.mem_append_left _ (List.mem_append_right _ h))))
theorem inX3 : ∀ w ∈ wsX30, w ∈ lw_tbl := fun w h => wsL_law_in w (inlX3 w h)
theorem inlX4 : ∀ w ∈ wsX40, w ∈ wsL_law := fun _ h => List.mem_append_left _ (List.mem_append_left _ (List.mem_append_left _ (List.mem_append_left _ (List.mem_append_left _ (List.mem_append_left _ (List.mem_append_left _ (List.mem_append_left _ (List.mem_append_left _ (List.mem_append_right _ h)))))))))
theorem inX4 : ∀ w ∈ wsX40, w ∈ lw_tbl := fun w h => wsL_law_in w (inlX4 w h)
theorem inlX5 : ∀ w ∈ wsX50, w ∈ wsL_law := fun _ h => List.mem_append_left _ (List.mem_append_left _ (List.mem_append_left _ (List.mem_append_left _ (List.mem_append_left _ (List.mem_append_left _ (List.mem_append_left _ (List.mem_append_left _ (List.mem_append_right _ h))))))))
theorem inX5 : ∀ w ∈ wsX50, w ∈ lw_tbl := fun w h => wsL_law_in w (inlX5 w h)
theorem inJ0 : ∀ w ∈ wsJ00, w ∈ lw_tbl := by decide +kernel
abbrev vwCl : List vw_C := [(RX0, TX0, 3), (RX1, TX1, 2), (RX2, TX2, 4), (RX3, TX3, 2), (RX4, TX4, 14), (RX5, TX5, 27)]
end
section
theorem dX0_init_0 : decode cX0_init 0 = .ok (.aload_n 0, 1) := by decide +kernel
theorem dX0_init_1 : decode cX0_init 1 = .ok (.invokespecial 3, 3) := by decide +kernel
theorem dX0_init_4 : decode cX0_init 4 = .ok (.aload_n 0, 1) := by decide +kernel
theorem dX0_init_5 : decode cX0_init 5 = .ok (.sipush 128, 3) := by decide +kernel
theorem dX0_init_8 : decode cX0_init 8 = .ok (.newarray .int, 2) := by decide +kernel
theorem dX0_init_10 : decode cX0_init 10 = .ok (.putfield 9, 3) := by decide +kernel
theorem dX0_init_13 : decode cX0_init 13 = .ok (.aload_n 0, 1) := by decide +kernel
theorem dX0_init_14 : decode cX0_init 14 = .ok (.bipush 16, 2) := by decide +kernel
theorem dX0_init_16 : decode cX0_init 16 = .ok (.newarray .int, 2) := by decide +kernel
theorem dX0_init_18 : decode cX0_init 18 = .ok (.putfield 15, 3) := by decide +kernel
theorem dX0_init_21 : decode cX0_init 21 = .ok (.aload_n 0, 1) := by decide +kernel
theorem dX0_init_22 : decode cX0_init 22 = .ok (.bipush 16, 2) := by decide +kernel
theorem dX0_init_24 : decode cX0_init 24 = .ok (.newarray .boolean, 2) := by decide +kernel
theorem dX0_init_26 : decode cX0_init 26 = .ok (.putfield 18, 3) := by decide +kernel
theorem dX0_init_29 : decode cX0_init 29 = .ok (.return_, 1) := by decide +kernel
theorem dX0_channelOf_0 : decode cX0_channelOf 0 = .ok (.iload_n 0, 1) := by decide +kernel
theorem dX0_channelOf_1 : decode cX0_channelOf 1 = .ok (.iconst 4, 1) := by decide +kernel
theorem dX0_channelOf_2 : decode cX0_channelOf 2 = .ok (.imul, 1) := by decide +kernel
theorem dX0_channelOf_3 : decode cX0_channelOf 3 = .ok (.iload_n 1, 1) := by decide +kernel
theorem dX0_channelOf_4 : decode cX0_channelOf 4 = .ok (.iadd, 1) := by decide +kernel
theorem dX0_channelOf_5 : decode cX0_channelOf 5 = .ok (.ireturn, 1) := by decide +kernel
set_option maxRecDepth 20000 in
theorem ggX0_size_X0_channelOf : GoodIn wsX0_size wsX0_channelOf := goodIn_r _ [5] (by decide +kernel) (by decide +kernel)
set_option maxRecDepth 20000 in
theorem gX0_size_X0_channelOf : GoodIn wsX0_size (va_wsS RX0 22 yX0_channelOf wsX0_channelOf) := goodIn_app (goodIn_of _ (by decide +kernel)) ggX0_size_X0_channelOf
theorem dX0_size_0 : decode cX0_size 0 = .ok (.aload_n 0, 1) := by decide +kernel
theorem dX0_size_1 : decode cX0_size 1 = .ok (.getfield 15, 3) := by decide +kernel
theorem dX0_size_4 : decode cX0_size 4 = .ok (.iload_n 1, 1) := by decide +kernel
theorem dX0_size_5 : decode cX0_size 5 = .ok (.iload_n 2, 1) := by decide +kernel
theorem dX0_size_6 : decode cX0_size 6 = .ok (.invokestatic 22, 3) := by decide +kernel
theorem dX0_size_9 : decode cX0_size 9 = .ok (.iaload, 1) := by decide +kernel
theorem dX0_size_10 : decode cX0_size 10 = .ok (.ireturn, 1) := by decide +kernel
set_option maxRecDepth 20000 in
theorem ggX0_get_X0_channelOf : GoodIn wsX0_get wsX0_channelOf := goodIn_r _ [5] (by decide +kernel) (by decide +kernel)
set_option maxRecDepth 20000 in
theorem gX0_get_X0_channelOf : GoodIn wsX0_get (va_wsS RX0 22 yX0_channelOf wsX0_channelOf) := goodIn_app (goodIn_of _ (by decide +kernel)) ggX0_get_X0_channelOf
theorem dX0_get_0 : decode cX0_get 0 = .ok (.aload_n 0, 1) := by decide +kernel
theorem dX0_get_1 : decode cX0_get 1 = .ok (.getfield 9, 3) := by decide +kernel
theorem dX0_get_4 : decode cX0_get 4 = .ok (.iload_n 1, 1) := by decide +kernel
theorem dX0_get_5 : decode cX0_get 5 = .ok (.iload_n 2, 1) := by decide +kernel
theorem dX0_get_6 : decode cX0_get 6 = .ok (.invokestatic 22, 3) := by decide +kernel
theorem dX0_get_9 : decode cX0_get 9 = .ok (.bipush 8, 2) := by decide +kernel
theorem dX0_get_11 : decode cX0_get 11 = .ok (.imul, 1) := by decide +kernel
theorem dX0_get_12 : decode cX0_get 12 = .ok (.iload_n 3, 1) := by decide +kernel
theorem dX0_get_13 : decode cX0_get 13 = .ok (.iadd, 1) := by decide +kernel
theorem dX0_get_14 : decode cX0_get 14 = .ok (.iaload, 1) := by decide +kernel
theorem dX0_get_15 : decode cX0_get 15 = .ok (.ireturn, 1) := by decide +kernel
set_option maxRecDepth 20000 in
theorem ggX0_hasRoom_X0_size : GoodIn wsX0_hasRoom wsX0_size := goodIn_r _ [5, 6, 7, 8, 4, 9, 10, 11, 12] (by decide +kernel) (by decide +kernel)
set_option maxRecDepth 20000 in
theorem gX0_hasRoom_X0_size : GoodIn wsX0_hasRoom (wsV RX0 26 RX0 yX0_size wsX0_size) := goodIn_app (goodIn_of _ (by decide +kernel)) ggX0_hasRoom_X0_size
theorem dX0_hasRoom_0 : decode cX0_hasRoom 0 = .ok (.aload_n 0, 1) := by decide +kernel
theorem dX0_hasRoom_1 : decode cX0_hasRoom 1 = .ok (.iload_n 1, 1) := by decide +kernel
theorem dX0_hasRoom_2 : decode cX0_hasRoom 2 = .ok (.iload_n 2, 1) := by decide +kernel
theorem dX0_hasRoom_3 : decode cX0_hasRoom 3 = .ok (.invokevirtual 26, 3) := by decide +kernel
theorem dX0_hasRoom_6 : decode cX0_hasRoom 6 = .ok (.bipush 8, 2) := by decide +kernel
theorem dX0_hasRoom_8 : decode cX0_hasRoom 8 = .ok (.if_icmp .ge 7, 3) := by decide +kernel
theorem dX0_hasRoom_11 : decode cX0_hasRoom 11 = .ok (.iconst 1, 1) := by decide +kernel
theorem dX0_hasRoom_12 : decode cX0_hasRoom 12 = .ok (.goto 4, 3) := by decide +kernel
theorem dX0_hasRoom_15 : decode cX0_hasRoom 15 = .ok (.iconst 0, 1) := by decide +kernel
theorem dX0_hasRoom_16 : decode cX0_hasRoom 16 = .ok (.ireturn, 1) := by decide +kernel
set_option maxRecDepth 20000 in
theorem ggX0_isShut_X0_channelOf : GoodIn wsX0_isShut wsX0_channelOf := goodIn_r _ [5] (by decide +kernel) (by decide +kernel)
set_option maxRecDepth 20000 in
theorem gX0_isShut_X0_channelOf : GoodIn wsX0_isShut (va_wsS RX0 22 yX0_channelOf wsX0_channelOf) := goodIn_app (goodIn_of _ (by decide +kernel)) ggX0_isShut_X0_channelOf
theorem dX0_isShut_0 : decode cX0_isShut 0 = .ok (.aload_n 0, 1) := by decide +kernel
theorem dX0_isShut_1 : decode cX0_isShut 1 = .ok (.getfield 18, 3) := by decide +kernel
theorem dX0_isShut_4 : decode cX0_isShut 4 = .ok (.iload_n 1, 1) := by decide +kernel
theorem dX0_isShut_5 : decode cX0_isShut 5 = .ok (.iload_n 2, 1) := by decide +kernel
theorem dX0_isShut_6 : decode cX0_isShut 6 = .ok (.invokestatic 22, 3) := by decide +kernel
theorem dX0_isShut_9 : decode cX0_isShut 9 = .ok (.baload, 1) := by decide +kernel
theorem dX0_isShut_10 : decode cX0_isShut 10 = .ok (.ireturn, 1) := by decide +kernel
set_option maxRecDepth 20000 in
theorem ggX0_canGive_X0_size : GoodIn wsX0_canGive wsX0_size := goodIn_r _ [5, 6, 7, 8, 4, 9, 15, 16, 17] (by decide +kernel) (by decide +kernel)
set_option maxRecDepth 20000 in
theorem gX0_canGive_X0_size : GoodIn wsX0_canGive (wsV RX0 26 RX0 yX0_size wsX0_size) := goodIn_app (goodIn_of _ (by decide +kernel)) ggX0_canGive_X0_size
set_option maxRecDepth 20000 in
theorem ggX0_canGive_X0_isShut : GoodIn wsX0_canGive wsX0_isShut := goodIn_r _ [13, 14, 7, 8, 4, 9, 15, 16, 17] (by decide +kernel) (by decide +kernel)
set_option maxRecDepth 20000 in
theorem gX0_canGive_X0_isShut : GoodIn wsX0_canGive (wsV RX0 29 RX0 yX0_isShut wsX0_isShut) := goodIn_app (goodIn_of _ (by decide +kernel)) ggX0_canGive_X0_isShut
theorem dX0_canGive_0 : decode cX0_canGive 0 = .ok (.aload_n 0, 1) := by decide +kernel
theorem dX0_canGive_1 : decode cX0_canGive 1 = .ok (.iload_n 1, 1) := by decide +kernel
theorem dX0_canGive_2 : decode cX0_canGive 2 = .ok (.iload_n 2, 1) := by decide +kernel
theorem dX0_canGive_3 : decode cX0_canGive 3 = .ok (.invokevirtual 26, 3) := by decide +kernel
theorem dX0_canGive_6 : decode cX0_canGive 6 = .ok (.ifCond .le 16, 3) := by decide +kernel
theorem dX0_canGive_9 : decode cX0_canGive 9 = .ok (.aload_n 0, 1) := by decide +kernel
theorem dX0_canGive_10 : decode cX0_canGive 10 = .ok (.iload_n 1, 1) := by decide +kernel
theorem dX0_canGive_11 : decode cX0_canGive 11 = .ok (.iload_n 2, 1) := by decide +kernel
theorem dX0_canGive_12 : decode cX0_canGive 12 = .ok (.invokevirtual 29, 3) := by decide +kernel
theorem dX0_canGive_15 : decode cX0_canGive 15 = .ok (.ifCond .ne 7, 3) := by decide +kernel
theorem dX0_canGive_18 : decode cX0_canGive 18 = .ok (.iconst 1, 1) := by decide +kernel
theorem dX0_canGive_19 : decode cX0_canGive 19 = .ok (.goto 4, 3) := by decide +kernel
theorem dX0_canGive_22 : decode cX0_canGive 22 = .ok (.iconst 0, 1) := by decide +kernel
theorem dX0_canGive_23 : decode cX0_canGive 23 = .ok (.ireturn, 1) := by decide +kernel
set_option maxRecDepth 20000 in
theorem ggX0_put_X0_channelOf : GoodIn wsX0_put wsX0_channelOf := goodIn_r _ [6] (by decide +kernel) (by decide +kernel)
set_option maxRecDepth 20000 in
theorem gX0_put_X0_channelOf : GoodIn wsX0_put (va_wsS RX0 22 yX0_channelOf wsX0_channelOf) := goodIn_app (goodIn_of _ (by decide +kernel)) ggX0_put_X0_channelOf
theorem dX0_put_0 : decode cX0_put 0 = .ok (.iload_n 1, 1) := by decide +kernel
theorem dX0_put_1 : decode cX0_put 1 = .ok (.iload_n 2, 1) := by decide +kernel
theorem dX0_put_2 : decode cX0_put 2 = .ok (.invokestatic 22, 3) := by decide +kernel
theorem dX0_put_5 : decode cX0_put 5 = .ok (.istore 4, 2) := by decide +kernel
theorem dX0_put_7 : decode cX0_put 7 = .ok (.aload_n 0, 1) := by decide +kernel
theorem dX0_put_8 : decode cX0_put 8 = .ok (.getfield 9, 3) := by decide +kernel
theorem dX0_put_11 : decode cX0_put 11 = .ok (.iload 4, 2) := by decide +kernel
theorem dX0_put_13 : decode cX0_put 13 = .ok (.bipush 8, 2) := by decide +kernel
theorem dX0_put_15 : decode cX0_put 15 = .ok (.imul, 1) := by decide +kernel
theorem dX0_put_16 : decode cX0_put 16 = .ok (.aload_n 0, 1) := by decide +kernel
theorem dX0_put_17 : decode cX0_put 17 = .ok (.getfield 15, 3) := by decide +kernel
theorem dX0_put_20 : decode cX0_put 20 = .ok (.iload 4, 2) := by decide +kernel
theorem dX0_put_22 : decode cX0_put 22 = .ok (.iaload, 1) := by decide +kernel
theorem dX0_put_23 : decode cX0_put 23 = .ok (.iadd, 1) := by decide +kernel
theorem dX0_put_24 : decode cX0_put 24 = .ok (.iload_n 3, 1) := by decide +kernel
theorem dX0_put_25 : decode cX0_put 25 = .ok (.iastore, 1) := by decide +kernel
theorem dX0_put_26 : decode cX0_put 26 = .ok (.aload_n 0, 1) := by decide +kernel
theorem dX0_put_27 : decode cX0_put 27 = .ok (.getfield 15, 3) := by decide +kernel
theorem dX0_put_30 : decode cX0_put 30 = .ok (.iload 4, 2) := by decide +kernel
theorem dX0_put_32 : decode cX0_put 32 = .ok (.dup2, 1) := by decide +kernel
theorem dX0_put_33 : decode cX0_put 33 = .ok (.iaload, 1) := by decide +kernel
theorem dX0_put_34 : decode cX0_put 34 = .ok (.iconst 1, 1) := by decide +kernel
theorem dX0_put_35 : decode cX0_put 35 = .ok (.iadd, 1) := by decide +kernel
theorem dX0_put_36 : decode cX0_put 36 = .ok (.iastore, 1) := by decide +kernel
theorem dX0_put_37 : decode cX0_put 37 = .ok (.return_, 1) := by decide +kernel
set_option maxRecDepth 20000 in
theorem ggX0_removeFirst_X0_channelOf : GoodIn wsX0_removeFirst wsX0_channelOf := goodIn_r _ [6] (by decide +kernel) (by decide +kernel)
set_option maxRecDepth 20000 in
theorem gX0_removeFirst_X0_channelOf : GoodIn wsX0_removeFirst (va_wsS RX0 22 yX0_channelOf wsX0_channelOf) := goodIn_app (goodIn_of _ (by decide +kernel)) ggX0_removeFirst_X0_channelOf
theorem dX0_removeFirst_0 : decode cX0_removeFirst 0 = .ok (.iload_n 1, 1) := by decide +kernel
theorem dX0_removeFirst_1 : decode cX0_removeFirst 1 = .ok (.iload_n 2, 1) := by decide +kernel
theorem dX0_removeFirst_2 : decode cX0_removeFirst 2 = .ok (.invokestatic 22, 3) := by decide +kernel
theorem dX0_removeFirst_5 : decode cX0_removeFirst 5 = .ok (.istore_n 3, 1) := by decide +kernel
theorem dX0_removeFirst_6 : decode cX0_removeFirst 6 = .ok (.iload_n 3, 1) := by decide +kernel
theorem dX0_removeFirst_7 : decode cX0_removeFirst 7 = .ok (.bipush 8, 2) := by decide +kernel
theorem dX0_removeFirst_9 : decode cX0_removeFirst 9 = .ok (.imul, 1) := by decide +kernel
theorem dX0_removeFirst_10 : decode cX0_removeFirst 10 = .ok (.istore 4, 2) := by decide +kernel
theorem dX0_removeFirst_12 : decode cX0_removeFirst 12 = .ok (.aload_n 0, 1) := by decide +kernel
theorem dX0_removeFirst_13 : decode cX0_removeFirst 13 = .ok (.getfield 9, 3) := by decide +kernel
theorem dX0_removeFirst_16 : decode cX0_removeFirst 16 = .ok (.iload 4, 2) := by decide +kernel
theorem dX0_removeFirst_18 : decode cX0_removeFirst 18 = .ok (.iaload, 1) := by decide +kernel
theorem dX0_removeFirst_19 : decode cX0_removeFirst 19 = .ok (.istore 5, 2) := by decide +kernel
theorem dX0_removeFirst_21 : decode cX0_removeFirst 21 = .ok (.iconst 1, 1) := by decide +kernel
theorem dX0_removeFirst_22 : decode cX0_removeFirst 22 = .ok (.istore 6, 2) := by decide +kernel
theorem dX0_removeFirst_24 : decode cX0_removeFirst 24 = .ok (.iload 6, 2) := by decide +kernel
theorem dX0_removeFirst_26 : decode cX0_removeFirst 26 = .ok (.aload_n 0, 1) := by decide +kernel
theorem dX0_removeFirst_27 : decode cX0_removeFirst 27 = .ok (.getfield 15, 3) := by decide +kernel
theorem dX0_removeFirst_30 : decode cX0_removeFirst 30 = .ok (.iload_n 3, 1) := by decide +kernel
theorem dX0_removeFirst_31 : decode cX0_removeFirst 31 = .ok (.iaload, 1) := by decide +kernel
theorem dX0_removeFirst_32 : decode cX0_removeFirst 32 = .ok (.if_icmp .ge 31, 3) := by decide +kernel
theorem dX0_removeFirst_35 : decode cX0_removeFirst 35 = .ok (.aload_n 0, 1) := by decide +kernel
theorem dX0_removeFirst_36 : decode cX0_removeFirst 36 = .ok (.getfield 9, 3) := by decide +kernel
theorem dX0_removeFirst_39 : decode cX0_removeFirst 39 = .ok (.iload 4, 2) := by decide +kernel
theorem dX0_removeFirst_41 : decode cX0_removeFirst 41 = .ok (.iload 6, 2) := by decide +kernel
theorem dX0_removeFirst_43 : decode cX0_removeFirst 43 = .ok (.iadd, 1) := by decide +kernel
theorem dX0_removeFirst_44 : decode cX0_removeFirst 44 = .ok (.iconst 1, 1) := by decide +kernel
theorem dX0_removeFirst_45 : decode cX0_removeFirst 45 = .ok (.isub, 1) := by decide +kernel
theorem dX0_removeFirst_46 : decode cX0_removeFirst 46 = .ok (.aload_n 0, 1) := by decide +kernel
theorem dX0_removeFirst_47 : decode cX0_removeFirst 47 = .ok (.getfield 9, 3) := by decide +kernel
theorem dX0_removeFirst_50 : decode cX0_removeFirst 50 = .ok (.iload 4, 2) := by decide +kernel
theorem dX0_removeFirst_52 : decode cX0_removeFirst 52 = .ok (.iload 6, 2) := by decide +kernel
theorem dX0_removeFirst_54 : decode cX0_removeFirst 54 = .ok (.iadd, 1) := by decide +kernel
theorem dX0_removeFirst_55 : decode cX0_removeFirst 55 = .ok (.iaload, 1) := by decide +kernel
theorem dX0_removeFirst_56 : decode cX0_removeFirst 56 = .ok (.iastore, 1) := by decide +kernel
theorem dX0_removeFirst_57 : decode cX0_removeFirst 57 = .ok (.iinc 6 1, 3) := by decide +kernel
theorem dX0_removeFirst_60 : decode cX0_removeFirst 60 = .ok (.goto (-36), 3) := by decide +kernel
theorem dX0_removeFirst_63 : decode cX0_removeFirst 63 = .ok (.aload_n 0, 1) := by decide +kernel
theorem dX0_removeFirst_64 : decode cX0_removeFirst 64 = .ok (.getfield 15, 3) := by decide +kernel
theorem dX0_removeFirst_67 : decode cX0_removeFirst 67 = .ok (.iload_n 3, 1) := by decide +kernel
theorem dX0_removeFirst_68 : decode cX0_removeFirst 68 = .ok (.dup2, 1) := by decide +kernel
theorem dX0_removeFirst_69 : decode cX0_removeFirst 69 = .ok (.iaload, 1) := by decide +kernel
theorem dX0_removeFirst_70 : decode cX0_removeFirst 70 = .ok (.iconst 1, 1) := by decide +kernel
theorem dX0_removeFirst_71 : decode cX0_removeFirst 71 = .ok (.isub, 1) := by decide +kernel
theorem dX0_removeFirst_72 : decode cX0_removeFirst 72 = .ok (.iastore, 1) := by decide +kernel
theorem dX0_removeFirst_73 : decode cX0_removeFirst 73 = .ok (.iload 5, 2) := by decide +kernel
theorem dX0_removeFirst_75 : decode cX0_removeFirst 75 = .ok (.ireturn, 1) := by decide +kernel
set_option maxRecDepth 20000 in
theorem ggX0_block_X0_channelOf : GoodIn wsX0_block wsX0_channelOf := goodIn_r _ [5] (by decide +kernel) (by decide +kernel)
set_option maxRecDepth 20000 in
theorem gX0_block_X0_channelOf : GoodIn wsX0_block (va_wsS RX0 22 yX0_channelOf wsX0_channelOf) := goodIn_app (goodIn_of _ (by decide +kernel)) ggX0_block_X0_channelOf
theorem dX0_block_0 : decode cX0_block 0 = .ok (.aload_n 0, 1) := by decide +kernel
theorem dX0_block_1 : decode cX0_block 1 = .ok (.getfield 18, 3) := by decide +kernel
theorem dX0_block_4 : decode cX0_block 4 = .ok (.iload_n 1, 1) := by decide +kernel
theorem dX0_block_5 : decode cX0_block 5 = .ok (.iload_n 2, 1) := by decide +kernel
theorem dX0_block_6 : decode cX0_block 6 = .ok (.invokestatic 22, 3) := by decide +kernel
theorem dX0_block_9 : decode cX0_block 9 = .ok (.iconst 1, 1) := by decide +kernel
theorem dX0_block_10 : decode cX0_block 10 = .ok (.bastore, 1) := by decide +kernel
theorem dX0_block_11 : decode cX0_block 11 = .ok (.return_, 1) := by decide +kernel
set_option maxRecDepth 20000 in
theorem ggX0_areAllBlocked_X0_isShut : GoodIn wsX0_areAllBlocked wsX0_isShut := goodIn_r _ [5, 6, 7, 8, 4, 9, 10, 11, 12] (by decide +kernel) (by decide +kernel)
set_option maxRecDepth 20000 in
theorem gX0_areAllBlocked_X0_isShut : GoodIn wsX0_areAllBlocked (wsV RX0 29 RX0 yX0_isShut wsX0_isShut) := goodIn_app (goodIn_of _ (by decide +kernel)) ggX0_areAllBlocked_X0_isShut
theorem dX0_areAllBlocked_0 : decode cX0_areAllBlocked 0 = .ok (.iconst 0, 1) := by decide +kernel
theorem dX0_areAllBlocked_1 : decode cX0_areAllBlocked 1 = .ok (.istore_n 2, 1) := by decide +kernel
theorem dX0_areAllBlocked_2 : decode cX0_areAllBlocked 2 = .ok (.iload_n 2, 1) := by decide +kernel
theorem dX0_areAllBlocked_3 : decode cX0_areAllBlocked 3 = .ok (.iconst 4, 1) := by decide +kernel
theorem dX0_areAllBlocked_4 : decode cX0_areAllBlocked 4 = .ok (.if_icmp .ge 20, 3) := by decide +kernel
theorem dX0_areAllBlocked_7 : decode cX0_areAllBlocked 7 = .ok (.aload_n 0, 1) := by decide +kernel
theorem dX0_areAllBlocked_8 : decode cX0_areAllBlocked 8 = .ok (.iload_n 2, 1) := by decide +kernel
theorem dX0_areAllBlocked_9 : decode cX0_areAllBlocked 9 = .ok (.iload_n 1, 1) := by decide +kernel
theorem dX0_areAllBlocked_10 : decode cX0_areAllBlocked 10 = .ok (.invokevirtual 29, 3) := by decide +kernel
theorem dX0_areAllBlocked_13 : decode cX0_areAllBlocked 13 = .ok (.ifCond .ne 5, 3) := by decide +kernel
theorem dX0_areAllBlocked_16 : decode cX0_areAllBlocked 16 = .ok (.iconst 0, 1) := by decide +kernel
theorem dX0_areAllBlocked_17 : decode cX0_areAllBlocked 17 = .ok (.ireturn, 1) := by decide +kernel
theorem dX0_areAllBlocked_18 : decode cX0_areAllBlocked 18 = .ok (.iinc 2 1, 3) := by decide +kernel
theorem dX0_areAllBlocked_21 : decode cX0_areAllBlocked 21 = .ok (.goto (-19), 3) := by decide +kernel
theorem dX0_areAllBlocked_24 : decode cX0_areAllBlocked 24 = .ok (.iconst 1, 1) := by decide +kernel
theorem dX0_areAllBlocked_25 : decode cX0_areAllBlocked 25 = .ok (.ireturn, 1) := by decide +kernel
set_option maxRecDepth 20000 in
theorem ggX0_unblockAll_X0_channelOf : GoodIn wsX0_unblockAll wsX0_channelOf := goodIn_r _ [5] (by decide +kernel) (by decide +kernel)
set_option maxRecDepth 20000 in
theorem gX0_unblockAll_X0_channelOf : GoodIn wsX0_unblockAll (va_wsS RX0 22 yX0_channelOf wsX0_channelOf) := goodIn_app (goodIn_of _ (by decide +kernel)) ggX0_unblockAll_X0_channelOf
theorem dX0_unblockAll_0 : decode cX0_unblockAll 0 = .ok (.iconst 0, 1) := by decide +kernel
theorem dX0_unblockAll_1 : decode cX0_unblockAll 1 = .ok (.istore_n 2, 1) := by decide +kernel
theorem dX0_unblockAll_2 : decode cX0_unblockAll 2 = .ok (.iload_n 2, 1) := by decide +kernel
theorem dX0_unblockAll_3 : decode cX0_unblockAll 3 = .ok (.iconst 4, 1) := by decide +kernel
theorem dX0_unblockAll_4 : decode cX0_unblockAll 4 = .ok (.if_icmp .ge 20, 3) := by decide +kernel
theorem dX0_unblockAll_7 : decode cX0_unblockAll 7 = .ok (.aload_n 0, 1) := by decide +kernel
theorem dX0_unblockAll_8 : decode cX0_unblockAll 8 = .ok (.getfield 18, 3) := by decide +kernel
theorem dX0_unblockAll_11 : decode cX0_unblockAll 11 = .ok (.iload_n 2, 1) := by decide +kernel
theorem dX0_unblockAll_12 : decode cX0_unblockAll 12 = .ok (.iload_n 1, 1) := by decide +kernel
theorem dX0_unblockAll_13 : decode cX0_unblockAll 13 = .ok (.invokestatic 22, 3) := by decide +kernel
theorem dX0_unblockAll_16 : decode cX0_unblockAll 16 = .ok (.iconst 0, 1) := by decide +kernel
theorem dX0_unblockAll_17 : decode cX0_unblockAll 17 = .ok (.bastore, 1) := by decide +kernel
theorem dX0_unblockAll_18 : decode cX0_unblockAll 18 = .ok (.iinc 2 1, 3) := by decide +kernel
theorem dX0_unblockAll_21 : decode cX0_unblockAll 21 = .ok (.goto (-19), 3) := by decide +kernel
theorem dX0_unblockAll_24 : decode cX0_unblockAll 24 = .ok (.return_, 1) := by decide +kernel
theorem dX0_clearAll_0 : decode cX0_clearAll 0 = .ok (.iconst 0, 1) := by decide +kernel
theorem dX0_clearAll_1 : decode cX0_clearAll 1 = .ok (.istore_n 1, 1) := by decide +kernel
theorem dX0_clearAll_2 : decode cX0_clearAll 2 = .ok (.iload_n 1, 1) := by decide +kernel
theorem dX0_clearAll_3 : decode cX0_clearAll 3 = .ok (.bipush 16, 2) := by decide +kernel
theorem dX0_clearAll_5 : decode cX0_clearAll 5 = .ok (.if_icmp .ge 23, 3) := by decide +kernel
theorem dX0_clearAll_8 : decode cX0_clearAll 8 = .ok (.aload_n 0, 1) := by decide +kernel
theorem dX0_clearAll_9 : decode cX0_clearAll 9 = .ok (.getfield 15, 3) := by decide +kernel
theorem dX0_clearAll_12 : decode cX0_clearAll 12 = .ok (.iload_n 1, 1) := by decide +kernel
theorem dX0_clearAll_13 : decode cX0_clearAll 13 = .ok (.iconst 0, 1) := by decide +kernel
theorem dX0_clearAll_14 : decode cX0_clearAll 14 = .ok (.iastore, 1) := by decide +kernel
theorem dX0_clearAll_15 : decode cX0_clearAll 15 = .ok (.aload_n 0, 1) := by decide +kernel
theorem dX0_clearAll_16 : decode cX0_clearAll 16 = .ok (.getfield 18, 3) := by decide +kernel
theorem dX0_clearAll_19 : decode cX0_clearAll 19 = .ok (.iload_n 1, 1) := by decide +kernel
theorem dX0_clearAll_20 : decode cX0_clearAll 20 = .ok (.iconst 0, 1) := by decide +kernel
theorem dX0_clearAll_21 : decode cX0_clearAll 21 = .ok (.bastore, 1) := by decide +kernel
theorem dX0_clearAll_22 : decode cX0_clearAll 22 = .ok (.iinc 1 1, 3) := by decide +kernel
theorem dX0_clearAll_25 : decode cX0_clearAll 25 = .ok (.goto (-23), 3) := by decide +kernel
theorem dX0_clearAll_28 : decode cX0_clearAll 28 = .ok (.return_, 1) := by decide +kernel
set_option maxRecDepth 20000 in
theorem ggX0_sumOfKey_X4_keyOf : GoodIn wsX0_sumOfKey wsX4_keyOf := goodIn_r _ [5] (by decide +kernel) (by decide +kernel)
set_option maxRecDepth 20000 in
theorem gX0_sumOfKey_X4_keyOf_n33 : GoodIn wsX0_sumOfKey (wsX4_keyOf) := ggX0_sumOfKey_X4_keyOf
set_option maxRecDepth 20000 in
theorem ggX0_sumOfKey_X4_valueOf : GoodIn wsX0_sumOfKey wsX4_valueOf := goodIn_r _ [7] (by decide +kernel) (by decide +kernel)
set_option maxRecDepth 20000 in
theorem gX0_sumOfKey_X4_valueOf_n37 : GoodIn wsX0_sumOfKey (wsX4_valueOf) := ggX0_sumOfKey_X4_valueOf
theorem dX0_sumOfKey_0 : decode cX0_sumOfKey 0 = .ok (.iconst 0, 1) := by decide +kernel
theorem dX0_sumOfKey_1 : decode cX0_sumOfKey 1 = .ok (.istore_n 2, 1) := by decide +kernel
theorem dX0_sumOfKey_2 : decode cX0_sumOfKey 2 = .ok (.iconst 0, 1) := by decide +kernel
theorem dX0_sumOfKey_3 : decode cX0_sumOfKey 3 = .ok (.istore_n 3, 1) := by decide +kernel
theorem dX0_sumOfKey_4 : decode cX0_sumOfKey 4 = .ok (.iload_n 3, 1) := by decide +kernel
theorem dX0_sumOfKey_5 : decode cX0_sumOfKey 5 = .ok (.bipush 16, 2) := by decide +kernel
theorem dX0_sumOfKey_7 : decode cX0_sumOfKey 7 = .ok (.if_icmp .ge 65, 3) := by decide +kernel
theorem dX0_sumOfKey_10 : decode cX0_sumOfKey 10 = .ok (.iconst 0, 1) := by decide +kernel
theorem dX0_sumOfKey_11 : decode cX0_sumOfKey 11 = .ok (.istore 4, 2) := by decide +kernel
theorem dX0_sumOfKey_13 : decode cX0_sumOfKey 13 = .ok (.iload 4, 2) := by decide +kernel
theorem dX0_sumOfKey_15 : decode cX0_sumOfKey 15 = .ok (.aload_n 0, 1) := by decide +kernel
theorem dX0_sumOfKey_16 : decode cX0_sumOfKey 16 = .ok (.getfield 15, 3) := by decide +kernel
theorem dX0_sumOfKey_19 : decode cX0_sumOfKey 19 = .ok (.iload_n 3, 1) := by decide +kernel
theorem dX0_sumOfKey_20 : decode cX0_sumOfKey 20 = .ok (.iaload, 1) := by decide +kernel
theorem dX0_sumOfKey_21 : decode cX0_sumOfKey 21 = .ok (.if_icmp .ge 45, 3) := by decide +kernel
theorem dX0_sumOfKey_24 : decode cX0_sumOfKey 24 = .ok (.aload_n 0, 1) := by decide +kernel
theorem dX0_sumOfKey_25 : decode cX0_sumOfKey 25 = .ok (.getfield 9, 3) := by decide +kernel
theorem dX0_sumOfKey_28 : decode cX0_sumOfKey 28 = .ok (.iload_n 3, 1) := by decide +kernel
theorem dX0_sumOfKey_29 : decode cX0_sumOfKey 29 = .ok (.bipush 8, 2) := by decide +kernel
theorem dX0_sumOfKey_31 : decode cX0_sumOfKey 31 = .ok (.imul, 1) := by decide +kernel
theorem dX0_sumOfKey_32 : decode cX0_sumOfKey 32 = .ok (.iload 4, 2) := by decide +kernel
theorem dX0_sumOfKey_34 : decode cX0_sumOfKey 34 = .ok (.iadd, 1) := by decide +kernel
theorem dX0_sumOfKey_35 : decode cX0_sumOfKey 35 = .ok (.iaload, 1) := by decide +kernel
theorem dX0_sumOfKey_36 : decode cX0_sumOfKey 36 = .ok (.istore 5, 2) := by decide +kernel
theorem dX0_sumOfKey_38 : decode cX0_sumOfKey 38 = .ok (.iload 5, 2) := by decide +kernel
theorem dX0_sumOfKey_40 : decode cX0_sumOfKey 40 = .ok (.ifCond .le 20, 3) := by decide +kernel
theorem dX0_sumOfKey_43 : decode cX0_sumOfKey 43 = .ok (.iload 5, 2) := by decide +kernel
theorem dX0_sumOfKey_45 : decode cX0_sumOfKey 45 = .ok (.invokestatic 33, 3) := by decide +kernel
theorem dX0_sumOfKey_48 : decode cX0_sumOfKey 48 = .ok (.iload_n 1, 1) := by decide +kernel
theorem dX0_sumOfKey_49 : decode cX0_sumOfKey 49 = .ok (.if_icmp .ne 11, 3) := by decide +kernel
theorem dX0_sumOfKey_52 : decode cX0_sumOfKey 52 = .ok (.iload_n 2, 1) := by decide +kernel
theorem dX0_sumOfKey_53 : decode cX0_sumOfKey 53 = .ok (.iload 5, 2) := by decide +kernel
theorem dX0_sumOfKey_55 : decode cX0_sumOfKey 55 = .ok (.invokestatic 37, 3) := by decide +kernel
theorem dX0_sumOfKey_58 : decode cX0_sumOfKey 58 = .ok (.iadd, 1) := by decide +kernel
theorem dX0_sumOfKey_59 : decode cX0_sumOfKey 59 = .ok (.istore_n 2, 1) := by decide +kernel
theorem dX0_sumOfKey_60 : decode cX0_sumOfKey 60 = .ok (.iinc 4 1, 3) := by decide +kernel
theorem dX0_sumOfKey_63 : decode cX0_sumOfKey 63 = .ok (.goto (-50), 3) := by decide +kernel
theorem dX0_sumOfKey_66 : decode cX0_sumOfKey 66 = .ok (.iinc 3 1, 3) := by decide +kernel
theorem dX0_sumOfKey_69 : decode cX0_sumOfKey 69 = .ok (.goto (-65), 3) := by decide +kernel
theorem dX0_sumOfKey_72 : decode cX0_sumOfKey 72 = .ok (.iload_n 2, 1) := by decide +kernel
theorem dX0_sumOfKey_73 : decode cX0_sumOfKey 73 = .ok (.ireturn, 1) := by decide +kernel
theorem dX1_init_0 : decode cX1_init 0 = .ok (.aload_n 0, 1) := by decide +kernel
theorem dX1_init_1 : decode cX1_init 1 = .ok (.invokespecial 3, 3) := by decide +kernel
theorem dX1_init_4 : decode cX1_init 4 = .ok (.aload_n 0, 1) := by decide +kernel
theorem dX1_init_5 : decode cX1_init 5 = .ok (.iconst 4, 1) := by decide +kernel
theorem dX1_init_6 : decode cX1_init 6 = .ok (.newarray .int, 2) := by decide +kernel
theorem dX1_init_8 : decode cX1_init 8 = .ok (.putfield 9, 3) := by decide +kernel
theorem dX1_init_11 : decode cX1_init 11 = .ok (.aload_n 0, 1) := by decide +kernel
theorem dX1_init_12 : decode cX1_init 12 = .ok (.sipush 240, 3) := by decide +kernel
theorem dX1_init_15 : decode cX1_init 15 = .ok (.newarray .int, 2) := by decide +kernel
theorem dX1_init_17 : decode cX1_init 17 = .ok (.putfield 15, 3) := by decide +kernel
theorem dX1_init_20 : decode cX1_init 20 = .ok (.return_, 1) := by decide +kernel
theorem dX1_add_0 : decode cX1_add 0 = .ok (.aload_n 0, 1) := by decide +kernel
theorem dX1_add_1 : decode cX1_add 1 = .ok (.getfield 9, 3) := by decide +kernel
theorem dX1_add_4 : decode cX1_add 4 = .ok (.iload_n 1, 1) := by decide +kernel
theorem dX1_add_5 : decode cX1_add 5 = .ok (.iaload, 1) := by decide +kernel
theorem dX1_add_6 : decode cX1_add 6 = .ok (.istore_n 3, 1) := by decide +kernel
theorem dX1_add_7 : decode cX1_add 7 = .ok (.aload_n 0, 1) := by decide +kernel
theorem dX1_add_8 : decode cX1_add 8 = .ok (.getfield 15, 3) := by decide +kernel
theorem dX1_add_11 : decode cX1_add 11 = .ok (.iload_n 1, 1) := by decide +kernel
theorem dX1_add_12 : decode cX1_add 12 = .ok (.bipush 60, 2) := by decide +kernel
theorem dX1_add_14 : decode cX1_add 14 = .ok (.imul, 1) := by decide +kernel
theorem dX1_add_15 : decode cX1_add 15 = .ok (.iload_n 3, 1) := by decide +kernel
theorem dX1_add_16 : decode cX1_add 16 = .ok (.iadd, 1) := by decide +kernel
theorem dX1_add_17 : decode cX1_add 17 = .ok (.iload_n 2, 1) := by decide +kernel
theorem dX1_add_18 : decode cX1_add 18 = .ok (.iastore, 1) := by decide +kernel
theorem dX1_add_19 : decode cX1_add 19 = .ok (.aload_n 0, 1) := by decide +kernel
theorem dX1_add_20 : decode cX1_add 20 = .ok (.getfield 9, 3) := by decide +kernel
theorem dX1_add_23 : decode cX1_add 23 = .ok (.iload_n 1, 1) := by decide +kernel
theorem dX1_add_24 : decode cX1_add 24 = .ok (.iload_n 3, 1) := by decide +kernel
theorem dX1_add_25 : decode cX1_add 25 = .ok (.iconst 1, 1) := by decide +kernel
theorem dX1_add_26 : decode cX1_add 26 = .ok (.iadd, 1) := by decide +kernel
theorem dX1_add_27 : decode cX1_add 27 = .ok (.iastore, 1) := by decide +kernel
theorem dX1_add_28 : decode cX1_add 28 = .ok (.iload_n 3, 1) := by decide +kernel
theorem dX1_add_29 : decode cX1_add 29 = .ok (.ireturn, 1) := by decide +kernel
theorem dX1_get_0 : decode cX1_get 0 = .ok (.aload_n 0, 1) := by decide +kernel
theorem dX1_get_1 : decode cX1_get 1 = .ok (.getfield 15, 3) := by decide +kernel
theorem dX1_get_4 : decode cX1_get 4 = .ok (.iload_n 1, 1) := by decide +kernel
theorem dX1_get_5 : decode cX1_get 5 = .ok (.bipush 60, 2) := by decide +kernel
theorem dX1_get_7 : decode cX1_get 7 = .ok (.imul, 1) := by decide +kernel
theorem dX1_get_8 : decode cX1_get 8 = .ok (.iload_n 2, 1) := by decide +kernel
theorem dX1_get_9 : decode cX1_get 9 = .ok (.iadd, 1) := by decide +kernel
theorem dX1_get_10 : decode cX1_get 10 = .ok (.iaload, 1) := by decide +kernel
theorem dX1_get_11 : decode cX1_get 11 = .ok (.ireturn, 1) := by decide +kernel
set_option maxRecDepth 20000 in
theorem ggX1_sumAhead_X1_get : GoodIn wsX1_sumAhead wsX1_get := goodIn_r _ [5, 6, 12, 13] (by decide +kernel) (by decide +kernel)
set_option maxRecDepth 20000 in
theorem gX1_sumAhead_X1_get : GoodIn wsX1_sumAhead (wsV RX1 18 RX1 yX1_get wsX1_get) := goodIn_app (goodIn_of _ (by decide +kernel)) ggX1_sumAhead_X1_get
set_option maxRecDepth 20000 in
theorem ggX1_sumAhead_X4_keyOf : GoodIn wsX1_sumAhead wsX4_keyOf := goodIn_r _ [9] (by decide +kernel) (by decide +kernel)
set_option maxRecDepth 20000 in
theorem gX1_sumAhead_X4_keyOf_n22 : GoodIn wsX1_sumAhead (wsX4_keyOf) := ggX1_sumAhead_X4_keyOf
set_option maxRecDepth 20000 in
theorem ggX1_sumAhead_X4_valueOf : GoodIn wsX1_sumAhead wsX4_valueOf := goodIn_r _ [11] (by decide +kernel) (by decide +kernel)
set_option maxRecDepth 20000 in
theorem gX1_sumAhead_X4_valueOf_n26 : GoodIn wsX1_sumAhead (wsX4_valueOf) := ggX1_sumAhead_X4_valueOf
theorem dX1_sumAhead_0 : decode cX1_sumAhead 0 = .ok (.iconst 0, 1) := by decide +kernel
theorem dX1_sumAhead_1 : decode cX1_sumAhead 1 = .ok (.istore 4, 2) := by decide +kernel
theorem dX1_sumAhead_3 : decode cX1_sumAhead 3 = .ok (.iconst 0, 1) := by decide +kernel
theorem dX1_sumAhead_4 : decode cX1_sumAhead 4 = .ok (.istore 5, 2) := by decide +kernel
theorem dX1_sumAhead_6 : decode cX1_sumAhead 6 = .ok (.iload 5, 2) := by decide +kernel
theorem dX1_sumAhead_8 : decode cX1_sumAhead 8 = .ok (.iload_n 2, 1) := by decide +kernel
theorem dX1_sumAhead_9 : decode cX1_sumAhead 9 = .ok (.if_icmp .ge 37, 3) := by decide +kernel
theorem dX1_sumAhead_12 : decode cX1_sumAhead 12 = .ok (.aload_n 0, 1) := by decide +kernel
theorem dX1_sumAhead_13 : decode cX1_sumAhead 13 = .ok (.iload_n 1, 1) := by decide +kernel
theorem dX1_sumAhead_14 : decode cX1_sumAhead 14 = .ok (.iload 5, 2) := by decide +kernel
theorem dX1_sumAhead_16 : decode cX1_sumAhead 16 = .ok (.invokevirtual 18, 3) := by decide +kernel
theorem dX1_sumAhead_19 : decode cX1_sumAhead 19 = .ok (.istore 6, 2) := by decide +kernel
theorem dX1_sumAhead_21 : decode cX1_sumAhead 21 = .ok (.iload 6, 2) := by decide +kernel
theorem dX1_sumAhead_23 : decode cX1_sumAhead 23 = .ok (.invokestatic 22, 3) := by decide +kernel
theorem dX1_sumAhead_26 : decode cX1_sumAhead 26 = .ok (.iload_n 3, 1) := by decide +kernel
theorem dX1_sumAhead_27 : decode cX1_sumAhead 27 = .ok (.if_icmp .ne 13, 3) := by decide +kernel
theorem dX1_sumAhead_30 : decode cX1_sumAhead 30 = .ok (.iload 4, 2) := by decide +kernel
theorem dX1_sumAhead_32 : decode cX1_sumAhead 32 = .ok (.iload 6, 2) := by decide +kernel
theorem dX1_sumAhead_34 : decode cX1_sumAhead 34 = .ok (.invokestatic 26, 3) := by decide +kernel
theorem dX1_sumAhead_37 : decode cX1_sumAhead 37 = .ok (.iadd, 1) := by decide +kernel
theorem dX1_sumAhead_38 : decode cX1_sumAhead 38 = .ok (.istore 4, 2) := by decide +kernel
theorem dX1_sumAhead_40 : decode cX1_sumAhead 40 = .ok (.iinc 5 1, 3) := by decide +kernel
theorem dX1_sumAhead_43 : decode cX1_sumAhead 43 = .ok (.goto (-37), 3) := by decide +kernel
theorem dX1_sumAhead_46 : decode cX1_sumAhead 46 = .ok (.iload 4, 2) := by decide +kernel
theorem dX1_sumAhead_48 : decode cX1_sumAhead 48 = .ok (.ireturn, 1) := by decide +kernel
theorem dX2_init_0 : decode cX2_init 0 = .ok (.aload_n 0, 1) := by decide +kernel
theorem dX2_init_1 : decode cX2_init 1 = .ok (.invokespecial 3, 3) := by decide +kernel
theorem dX2_init_4 : decode cX2_init 4 = .ok (.aload_n 0, 1) := by decide +kernel
theorem dX2_init_5 : decode cX2_init 5 = .ok (.iconst 4, 1) := by decide +kernel
theorem dX2_init_6 : decode cX2_init 6 = .ok (.newarray .int, 2) := by decide +kernel
theorem dX2_init_8 : decode cX2_init 8 = .ok (.putfield 9, 3) := by decide +kernel
theorem dX2_init_11 : decode cX2_init 11 = .ok (.aload_n 0, 1) := by decide +kernel
theorem dX2_init_12 : decode cX2_init 12 = .ok (.iconst 4, 1) := by decide +kernel
theorem dX2_init_13 : decode cX2_init 13 = .ok (.newarray .int, 2) := by decide +kernel
theorem dX2_init_15 : decode cX2_init 15 = .ok (.putfield 15, 3) := by decide +kernel
theorem dX2_init_18 : decode cX2_init 18 = .ok (.aload_n 0, 1) := by decide +kernel
theorem dX2_init_19 : decode cX2_init 19 = .ok (.iconst 4, 1) := by decide +kernel
theorem dX2_init_20 : decode cX2_init 20 = .ok (.newarray .boolean, 2) := by decide +kernel
theorem dX2_init_22 : decode cX2_init 22 = .ok (.putfield 18, 3) := by decide +kernel
theorem dX2_init_25 : decode cX2_init 25 = .ok (.aload_n 0, 1) := by decide +kernel
theorem dX2_init_26 : decode cX2_init 26 = .ok (.iconst 4, 1) := by decide +kernel
theorem dX2_init_27 : decode cX2_init 27 = .ok (.newarray .int, 2) := by decide +kernel
theorem dX2_init_29 : decode cX2_init 29 = .ok (.putfield 22, 3) := by decide +kernel
theorem dX2_init_32 : decode cX2_init 32 = .ok (.return_, 1) := by decide +kernel
theorem dX2_keepForBarrier_0 : decode cX2_keepForBarrier 0 = .ok (.aload_n 0, 1) := by decide +kernel
theorem dX2_keepForBarrier_1 : decode cX2_keepForBarrier 1 = .ok (.getfield 18, 3) := by decide +kernel
theorem dX2_keepForBarrier_4 : decode cX2_keepForBarrier 4 = .ok (.iload_n 1, 1) := by decide +kernel
theorem dX2_keepForBarrier_5 : decode cX2_keepForBarrier 5 = .ok (.iconst 1, 1) := by decide +kernel
theorem dX2_keepForBarrier_6 : decode cX2_keepForBarrier 6 = .ok (.bastore, 1) := by decide +kernel
theorem dX2_keepForBarrier_7 : decode cX2_keepForBarrier 7 = .ok (.aload_n 0, 1) := by decide +kernel
theorem dX2_keepForBarrier_8 : decode cX2_keepForBarrier 8 = .ok (.getfield 22, 3) := by decide +kernel
theorem dX2_keepForBarrier_11 : decode cX2_keepForBarrier 11 = .ok (.iload_n 1, 1) := by decide +kernel
theorem dX2_keepForBarrier_12 : decode cX2_keepForBarrier 12 = .ok (.aload_n 0, 1) := by decide +kernel
theorem dX2_keepForBarrier_13 : decode cX2_keepForBarrier 13 = .ok (.getfield 9, 3) := by decide +kernel
theorem dX2_keepForBarrier_16 : decode cX2_keepForBarrier 16 = .ok (.iload_n 1, 1) := by decide +kernel
theorem dX2_keepForBarrier_17 : decode cX2_keepForBarrier 17 = .ok (.iaload, 1) := by decide +kernel
theorem dX2_keepForBarrier_18 : decode cX2_keepForBarrier 18 = .ok (.iastore, 1) := by decide +kernel
theorem dX2_keepForBarrier_19 : decode cX2_keepForBarrier 19 = .ok (.aload_n 0, 1) := by decide +kernel
theorem dX2_keepForBarrier_20 : decode cX2_keepForBarrier 20 = .ok (.getfield 22, 3) := by decide +kernel
theorem dX2_keepForBarrier_23 : decode cX2_keepForBarrier 23 = .ok (.iload_n 1, 1) := by decide +kernel
theorem dX2_keepForBarrier_24 : decode cX2_keepForBarrier 24 = .ok (.iaload, 1) := by decide +kernel
theorem dX2_keepForBarrier_25 : decode cX2_keepForBarrier 25 = .ok (.ireturn, 1) := by decide +kernel
theorem dX2_forgetBarriers_0 : decode cX2_forgetBarriers 0 = .ok (.iconst 0, 1) := by decide +kernel
theorem dX2_forgetBarriers_1 : decode cX2_forgetBarriers 1 = .ok (.istore_n 1, 1) := by decide +kernel
theorem dX2_forgetBarriers_2 : decode cX2_forgetBarriers 2 = .ok (.iload_n 1, 1) := by decide +kernel
theorem dX2_forgetBarriers_3 : decode cX2_forgetBarriers 3 = .ok (.iconst 4, 1) := by decide +kernel
theorem dX2_forgetBarriers_4 : decode cX2_forgetBarriers 4 = .ok (.if_icmp .ge 16, 3) := by decide +kernel
theorem dX2_forgetBarriers_7 : decode cX2_forgetBarriers 7 = .ok (.aload_n 0, 1) := by decide +kernel
theorem dX2_forgetBarriers_8 : decode cX2_forgetBarriers 8 = .ok (.getfield 18, 3) := by decide +kernel
theorem dX2_forgetBarriers_11 : decode cX2_forgetBarriers 11 = .ok (.iload_n 1, 1) := by decide +kernel
theorem dX2_forgetBarriers_12 : decode cX2_forgetBarriers 12 = .ok (.iconst 0, 1) := by decide +kernel
theorem dX2_forgetBarriers_13 : decode cX2_forgetBarriers 13 = .ok (.bastore, 1) := by decide +kernel
theorem dX2_forgetBarriers_14 : decode cX2_forgetBarriers 14 = .ok (.iinc 1 1, 3) := by decide +kernel
theorem dX2_forgetBarriers_17 : decode cX2_forgetBarriers 17 = .ok (.goto (-15), 3) := by decide +kernel
theorem dX2_forgetBarriers_20 : decode cX2_forgetBarriers 20 = .ok (.return_, 1) := by decide +kernel
theorem dX2_keepAll_0 : decode cX2_keepAll 0 = .ok (.iconst 0, 1) := by decide +kernel
theorem dX2_keepAll_1 : decode cX2_keepAll 1 = .ok (.istore_n 1, 1) := by decide +kernel
theorem dX2_keepAll_2 : decode cX2_keepAll 2 = .ok (.iload_n 1, 1) := by decide +kernel
theorem dX2_keepAll_3 : decode cX2_keepAll 3 = .ok (.iconst 4, 1) := by decide +kernel
theorem dX2_keepAll_4 : decode cX2_keepAll 4 = .ok (.if_icmp .ge 21, 3) := by decide +kernel
theorem dX2_keepAll_7 : decode cX2_keepAll 7 = .ok (.aload_n 0, 1) := by decide +kernel
theorem dX2_keepAll_8 : decode cX2_keepAll 8 = .ok (.getfield 15, 3) := by decide +kernel
theorem dX2_keepAll_11 : decode cX2_keepAll 11 = .ok (.iload_n 1, 1) := by decide +kernel
theorem dX2_keepAll_12 : decode cX2_keepAll 12 = .ok (.aload_n 0, 1) := by decide +kernel
theorem dX2_keepAll_13 : decode cX2_keepAll 13 = .ok (.getfield 22, 3) := by decide +kernel
theorem dX2_keepAll_16 : decode cX2_keepAll 16 = .ok (.iload_n 1, 1) := by decide +kernel
theorem dX2_keepAll_17 : decode cX2_keepAll 17 = .ok (.iaload, 1) := by decide +kernel
theorem dX2_keepAll_18 : decode cX2_keepAll 18 = .ok (.iastore, 1) := by decide +kernel
theorem dX2_keepAll_19 : decode cX2_keepAll 19 = .ok (.iinc 1 1, 3) := by decide +kernel
theorem dX2_keepAll_22 : decode cX2_keepAll 22 = .ok (.goto (-20), 3) := by decide +kernel
theorem dX2_keepAll_25 : decode cX2_keepAll 25 = .ok (.return_, 1) := by decide +kernel
theorem dX2_returnToKept_0 : decode cX2_returnToKept 0 = .ok (.iconst 0, 1) := by decide +kernel
theorem dX2_returnToKept_1 : decode cX2_returnToKept 1 = .ok (.istore_n 1, 1) := by decide +kernel
theorem dX2_returnToKept_2 : decode cX2_returnToKept 2 = .ok (.iload_n 1, 1) := by decide +kernel
theorem dX2_returnToKept_3 : decode cX2_returnToKept 3 = .ok (.iconst 4, 1) := by decide +kernel
theorem dX2_returnToKept_4 : decode cX2_returnToKept 4 = .ok (.if_icmp .ge 21, 3) := by decide +kernel
theorem dX2_returnToKept_7 : decode cX2_returnToKept 7 = .ok (.aload_n 0, 1) := by decide +kernel
theorem dX2_returnToKept_8 : decode cX2_returnToKept 8 = .ok (.getfield 9, 3) := by decide +kernel
theorem dX2_returnToKept_11 : decode cX2_returnToKept 11 = .ok (.iload_n 1, 1) := by decide +kernel
theorem dX2_returnToKept_12 : decode cX2_returnToKept 12 = .ok (.aload_n 0, 1) := by decide +kernel
theorem dX2_returnToKept_13 : decode cX2_returnToKept 13 = .ok (.getfield 15, 3) := by decide +kernel
theorem dX2_returnToKept_16 : decode cX2_returnToKept 16 = .ok (.iload_n 1, 1) := by decide +kernel
theorem dX2_returnToKept_17 : decode cX2_returnToKept 17 = .ok (.iaload, 1) := by decide +kernel
theorem dX2_returnToKept_18 : decode cX2_returnToKept 18 = .ok (.iastore, 1) := by decide +kernel
theorem dX2_returnToKept_19 : decode cX2_returnToKept 19 = .ok (.iinc 1 1, 3) := by decide +kernel
theorem dX2_returnToKept_22 : decode cX2_returnToKept 22 = .ok (.goto (-20), 3) := by decide +kernel
theorem dX2_returnToKept_25 : decode cX2_returnToKept 25 = .ok (.return_, 1) := by decide +kernel
theorem dX3_init_0 : decode cX3_init 0 = .ok (.aload_n 0, 1) := by decide +kernel
theorem dX3_init_1 : decode cX3_init 1 = .ok (.invokespecial 3, 3) := by decide +kernel
theorem dX3_init_4 : decode cX3_init 4 = .ok (.aload_n 0, 1) := by decide +kernel
theorem dX3_init_5 : decode cX3_init 5 = .ok (.bipush 32, 2) := by decide +kernel
theorem dX3_init_7 : decode cX3_init 7 = .ok (.newarray .int, 2) := by decide +kernel
theorem dX3_init_9 : decode cX3_init 9 = .ok (.putfield 9, 3) := by decide +kernel
theorem dX3_init_12 : decode cX3_init 12 = .ok (.aload_n 0, 1) := by decide +kernel
theorem dX3_init_13 : decode cX3_init 13 = .ok (.bipush 32, 2) := by decide +kernel
theorem dX3_init_15 : decode cX3_init 15 = .ok (.newarray .int, 2) := by decide +kernel
theorem dX3_init_17 : decode cX3_init 17 = .ok (.putfield 15, 3) := by decide +kernel
theorem dX3_init_20 : decode cX3_init 20 = .ok (.return_, 1) := by decide +kernel
theorem dX3_add_0 : decode cX3_add 0 = .ok (.aload_n 0, 1) := by decide +kernel
theorem dX3_add_1 : decode cX3_add 1 = .ok (.getfield 9, 3) := by decide +kernel
theorem dX3_add_4 : decode cX3_add 4 = .ok (.iload_n 1, 1) := by decide +kernel
theorem dX3_add_5 : decode cX3_add 5 = .ok (.dup2, 1) := by decide +kernel
theorem dX3_add_6 : decode cX3_add 6 = .ok (.iaload, 1) := by decide +kernel
theorem dX3_add_7 : decode cX3_add 7 = .ok (.iload_n 2, 1) := by decide +kernel
theorem dX3_add_8 : decode cX3_add 8 = .ok (.iadd, 1) := by decide +kernel
theorem dX3_add_9 : decode cX3_add 9 = .ok (.iastore, 1) := by decide +kernel
theorem dX3_add_10 : decode cX3_add 10 = .ok (.aload_n 0, 1) := by decide +kernel
theorem dX3_add_11 : decode cX3_add 11 = .ok (.getfield 15, 3) := by decide +kernel
theorem dX3_add_14 : decode cX3_add 14 = .ok (.iload_n 1, 1) := by decide +kernel
theorem dX3_add_15 : decode cX3_add 15 = .ok (.dup2, 1) := by decide +kernel
theorem dX3_add_16 : decode cX3_add 16 = .ok (.iaload, 1) := by decide +kernel
theorem dX3_add_17 : decode cX3_add 17 = .ok (.iload_n 3, 1) := by decide +kernel
theorem dX3_add_18 : decode cX3_add 18 = .ok (.iadd, 1) := by decide +kernel
theorem dX3_add_19 : decode cX3_add 19 = .ok (.iastore, 1) := by decide +kernel
theorem dX3_add_20 : decode cX3_add 20 = .ok (.return_, 1) := by decide +kernel
theorem dX3_copyKey_0 : decode cX3_copyKey 0 = .ok (.aload_n 0, 1) := by decide +kernel
theorem dX3_copyKey_1 : decode cX3_copyKey 1 = .ok (.getfield 9, 3) := by decide +kernel
theorem dX3_copyKey_4 : decode cX3_copyKey 4 = .ok (.iload_n 2, 1) := by decide +kernel
theorem dX3_copyKey_5 : decode cX3_copyKey 5 = .ok (.aload_n 1, 1) := by decide +kernel
theorem dX3_copyKey_6 : decode cX3_copyKey 6 = .ok (.getfield 9, 3) := by decide +kernel
theorem dX3_copyKey_9 : decode cX3_copyKey 9 = .ok (.iload_n 2, 1) := by decide +kernel
theorem dX3_copyKey_10 : decode cX3_copyKey 10 = .ok (.iaload, 1) := by decide +kernel
theorem dX3_copyKey_11 : decode cX3_copyKey 11 = .ok (.iastore, 1) := by decide +kernel
theorem dX3_copyKey_12 : decode cX3_copyKey 12 = .ok (.aload_n 0, 1) := by decide +kernel
theorem dX3_copyKey_13 : decode cX3_copyKey 13 = .ok (.getfield 15, 3) := by decide +kernel
theorem dX3_copyKey_16 : decode cX3_copyKey 16 = .ok (.iload_n 2, 1) := by decide +kernel
theorem dX3_copyKey_17 : decode cX3_copyKey 17 = .ok (.aload_n 1, 1) := by decide +kernel
theorem dX3_copyKey_18 : decode cX3_copyKey 18 = .ok (.getfield 15, 3) := by decide +kernel
theorem dX3_copyKey_21 : decode cX3_copyKey 21 = .ok (.iload_n 2, 1) := by decide +kernel
theorem dX3_copyKey_22 : decode cX3_copyKey 22 = .ok (.iaload, 1) := by decide +kernel
theorem dX3_copyKey_23 : decode cX3_copyKey 23 = .ok (.iastore, 1) := by decide +kernel
theorem dX3_copyKey_24 : decode cX3_copyKey 24 = .ok (.return_, 1) := by decide +kernel
theorem dX3_copyAll_0 : decode cX3_copyAll 0 = .ok (.iconst 0, 1) := by decide +kernel
theorem dX3_copyAll_1 : decode cX3_copyAll 1 = .ok (.istore_n 2, 1) := by decide +kernel
theorem dX3_copyAll_2 : decode cX3_copyAll 2 = .ok (.iload_n 2, 1) := by decide +kernel
theorem dX3_copyAll_3 : decode cX3_copyAll 3 = .ok (.bipush 32, 2) := by decide +kernel
theorem dX3_copyAll_5 : decode cX3_copyAll 5 = .ok (.if_icmp .ge 33, 3) := by decide +kernel
theorem dX3_copyAll_8 : decode cX3_copyAll 8 = .ok (.aload_n 0, 1) := by decide +kernel
theorem dX3_copyAll_9 : decode cX3_copyAll 9 = .ok (.getfield 9, 3) := by decide +kernel
theorem dX3_copyAll_12 : decode cX3_copyAll 12 = .ok (.iload_n 2, 1) := by decide +kernel
theorem dX3_copyAll_13 : decode cX3_copyAll 13 = .ok (.aload_n 1, 1) := by decide +kernel
theorem dX3_copyAll_14 : decode cX3_copyAll 14 = .ok (.getfield 9, 3) := by decide +kernel
theorem dX3_copyAll_17 : decode cX3_copyAll 17 = .ok (.iload_n 2, 1) := by decide +kernel
theorem dX3_copyAll_18 : decode cX3_copyAll 18 = .ok (.iaload, 1) := by decide +kernel
theorem dX3_copyAll_19 : decode cX3_copyAll 19 = .ok (.iastore, 1) := by decide +kernel
theorem dX3_copyAll_20 : decode cX3_copyAll 20 = .ok (.aload_n 0, 1) := by decide +kernel
theorem dX3_copyAll_21 : decode cX3_copyAll 21 = .ok (.getfield 15, 3) := by decide +kernel
theorem dX3_copyAll_24 : decode cX3_copyAll 24 = .ok (.iload_n 2, 1) := by decide +kernel
theorem dX3_copyAll_25 : decode cX3_copyAll 25 = .ok (.aload_n 1, 1) := by decide +kernel
theorem dX3_copyAll_26 : decode cX3_copyAll 26 = .ok (.getfield 15, 3) := by decide +kernel
theorem dX3_copyAll_29 : decode cX3_copyAll 29 = .ok (.iload_n 2, 1) := by decide +kernel
theorem dX3_copyAll_30 : decode cX3_copyAll 30 = .ok (.iaload, 1) := by decide +kernel
theorem dX3_copyAll_31 : decode cX3_copyAll 31 = .ok (.iastore, 1) := by decide +kernel
theorem dX3_copyAll_32 : decode cX3_copyAll 32 = .ok (.iinc 2 1, 3) := by decide +kernel
theorem dX3_copyAll_35 : decode cX3_copyAll 35 = .ok (.goto (-33), 3) := by decide +kernel
theorem dX3_copyAll_38 : decode cX3_copyAll 38 = .ok (.return_, 1) := by decide +kernel
theorem dX3_clearKey_0 : decode cX3_clearKey 0 = .ok (.aload_n 0, 1) := by decide +kernel
theorem dX3_clearKey_1 : decode cX3_clearKey 1 = .ok (.getfield 9, 3) := by decide +kernel
theorem dX3_clearKey_4 : decode cX3_clearKey 4 = .ok (.iload_n 1, 1) := by decide +kernel
theorem dX3_clearKey_5 : decode cX3_clearKey 5 = .ok (.iconst 0, 1) := by decide +kernel
theorem dX3_clearKey_6 : decode cX3_clearKey 6 = .ok (.iastore, 1) := by decide +kernel
theorem dX3_clearKey_7 : decode cX3_clearKey 7 = .ok (.aload_n 0, 1) := by decide +kernel
theorem dX3_clearKey_8 : decode cX3_clearKey 8 = .ok (.getfield 15, 3) := by decide +kernel
theorem dX3_clearKey_11 : decode cX3_clearKey 11 = .ok (.iload_n 1, 1) := by decide +kernel
theorem dX3_clearKey_12 : decode cX3_clearKey 12 = .ok (.iconst 0, 1) := by decide +kernel
theorem dX3_clearKey_13 : decode cX3_clearKey 13 = .ok (.iastore, 1) := by decide +kernel
theorem dX3_clearKey_14 : decode cX3_clearKey 14 = .ok (.return_, 1) := by decide +kernel
set_option maxRecDepth 20000 in
theorem ggX3_clearAll_X3_clearKey : GoodIn wsX3_clearAll wsX3_clearKey := goodIn_r _ [5, 6, 7, 8, 9] (by decide +kernel) (by decide +kernel)
set_option maxRecDepth 20000 in
theorem gX3_clearAll_X3_clearKey : GoodIn wsX3_clearAll (wsV RX3 18 RX3 yX3_clearKey wsX3_clearKey) := goodIn_app (goodIn_of _ (by decide +kernel)) ggX3_clearAll_X3_clearKey
theorem dX3_clearAll_0 : decode cX3_clearAll 0 = .ok (.iconst 0, 1) := by decide +kernel
theorem dX3_clearAll_1 : decode cX3_clearAll 1 = .ok (.istore_n 1, 1) := by decide +kernel
theorem dX3_clearAll_2 : decode cX3_clearAll 2 = .ok (.iload_n 1, 1) := by decide +kernel
theorem dX3_clearAll_3 : decode cX3_clearAll 3 = .ok (.bipush 32, 2) := by decide +kernel
theorem dX3_clearAll_5 : decode cX3_clearAll 5 = .ok (.if_icmp .ge 14, 3) := by decide +kernel
theorem dX3_clearAll_8 : decode cX3_clearAll 8 = .ok (.aload_n 0, 1) := by decide +kernel
theorem dX3_clearAll_9 : decode cX3_clearAll 9 = .ok (.iload_n 1, 1) := by decide +kernel
theorem dX3_clearAll_10 : decode cX3_clearAll 10 = .ok (.invokevirtual 18, 3) := by decide +kernel
theorem dX3_clearAll_13 : decode cX3_clearAll 13 = .ok (.iinc 1 1, 3) := by decide +kernel
theorem dX3_clearAll_16 : decode cX3_clearAll 16 = .ok (.goto (-14), 3) := by decide +kernel
theorem dX3_clearAll_19 : decode cX3_clearAll 19 = .ok (.return_, 1) := by decide +kernel
end
section
set_option maxRecDepth 20000 in
theorem ggX4_init_X1_init : GoodIn wsX4_init wsX1_init := goodIn_r _ [32, 33, 2, 3, 25, 34, 35, 55, 56] (by decide +kernel) (by decide +kernel)
set_option maxRecDepth 20000 in
theorem gX4_init_X1_init_n9 : GoodIn wsX4_init (wsX1_init) := ggX4_init_X1_init
set_option maxRecDepth 20000 in
theorem ggX4_init_X2_init : GoodIn wsX4_init wsX2_init := goodIn_r _ [37, 38, 2, 3, 25, 39, 40, 41, 42, 43, 71, 72, 73, 74] (by decide +kernel) (by decide +kernel)
set_option maxRecDepth 20000 in
theorem gX4_init_X2_init_n18 : GoodIn wsX4_init (wsX2_init) := ggX4_init_X2_init
set_option maxRecDepth 20000 in
theorem ggX4_init_X0_init : GoodIn wsX4_init wsX0_init := goodIn_r _ [45, 46, 2, 3, 25, 47, 48, 41, 49, 75, 76, 77] (by decide +kernel) (by decide +kernel)
set_option maxRecDepth 20000 in
theorem gX4_init_X0_init_n25 : GoodIn wsX4_init (wsX0_init) := ggX4_init_X0_init
set_option maxRecDepth 20000 in
theorem ggX4_init_X3_init : GoodIn wsX4_init wsX3_init := goodIn_r _ [51, 52, 2, 3, 25, 53, 54, 78, 79] (by decide +kernel) (by decide +kernel)
set_option maxRecDepth 20000 in
theorem gX4_init_X3_init_n32 : GoodIn wsX4_init (wsX3_init) := ggX4_init_X3_init
theorem dX4_init_0 : decode cX4_init 0 = .ok (.aload_n 0, 1) := by decide +kernel
theorem dX4_init_1 : decode cX4_init 1 = .ok (.invokespecial 1, 3) := by decide +kernel
theorem dX4_init_4 : decode cX4_init 4 = .ok (.aload_n 0, 1) := by decide +kernel
theorem dX4_init_5 : decode cX4_init 5 = .ok (.new 7, 3) := by decide +kernel
theorem dX4_init_8 : decode cX4_init 8 = .ok (.dup, 1) := by decide +kernel
theorem dX4_init_9 : decode cX4_init 9 = .ok (.invokespecial 9, 3) := by decide +kernel
theorem dX4_init_12 : decode cX4_init 12 = .ok (.putfield 10, 3) := by decide +kernel
theorem dX4_init_15 : decode cX4_init 15 = .ok (.aload_n 0, 1) := by decide +kernel
theorem dX4_init_16 : decode cX4_init 16 = .ok (.new 16, 3) := by decide +kernel
theorem dX4_init_19 : decode cX4_init 19 = .ok (.dup, 1) := by decide +kernel
theorem dX4_init_20 : decode cX4_init 20 = .ok (.invokespecial 18, 3) := by decide +kernel
theorem dX4_init_23 : decode cX4_init 23 = .ok (.putfield 19, 3) := by decide +kernel
theorem dX4_init_26 : decode cX4_init 26 = .ok (.aload_n 0, 1) := by decide +kernel
theorem dX4_init_27 : decode cX4_init 27 = .ok (.new 23, 3) := by decide +kernel
theorem dX4_init_30 : decode cX4_init 30 = .ok (.dup, 1) := by decide +kernel
theorem dX4_init_31 : decode cX4_init 31 = .ok (.invokespecial 25, 3) := by decide +kernel
theorem dX4_init_34 : decode cX4_init 34 = .ok (.putfield 26, 3) := by decide +kernel
theorem dX4_init_37 : decode cX4_init 37 = .ok (.aload_n 0, 1) := by decide +kernel
theorem dX4_init_38 : decode cX4_init 38 = .ok (.new 30, 3) := by decide +kernel
theorem dX4_init_41 : decode cX4_init 41 = .ok (.dup, 1) := by decide +kernel
theorem dX4_init_42 : decode cX4_init 42 = .ok (.invokespecial 32, 3) := by decide +kernel
theorem dX4_init_45 : decode cX4_init 45 = .ok (.putfield 33, 3) := by decide +kernel
theorem dX4_init_48 : decode cX4_init 48 = .ok (.aload_n 0, 1) := by decide +kernel
theorem dX4_init_49 : decode cX4_init 49 = .ok (.new 30, 3) := by decide +kernel
theorem dX4_init_52 : decode cX4_init 52 = .ok (.dup, 1) := by decide +kernel
theorem dX4_init_53 : decode cX4_init 53 = .ok (.invokespecial 32, 3) := by decide +kernel
theorem dX4_init_56 : decode cX4_init 56 = .ok (.putfield 37, 3) := by decide +kernel
theorem dX4_init_59 : decode cX4_init 59 = .ok (.aload_n 0, 1) := by decide +kernel
theorem dX4_init_60 : decode cX4_init 60 = .ok (.new 30, 3) := by decide +kernel
theorem dX4_init_63 : decode cX4_init 63 = .ok (.dup, 1) := by decide +kernel
theorem dX4_init_64 : decode cX4_init 64 = .ok (.invokespecial 32, 3) := by decide +kernel
theorem dX4_init_67 : decode cX4_init 67 = .ok (.putfield 40, 3) := by decide +kernel
theorem dX4_init_70 : decode cX4_init 70 = .ok (.aload_n 0, 1) := by decide +kernel
theorem dX4_init_71 : decode cX4_init 71 = .ok (.new 30, 3) := by decide +kernel
theorem dX4_init_74 : decode cX4_init 74 = .ok (.dup, 1) := by decide +kernel
theorem dX4_init_75 : decode cX4_init 75 = .ok (.invokespecial 32, 3) := by decide +kernel
theorem dX4_init_78 : decode cX4_init 78 = .ok (.putfield 43, 3) := by decide +kernel
theorem dX4_init_81 : decode cX4_init 81 = .ok (.aload_n 0, 1) := by decide +kernel
theorem dX4_init_82 : decode cX4_init 82 = .ok (.new 30, 3) := by decide +kernel
theorem dX4_init_85 : decode cX4_init 85 = .ok (.dup, 1) := by decide +kernel
theorem dX4_init_86 : decode cX4_init 86 = .ok (.invokespecial 32, 3) := by decide +kernel
theorem dX4_init_89 : decode cX4_init 89 = .ok (.putfield 46, 3) := by decide +kernel
theorem dX4_init_92 : decode cX4_init 92 = .ok (.aload_n 0, 1) := by decide +kernel
theorem dX4_init_93 : decode cX4_init 93 = .ok (.new 30, 3) := by decide +kernel
theorem dX4_init_96 : decode cX4_init 96 = .ok (.dup, 1) := by decide +kernel
theorem dX4_init_97 : decode cX4_init 97 = .ok (.invokespecial 32, 3) := by decide +kernel
theorem dX4_init_100 : decode cX4_init 100 = .ok (.putfield 49, 3) := by decide +kernel
theorem dX4_init_103 : decode cX4_init 103 = .ok (.aload_n 0, 1) := by decide +kernel
theorem dX4_init_104 : decode cX4_init 104 = .ok (.iconst 4, 1) := by decide +kernel
theorem dX4_init_105 : decode cX4_init 105 = .ok (.newarray .int, 2) := by decide +kernel
theorem dX4_init_107 : decode cX4_init 107 = .ok (.putfield 52, 3) := by decide +kernel
theorem dX4_init_110 : decode cX4_init 110 = .ok (.aload_n 0, 1) := by decide +kernel
theorem dX4_init_111 : decode cX4_init 111 = .ok (.iconst 2, 1) := by decide +kernel
theorem dX4_init_112 : decode cX4_init 112 = .ok (.putfield 56, 3) := by decide +kernel
theorem dX4_init_115 : decode cX4_init 115 = .ok (.aload_n 0, 1) := by decide +kernel
theorem dX4_init_116 : decode cX4_init 116 = .ok (.iconst 0, 1) := by decide +kernel
theorem dX4_init_117 : decode cX4_init 117 = .ok (.putfield 60, 3) := by decide +kernel
theorem dX4_init_120 : decode cX4_init 120 = .ok (.aload_n 0, 1) := by decide +kernel
theorem dX4_init_121 : decode cX4_init 121 = .ok (.iconst (-1), 1) := by decide +kernel
theorem dX4_init_122 : decode cX4_init 122 = .ok (.putfield 63, 3) := by decide +kernel
theorem dX4_init_125 : decode cX4_init 125 = .ok (.aload_n 0, 1) := by decide +kernel
theorem dX4_init_126 : decode cX4_init 126 = .ok (.iconst (-1), 1) := by decide +kernel
theorem dX4_init_127 : decode cX4_init 127 = .ok (.putfield 66, 3) := by decide +kernel
theorem dX4_init_130 : decode cX4_init 130 = .ok (.iconst 0, 1) := by decide +kernel
theorem dX4_init_131 : decode cX4_init 131 = .ok (.istore_n 1, 1) := by decide +kernel
theorem dX4_init_132 : decode cX4_init 132 = .ok (.iload_n 1, 1) := by decide +kernel
theorem dX4_init_133 : decode cX4_init 133 = .ok (.iconst 4, 1) := by decide +kernel
theorem dX4_init_134 : decode cX4_init 134 = .ok (.if_icmp .ge 16, 3) := by decide +kernel
theorem dX4_init_137 : decode cX4_init 137 = .ok (.aload_n 0, 1) := by decide +kernel
theorem dX4_init_138 : decode cX4_init 138 = .ok (.getfield 52, 3) := by decide +kernel
theorem dX4_init_141 : decode cX4_init 141 = .ok (.iload_n 1, 1) := by decide +kernel
theorem dX4_init_142 : decode cX4_init 142 = .ok (.iconst (-1), 1) := by decide +kernel
theorem dX4_init_143 : decode cX4_init 143 = .ok (.iastore, 1) := by decide +kernel
theorem dX4_init_144 : decode cX4_init 144 = .ok (.iinc 1 1, 3) := by decide +kernel
theorem dX4_init_147 : decode cX4_init 147 = .ok (.goto (-15), 3) := by decide +kernel
theorem dX4_init_150 : decode cX4_init 150 = .ok (.return_, 1) := by decide +kernel
set_option maxRecDepth 20000 in
theorem ggX4_append_X4_requirePartition : GoodIn wsX4_append wsX4_requirePartition := goodIn_ca (goodIn_r _ [10, 11, 12] (by decide +kernel) (by decide +kernel)) (goodIn_sub (fun _ h => List.mem_cons_of_mem _ (List.mem_append_right _ h)) (by decide +kernel))
set_option maxRecDepth 20000 in
theorem gX4_append_X4_requirePartition : GoodIn wsX4_append (va_wsS RX4 69 yX4_requirePartition wsX4_requirePartition) := goodIn_app (goodIn_of _ (by decide +kernel)) ggX4_append_X4_requirePartition
set_option maxRecDepth 20000 in
theorem ggX4_append_X4_requireKey : GoodIn wsX4_append wsX4_requireKey := goodIn_ca (goodIn_r _ [15, 11, 12] (by decide +kernel) (by decide +kernel)) (goodIn_sub (fun _ h => List.mem_cons_of_mem _ (List.mem_append_right _ h)) (by decide +kernel))
set_option maxRecDepth 20000 in
theorem gX4_append_X4_requireKey : GoodIn wsX4_append (va_wsS RX4 73 yX4_requireKey wsX4_requireKey) := goodIn_app (goodIn_of _ (by decide +kernel)) ggX4_append_X4_requireKey
set_option maxRecDepth 20000 in
theorem ggX4_append_X1_add : GoodIn wsX4_append wsX1_add := goodIn_r _ [20, 21, 22, 37, 38] (by decide +kernel) (by decide +kernel)
set_option maxRecDepth 20000 in
theorem gX4_append_X1_add : GoodIn wsX4_append (wsV RX4 91 RX1 yX1_add wsX1_add) := goodIn_app (goodIn_of _ (by decide +kernel)) ggX4_append_X1_add
theorem dX4_append_0 : decode cX4_append 0 = .ok (.iload_n 1, 1) := by decide +kernel
theorem dX4_append_1 : decode cX4_append 1 = .ok (.invokestatic 69, 3) := by decide +kernel
theorem dX4_append_4 : decode cX4_append 4 = .ok (.iload_n 2, 1) := by decide +kernel
theorem dX4_append_5 : decode cX4_append 5 = .ok (.invokestatic 73, 3) := by decide +kernel
theorem dX4_append_8 : decode cX4_append 8 = .ok (.iload_n 3, 1) := by decide +kernel
theorem dX4_append_9 : decode cX4_append 9 = .ok (.iconst 1, 1) := by decide +kernel
theorem dX4_append_10 : decode cX4_append 10 = .ok (.if_icmp .lt 9, 3) := by decide +kernel
theorem dX4_append_13 : decode cX4_append 13 = .ok (.iload_n 3, 1) := by decide +kernel
theorem dX4_append_14 : decode cX4_append 14 = .ok (.bipush 100, 2) := by decide +kernel
theorem dX4_append_16 : decode cX4_append 16 = .ok (.if_icmp .le 13, 3) := by decide +kernel
theorem dX4_append_19 : decode cX4_append 19 = .ok (.new 76, 3) := by decide +kernel
theorem dX4_append_22 : decode cX4_append 22 = .ok (.dup, 1) := by decide +kernel
theorem dX4_append_23 : decode cX4_append 23 = .ok (.ldc 78, 2) := by decide +kernel
theorem dX4_append_25 : decode cX4_append 25 = .ok (.invokespecial 80, 3) := by decide +kernel
theorem dX4_append_28 : decode cX4_append 28 = .ok (.athrow, 1) := by decide +kernel
theorem dX4_append_29 : decode cX4_append 29 = .ok (.aload_n 0, 1) := by decide +kernel
theorem dX4_append_30 : decode cX4_append 30 = .ok (.getfield 10, 3) := by decide +kernel
theorem dX4_append_33 : decode cX4_append 33 = .ok (.getfield 83, 3) := by decide +kernel
theorem dX4_append_36 : decode cX4_append 36 = .ok (.iload_n 1, 1) := by decide +kernel
theorem dX4_append_37 : decode cX4_append 37 = .ok (.iaload, 1) := by decide +kernel
theorem dX4_append_38 : decode cX4_append 38 = .ok (.bipush 60, 2) := by decide +kernel
theorem dX4_append_40 : decode cX4_append 40 = .ok (.if_icmp .lt 13, 3) := by decide +kernel
theorem dX4_append_43 : decode cX4_append 43 = .ok (.new 86, 3) := by decide +kernel
theorem dX4_append_46 : decode cX4_append 46 = .ok (.dup, 1) := by decide +kernel
theorem dX4_append_47 : decode cX4_append 47 = .ok (.ldc 88, 2) := by decide +kernel
theorem dX4_append_49 : decode cX4_append 49 = .ok (.invokespecial 90, 3) := by decide +kernel
theorem dX4_append_52 : decode cX4_append 52 = .ok (.athrow, 1) := by decide +kernel
theorem dX4_append_53 : decode cX4_append 53 = .ok (.aload_n 0, 1) := by decide +kernel
theorem dX4_append_54 : decode cX4_append 54 = .ok (.getfield 10, 3) := by decide +kernel
theorem dX4_append_57 : decode cX4_append 57 = .ok (.iload_n 1, 1) := by decide +kernel
theorem dX4_append_58 : decode cX4_append 58 = .ok (.iload_n 2, 1) := by decide +kernel
theorem dX4_append_59 : decode cX4_append 59 = .ok (.sipush 1000, 3) := by decide +kernel
theorem dX4_append_62 : decode cX4_append 62 = .ok (.imul, 1) := by decide +kernel
theorem dX4_append_63 : decode cX4_append 63 = .ok (.iload_n 3, 1) := by decide +kernel
theorem dX4_append_64 : decode cX4_append 64 = .ok (.iadd, 1) := by decide +kernel
theorem dX4_append_65 : decode cX4_append 65 = .ok (.invokevirtual 91, 3) := by decide +kernel
theorem dX4_append_68 : decode cX4_append 68 = .ok (.ireturn, 1) := by decide +kernel
set_option maxRecDepth 20000 in
theorem ggX4_read_X4_requirePartition : GoodIn wsX4_read wsX4_requirePartition := goodIn_ca (goodIn_r _ [6, 7, 8] (by decide +kernel) (by decide +kernel)) (goodIn_sub (fun _ h => List.mem_cons_of_mem _ (List.mem_append_right _ h)) (by decide +kernel))
set_option maxRecDepth 20000 in
theorem gX4_read_X4_requirePartition : GoodIn wsX4_read (va_wsS RX4 69 yX4_requirePartition wsX4_requirePartition) := goodIn_app (goodIn_of _ (by decide +kernel)) ggX4_read_X4_requirePartition
set_option maxRecDepth 20000 in
theorem ggX4_read_X4_canReadFrom : GoodIn wsX4_read wsX4_canReadFrom := goodIn_r _ [12, 13, 14, 15, 16, 17, 18, 19, 20, 21, 22, 23, 24, 25, 5, 26, 27, 28, 29, 30, 31, 32, 33, 34, 35, 36, 37, 38, 39, 40, 41, 42, 43, 44, 45, 46, 47, 57, 58, 59, 60, 61, 62, 63, 64, 65, 66, 67, 68, 69, 70, 71, 72, 73, 74, 75, 76, 77, 78, 79] (by decide +kernel) (by decide +kernel)
set_option maxRecDepth 20000 in
theorem gX4_read_X4_canReadFrom : GoodIn wsX4_read (wsV RX4 95 RX4 yX4_canReadFrom wsX4_canReadFrom) := goodIn_app (goodIn_of _ (by decide +kernel)) ggX4_read_X4_canReadFrom
set_option maxRecDepth 20000 in
theorem ggX4_read_X4_readFrom : GoodIn wsX4_read wsX4_readFrom := goodIn_r _ [51, 15, 13, 14, 17, 18, 19, 20, 21, 22, 23, 24, 25, 5, 26, 27, 28, 29, 30, 31, 32, 33, 34, 52, 53, 54, 38, 55, 56, 44, 45, 46, 47, 57, 58, 59, 60, 61, 62, 63, 64, 65, 66, 67, 68, 69, 70, 71, 72, 73, 74, 75, 76, 77, 78, 79] (by decide +kernel) (by decide +kernel)
set_option maxRecDepth 20000 in
theorem gX4_read_X4_readFrom : GoodIn wsX4_read (wsV RX4 101 RX4 yX4_readFrom wsX4_readFrom) := goodIn_app (goodIn_of _ (by decide +kernel)) ggX4_read_X4_readFrom
theorem dX4_read_0 : decode cX4_read 0 = .ok (.iload_n 1, 1) := by decide +kernel
theorem dX4_read_1 : decode cX4_read 1 = .ok (.invokestatic 69, 3) := by decide +kernel
theorem dX4_read_4 : decode cX4_read 4 = .ok (.aload_n 0, 1) := by decide +kernel
theorem dX4_read_5 : decode cX4_read 5 = .ok (.iload_n 1, 1) := by decide +kernel
theorem dX4_read_6 : decode cX4_read 6 = .ok (.invokevirtual 95, 3) := by decide +kernel
theorem dX4_read_9 : decode cX4_read 9 = .ok (.ifCond .ne 13, 3) := by decide +kernel
theorem dX4_read_12 : decode cX4_read 12 = .ok (.new 86, 3) := by decide +kernel
theorem dX4_read_15 : decode cX4_read 15 = .ok (.dup, 1) := by decide +kernel
theorem dX4_read_16 : decode cX4_read 16 = .ok (.ldc 99, 2) := by decide +kernel
theorem dX4_read_18 : decode cX4_read 18 = .ok (.invokespecial 90, 3) := by decide +kernel
theorem dX4_read_21 : decode cX4_read 21 = .ok (.athrow, 1) := by decide +kernel
theorem dX4_read_22 : decode cX4_read 22 = .ok (.aload_n 0, 1) := by decide +kernel
theorem dX4_read_23 : decode cX4_read 23 = .ok (.iload_n 1, 1) := by decide +kernel
theorem dX4_read_24 : decode cX4_read 24 = .ok (.invokevirtual 101, 3) := by decide +kernel
theorem dX4_read_27 : decode cX4_read 27 = .ok (.ireturn, 1) := by decide +kernel
set_option maxRecDepth 20000 in
theorem ggX4_sendBarrier_X4_requirePartition : GoodIn wsX4_sendBarrier wsX4_requirePartition := goodIn_ca (goodIn_r _ [11, 12, 13] (by decide +kernel) (by decide +kernel)) (goodIn_sub (fun _ h => List.mem_cons_of_mem _ (List.mem_append_right _ h)) (by decide +kernel))
set_option maxRecDepth 20000 in
theorem gX4_sendBarrier_X4_requirePartition : GoodIn wsX4_sendBarrier (va_wsS RX4 69 yX4_requirePartition wsX4_requirePartition) := goodIn_app (goodIn_of _ (by decide +kernel)) ggX4_sendBarrier_X4_requirePartition
set_option maxRecDepth 20000 in
theorem ggX4_sendBarrier_X4_hasRoomInAllChannels : GoodIn wsX4_sendBarrier wsX4_hasRoomInAllChannels := goodIn_r _ [17, 6, 7, 18, 19, 20, 21, 22, 23, 24, 25, 26, 27, 28, 29, 30, 44, 45, 46, 47, 48, 49, 50, 51, 52, 53, 54, 55, 56, 57, 62, 63, 64] (by decide +kernel) (by decide +kernel)
set_option maxRecDepth 20000 in
theorem gX4_sendBarrier_X4_hasRoomInAllChannels : GoodIn wsX4_sendBarrier (wsV RX4 111 RX4 yX4_hasRoomInAllChannels wsX4_hasRoomInAllChannels) := goodIn_app (goodIn_of _ (by decide +kernel)) ggX4_sendBarrier_X4_hasRoomInAllChannels
set_option maxRecDepth 20000 in
theorem ggX4_sendBarrier_X0_put : GoodIn wsX4_sendBarrier wsX0_put := goodIn_r _ [34, 35, 27, 28, 29, 21, 30, 62, 63, 64] (by decide +kernel) (by decide +kernel)
set_option maxRecDepth 20000 in
theorem gX4_sendBarrier_X0_put : GoodIn wsX4_sendBarrier (wsV RX4 116 RX0 yX0_put wsX0_put) := goodIn_app (goodIn_of _ (by decide +kernel)) ggX4_sendBarrier_X0_put
set_option maxRecDepth 20000 in
theorem ggX4_sendBarrier_X2_keepForBarrier : GoodIn wsX4_sendBarrier wsX2_keepForBarrier := goodIn_r _ [40, 41, 42, 43, 58, 59, 60, 61] (by decide +kernel) (by decide +kernel)
set_option maxRecDepth 20000 in
theorem gX4_sendBarrier_X2_keepForBarrier : GoodIn wsX4_sendBarrier (wsV RX4 120 RX2 yX2_keepForBarrier wsX2_keepForBarrier) := goodIn_app (goodIn_of _ (by decide +kernel)) ggX4_sendBarrier_X2_keepForBarrier
theorem dX4_sendBarrier_0 : decode cX4_sendBarrier 0 = .ok (.iload_n 1, 1) := by decide +kernel
theorem dX4_sendBarrier_1 : decode cX4_sendBarrier 1 = .ok (.invokestatic 69, 3) := by decide +kernel
theorem dX4_sendBarrier_4 : decode cX4_sendBarrier 4 = .ok (.aload_n 0, 1) := by decide +kernel
theorem dX4_sendBarrier_5 : decode cX4_sendBarrier 5 = .ok (.getfield 63, 3) := by decide +kernel
theorem dX4_sendBarrier_8 : decode cX4_sendBarrier 8 = .ok (.iconst (-1), 1) := by decide +kernel
theorem dX4_sendBarrier_9 : decode cX4_sendBarrier 9 = .ok (.if_icmp .eq 15, 3) := by decide +kernel
theorem dX4_sendBarrier_12 : decode cX4_sendBarrier 12 = .ok (.aload_n 0, 1) := by decide +kernel
theorem dX4_sendBarrier_13 : decode cX4_sendBarrier 13 = .ok (.getfield 19, 3) := by decide +kernel
theorem dX4_sendBarrier_16 : decode cX4_sendBarrier 16 = .ok (.getfield 105, 3) := by decide +kernel
theorem dX4_sendBarrier_19 : decode cX4_sendBarrier 19 = .ok (.iload_n 1, 1) := by decide +kernel
theorem dX4_sendBarrier_20 : decode cX4_sendBarrier 20 = .ok (.baload, 1) := by decide +kernel
theorem dX4_sendBarrier_21 : decode cX4_sendBarrier 21 = .ok (.ifCond .eq 13, 3) := by decide +kernel
theorem dX4_sendBarrier_24 : decode cX4_sendBarrier 24 = .ok (.new 86, 3) := by decide +kernel
theorem dX4_sendBarrier_27 : decode cX4_sendBarrier 27 = .ok (.dup, 1) := by decide +kernel
theorem dX4_sendBarrier_28 : decode cX4_sendBarrier 28 = .ok (.ldc 109, 2) := by decide +kernel
theorem dX4_sendBarrier_30 : decode cX4_sendBarrier 30 = .ok (.invokespecial 90, 3) := by decide +kernel
theorem dX4_sendBarrier_33 : decode cX4_sendBarrier 33 = .ok (.athrow, 1) := by decide +kernel
theorem dX4_sendBarrier_34 : decode cX4_sendBarrier 34 = .ok (.aload_n 0, 1) := by decide +kernel
theorem dX4_sendBarrier_35 : decode cX4_sendBarrier 35 = .ok (.iload_n 1, 1) := by decide +kernel
theorem dX4_sendBarrier_36 : decode cX4_sendBarrier 36 = .ok (.invokevirtual 111, 3) := by decide +kernel
theorem dX4_sendBarrier_39 : decode cX4_sendBarrier 39 = .ok (.ifCond .ne 13, 3) := by decide +kernel
theorem dX4_sendBarrier_42 : decode cX4_sendBarrier 42 = .ok (.new 86, 3) := by decide +kernel
theorem dX4_sendBarrier_45 : decode cX4_sendBarrier 45 = .ok (.dup, 1) := by decide +kernel
theorem dX4_sendBarrier_46 : decode cX4_sendBarrier 46 = .ok (.ldc 114, 2) := by decide +kernel
theorem dX4_sendBarrier_48 : decode cX4_sendBarrier 48 = .ok (.invokespecial 90, 3) := by decide +kernel
theorem dX4_sendBarrier_51 : decode cX4_sendBarrier 51 = .ok (.athrow, 1) := by decide +kernel
theorem dX4_sendBarrier_52 : decode cX4_sendBarrier 52 = .ok (.iconst 0, 1) := by decide +kernel
theorem dX4_sendBarrier_53 : decode cX4_sendBarrier 53 = .ok (.istore_n 2, 1) := by decide +kernel
theorem dX4_sendBarrier_54 : decode cX4_sendBarrier 54 = .ok (.iload_n 2, 1) := by decide +kernel
theorem dX4_sendBarrier_55 : decode cX4_sendBarrier 55 = .ok (.aload_n 0, 1) := by decide +kernel
theorem dX4_sendBarrier_56 : decode cX4_sendBarrier 56 = .ok (.getfield 56, 3) := by decide +kernel
theorem dX4_sendBarrier_59 : decode cX4_sendBarrier 59 = .ok (.if_icmp .ge 23, 3) := by decide +kernel
theorem dX4_sendBarrier_62 : decode cX4_sendBarrier 62 = .ok (.aload_n 0, 1) := by decide +kernel
theorem dX4_sendBarrier_63 : decode cX4_sendBarrier 63 = .ok (.getfield 26, 3) := by decide +kernel
theorem dX4_sendBarrier_66 : decode cX4_sendBarrier 66 = .ok (.iload_n 1, 1) := by decide +kernel
theorem dX4_sendBarrier_67 : decode cX4_sendBarrier 67 = .ok (.iload_n 2, 1) := by decide +kernel
theorem dX4_sendBarrier_68 : decode cX4_sendBarrier 68 = .ok (.aload_n 0, 1) := by decide +kernel
theorem dX4_sendBarrier_69 : decode cX4_sendBarrier 69 = .ok (.getfield 63, 3) := by decide +kernel
theorem dX4_sendBarrier_72 : decode cX4_sendBarrier 72 = .ok (.ineg, 1) := by decide +kernel
theorem dX4_sendBarrier_73 : decode cX4_sendBarrier 73 = .ok (.invokevirtual 116, 3) := by decide +kernel
theorem dX4_sendBarrier_76 : decode cX4_sendBarrier 76 = .ok (.iinc 2 1, 3) := by decide +kernel
theorem dX4_sendBarrier_79 : decode cX4_sendBarrier 79 = .ok (.goto (-25), 3) := by decide +kernel
theorem dX4_sendBarrier_82 : decode cX4_sendBarrier 82 = .ok (.aload_n 0, 1) := by decide +kernel
theorem dX4_sendBarrier_83 : decode cX4_sendBarrier 83 = .ok (.getfield 19, 3) := by decide +kernel
theorem dX4_sendBarrier_86 : decode cX4_sendBarrier 86 = .ok (.iload_n 1, 1) := by decide +kernel
theorem dX4_sendBarrier_87 : decode cX4_sendBarrier 87 = .ok (.invokevirtual 120, 3) := by decide +kernel
theorem dX4_sendBarrier_90 : decode cX4_sendBarrier 90 = .ok (.ireturn, 1) := by decide +kernel
set_option maxRecDepth 20000 in
theorem ggX4_take_X4_requireWorker : GoodIn wsX4_take wsX4_requireWorker := goodIn_ca (goodIn_r _ [8, 9, 10, 11, 128, 129, 130, 131, 132, 133, 134, 135, 136, 137, 138, 139, 140, 141] (by decide +kernel) (by decide +kernel)) (goodIn_sub (fun _ h => List.mem_cons_of_mem _ (List.mem_append_right _ h)) (by decide +kernel))
set_option maxRecDepth 20000 in
theorem gX4_take_X4_requireWorker : GoodIn wsX4_take (wsV RX4 123 RX4 yX4_requireWorker wsX4_requireWorker) := goodIn_app (goodIn_of _ (by decide +kernel)) ggX4_take_X4_requireWorker
set_option maxRecDepth 20000 in
theorem ggX4_take_X4_requirePartition : GoodIn wsX4_take wsX4_requirePartition := goodIn_ca (goodIn_r _ [14, 9, 10] (by decide +kernel) (by decide +kernel)) (goodIn_sub (fun _ h => List.mem_cons_of_mem _ (List.mem_append_right _ h)) (by decide +kernel))
set_option maxRecDepth 20000 in
theorem gX4_take_X4_requirePartition : GoodIn wsX4_take (va_wsS RX4 69 yX4_requirePartition wsX4_requirePartition) := goodIn_app (goodIn_of _ (by decide +kernel)) ggX4_take_X4_requirePartition
set_option maxRecDepth 20000 in
theorem ggX4_take_X0_canGive : GoodIn wsX4_take wsX0_canGive := goodIn_r _ [19, 20, 21, 22, 18, 23, 24, 25, 26, 27, 28, 29, 30, 31, 32, 142, 143, 144] (by decide +kernel) (by decide +kernel)
set_option maxRecDepth 20000 in
theorem gX4_take_X0_canGive : GoodIn wsX4_take (wsV RX4 126 RX0 yX0_canGive wsX0_canGive) := goodIn_app (goodIn_of _ (by decide +kernel)) ggX4_take_X0_canGive
set_option maxRecDepth 20000 in
theorem ggX4_take_X4_takeFrom : GoodIn wsX4_take wsX4_takeFrom := goodIn_r _ [36, 3, 37, 38, 39, 40, 18, 41, 42, 24, 25, 26, 27, 43, 44, 7, 45, 46, 47, 48, 49, 50, 51, 52, 53, 54, 55, 56, 57, 58, 59, 60, 61, 62, 63, 64, 65, 66, 67, 68, 69, 70, 32, 71, 72, 73, 74, 28, 29, 30, 31, 75, 76, 77, 78, 79, 80, 81, 82, 83, 84, 85, 11, 86, 87, 88, 89, 90, 91, 92, 93, 94, 95, 96, 97, 98, 99, 100, 101, 102, 103, 104, 105, 106, 107, 108, 109, 110, 111, 112, 113, 114, 115, 116, 117, 118, 119, 120, 121, 122, 123, 124, 125, 126, 127, 128, 129, 130, 131, 132, 133, 134, 135, 136, 137, 138, 139, 140, 141, 142, 143, 144, 145, 146, 147, 148, 149, 150] (by decide +kernel) (by decide +kernel)
set_option maxRecDepth 20000 in
theorem gX4_take_X4_takeFrom : GoodIn wsX4_take (wsV RX4 132 RX4 yX4_takeFrom wsX4_takeFrom) := goodIn_app (goodIn_of _ (by decide +kernel)) ggX4_take_X4_takeFrom
theorem dX4_take_0 : decode cX4_take 0 = .ok (.aload_n 0, 1) := by decide +kernel
theorem dX4_take_1 : decode cX4_take 1 = .ok (.iload_n 1, 1) := by decide +kernel
theorem dX4_take_2 : decode cX4_take 2 = .ok (.invokevirtual 123, 3) := by decide +kernel
theorem dX4_take_5 : decode cX4_take 5 = .ok (.iload_n 2, 1) := by decide +kernel
theorem dX4_take_6 : decode cX4_take 6 = .ok (.invokestatic 69, 3) := by decide +kernel
theorem dX4_take_9 : decode cX4_take 9 = .ok (.aload_n 0, 1) := by decide +kernel
theorem dX4_take_10 : decode cX4_take 10 = .ok (.getfield 26, 3) := by decide +kernel
theorem dX4_take_13 : decode cX4_take 13 = .ok (.iload_n 2, 1) := by decide +kernel
theorem dX4_take_14 : decode cX4_take 14 = .ok (.iload_n 1, 1) := by decide +kernel
theorem dX4_take_15 : decode cX4_take 15 = .ok (.invokevirtual 126, 3) := by decide +kernel
theorem dX4_take_18 : decode cX4_take 18 = .ok (.ifCond .ne 13, 3) := by decide +kernel
theorem dX4_take_21 : decode cX4_take 21 = .ok (.new 86, 3) := by decide +kernel
theorem dX4_take_24 : decode cX4_take 24 = .ok (.dup, 1) := by decide +kernel
theorem dX4_take_25 : decode cX4_take 25 = .ok (.ldc 130, 2) := by decide +kernel
theorem dX4_take_27 : decode cX4_take 27 = .ok (.invokespecial 90, 3) := by decide +kernel
theorem dX4_take_30 : decode cX4_take 30 = .ok (.athrow, 1) := by decide +kernel
theorem dX4_take_31 : decode cX4_take 31 = .ok (.aload_n 0, 1) := by decide +kernel
theorem dX4_take_32 : decode cX4_take 32 = .ok (.iload_n 2, 1) := by decide +kernel
theorem dX4_take_33 : decode cX4_take 33 = .ok (.iload_n 1, 1) := by decide +kernel
theorem dX4_take_34 : decode cX4_take 34 = .ok (.invokevirtual 132, 3) := by decide +kernel
theorem dX4_take_37 : decode cX4_take 37 = .ok (.ireturn, 1) := by decide +kernel
set_option maxRecDepth 20000 in
theorem ggX4_pump_X4_readRound : GoodIn wsX4_pump wsX4_readRound := goodIn_r _ [7, 8, 9, 10, 6, 11, 12, 13, 14, 15, 16, 17, 18, 19, 20, 21, 22, 23, 24, 25, 26, 27, 28, 29, 30, 31, 32, 33, 34, 35, 36, 37, 38, 39, 40, 41, 42, 43, 44, 45, 46, 47, 48, 49, 50, 51, 52, 53, 54, 55, 152, 153, 154, 155, 156, 157, 158, 159, 160, 161, 162, 163, 164, 165, 166, 167, 168, 169, 170, 171, 172, 173, 174] (by decide +kernel) (by decide +kernel)
set_option maxRecDepth 20000 in
theorem gX4_pump_X4_readRound : GoodIn wsX4_pump (wsV RX4 137 RX4 yX4_readRound wsX4_readRound) := goodIn_app (goodIn_of _ (by decide +kernel)) ggX4_pump_X4_readRound
set_option maxRecDepth 20000 in
theorem ggX4_pump_X4_takeRound : GoodIn wsX4_pump wsX4_takeRound := goodIn_r _ [59, 30, 16, 60, 61, 62, 37, 63, 39, 40, 41, 42, 43, 44, 45, 46, 64, 65, 66, 67, 68, 69, 70, 71, 6, 72, 73, 74, 75, 76, 77, 55, 23, 24, 25, 78, 79, 80, 81, 82, 83, 84, 85, 86, 87, 88, 89, 90, 91, 92, 93, 94, 95, 96, 97, 98, 99, 100, 101, 102, 103, 104, 105, 106, 107, 108, 109, 110, 111, 112, 113, 26, 27, 28, 29, 31, 32, 33, 114, 115, 116, 117, 118, 119, 120, 121, 122, 123, 124, 125, 126, 127, 128, 129, 130, 131, 132, 133, 134, 135, 136, 137, 138, 139, 12, 140, 141, 142, 143, 144, 145, 146, 147, 148, 149, 150, 151, 152, 153, 154, 155, 156, 157, 158, 159, 160, 161, 162, 163, 164, 165, 172, 173, 174, 175, 176, 166, 167, 168, 169] (by decide +kernel) (by decide +kernel)
set_option maxRecDepth 20000 in
theorem gX4_pump_X4_takeRound : GoodIn wsX4_pump (wsV RX4 141 RX4 yX4_takeRound wsX4_takeRound) := goodIn_app (goodIn_of _ (by decide +kernel)) ggX4_pump_X4_takeRound
theorem dX4_pump_0 : decode cX4_pump 0 = .ok (.iload_n 1, 1) := by decide +kernel
theorem dX4_pump_1 : decode cX4_pump 1 = .ok (.iconst 1, 1) := by decide +kernel
theorem dX4_pump_2 : decode cX4_pump 2 = .ok (.if_icmp .lt 9, 3) := by decide +kernel
theorem dX4_pump_5 : decode cX4_pump 5 = .ok (.iload_n 1, 1) := by decide +kernel
theorem dX4_pump_6 : decode cX4_pump 6 = .ok (.bipush 20, 2) := by decide +kernel
theorem dX4_pump_8 : decode cX4_pump 8 = .ok (.if_icmp .le 13, 3) := by decide +kernel
theorem dX4_pump_11 : decode cX4_pump 11 = .ok (.new 76, 3) := by decide +kernel
theorem dX4_pump_14 : decode cX4_pump 14 = .ok (.dup, 1) := by decide +kernel
theorem dX4_pump_15 : decode cX4_pump 15 = .ok (.ldc 135, 2) := by decide +kernel
theorem dX4_pump_17 : decode cX4_pump 17 = .ok (.invokespecial 80, 3) := by decide +kernel
theorem dX4_pump_20 : decode cX4_pump 20 = .ok (.athrow, 1) := by decide +kernel
theorem dX4_pump_21 : decode cX4_pump 21 = .ok (.iconst 0, 1) := by decide +kernel
theorem dX4_pump_22 : decode cX4_pump 22 = .ok (.istore_n 2, 1) := by decide +kernel
theorem dX4_pump_23 : decode cX4_pump 23 = .ok (.iconst 0, 1) := by decide +kernel
theorem dX4_pump_24 : decode cX4_pump 24 = .ok (.istore_n 3, 1) := by decide +kernel
theorem dX4_pump_25 : decode cX4_pump 25 = .ok (.iload_n 3, 1) := by decide +kernel
theorem dX4_pump_26 : decode cX4_pump 26 = .ok (.iload_n 1, 1) := by decide +kernel
theorem dX4_pump_27 : decode cX4_pump 27 = .ok (.if_icmp .ge 23, 3) := by decide +kernel
theorem dX4_pump_30 : decode cX4_pump 30 = .ok (.iload_n 2, 1) := by decide +kernel
theorem dX4_pump_31 : decode cX4_pump 31 = .ok (.aload_n 0, 1) := by decide +kernel
theorem dX4_pump_32 : decode cX4_pump 32 = .ok (.invokevirtual 137, 3) := by decide +kernel
theorem dX4_pump_35 : decode cX4_pump 35 = .ok (.iadd, 1) := by decide +kernel
theorem dX4_pump_36 : decode cX4_pump 36 = .ok (.istore_n 2, 1) := by decide +kernel
theorem dX4_pump_37 : decode cX4_pump 37 = .ok (.iload_n 2, 1) := by decide +kernel
theorem dX4_pump_38 : decode cX4_pump 38 = .ok (.aload_n 0, 1) := by decide +kernel
theorem dX4_pump_39 : decode cX4_pump 39 = .ok (.invokevirtual 141, 3) := by decide +kernel
theorem dX4_pump_42 : decode cX4_pump 42 = .ok (.iadd, 1) := by decide +kernel
theorem dX4_pump_43 : decode cX4_pump 43 = .ok (.istore_n 2, 1) := by decide +kernel
theorem dX4_pump_44 : decode cX4_pump 44 = .ok (.iinc 3 1, 3) := by decide +kernel
theorem dX4_pump_47 : decode cX4_pump 47 = .ok (.goto (-22), 3) := by decide +kernel
theorem dX4_pump_50 : decode cX4_pump 50 = .ok (.iload_n 2, 1) := by decide +kernel
theorem dX4_pump_51 : decode cX4_pump 51 = .ok (.ireturn, 1) := by decide +kernel
set_option maxRecDepth 20000 in
theorem ggX4_commit_X4_requireWorker : GoodIn wsX4_commit wsX4_requireWorker := goodIn_ca (goodIn_r _ [7, 8, 9, 10, 47, 48, 49, 50, 51, 52, 53, 54, 55, 56, 57, 58, 59, 60] (by decide +kernel) (by decide +kernel)) (goodIn_sub (fun _ h => List.mem_cons_of_mem _ (List.mem_append_right _ h)) (by decide +kernel))
set_option maxRecDepth 20000 in
theorem gX4_commit_X4_requireWorker : GoodIn wsX4_commit (wsV RX4 123 RX4 yX4_requireWorker wsX4_requireWorker) := goodIn_app (goodIn_of _ (by decide +kernel)) ggX4_commit_X4_requireWorker
set_option maxRecDepth 20000 in
theorem ggX4_commit_X4_isReadyToCommit : GoodIn wsX4_commit wsX4_isReadyToCommit := goodIn_r _ [14, 15, 16, 47, 48, 49, 50, 51, 52, 53, 54, 55, 56, 57, 58, 59, 60] (by decide +kernel) (by decide +kernel)
set_option maxRecDepth 20000 in
theorem gX4_commit_X4_isReadyToCommit : GoodIn wsX4_commit (wsV RX4 144 RX4 yX4_isReadyToCommit wsX4_isReadyToCommit) := goodIn_app (goodIn_of _ (by decide +kernel)) ggX4_commit_X4_isReadyToCommit
set_option maxRecDepth 20000 in
theorem ggX4_commit_X4_commitSealed : GoodIn wsX4_commit wsX4_commitSealed := goodIn_r _ [20, 15, 21, 22, 23, 24, 25, 6, 26, 27, 28, 29, 30, 31, 32, 10, 33, 34, 35, 36, 37, 38, 39, 40, 41, 42, 43, 44, 45, 46, 47, 48, 49, 50, 51, 52, 53, 54, 55, 56, 57, 58, 59, 60, 61, 62] (by decide +kernel) (by decide +kernel)
set_option maxRecDepth 20000 in
theorem gX4_commit_X4_commitSealed : GoodIn wsX4_commit (wsV RX4 149 RX4 yX4_commitSealed wsX4_commitSealed) := goodIn_app (goodIn_of _ (by decide +kernel)) ggX4_commit_X4_commitSealed
theorem dX4_commit_0 : decode cX4_commit 0 = .ok (.aload_n 0, 1) := by decide +kernel
theorem dX4_commit_1 : decode cX4_commit 1 = .ok (.iload_n 1, 1) := by decide +kernel
theorem dX4_commit_2 : decode cX4_commit 2 = .ok (.invokevirtual 123, 3) := by decide +kernel
theorem dX4_commit_5 : decode cX4_commit 5 = .ok (.aload_n 0, 1) := by decide +kernel
theorem dX4_commit_6 : decode cX4_commit 6 = .ok (.iload_n 1, 1) := by decide +kernel
theorem dX4_commit_7 : decode cX4_commit 7 = .ok (.invokevirtual 144, 3) := by decide +kernel
theorem dX4_commit_10 : decode cX4_commit 10 = .ok (.ifCond .ne 13, 3) := by decide +kernel
theorem dX4_commit_13 : decode cX4_commit 13 = .ok (.new 86, 3) := by decide +kernel
theorem dX4_commit_16 : decode cX4_commit 16 = .ok (.dup, 1) := by decide +kernel
theorem dX4_commit_17 : decode cX4_commit 17 = .ok (.ldc 147, 2) := by decide +kernel
theorem dX4_commit_19 : decode cX4_commit 19 = .ok (.invokespecial 90, 3) := by decide +kernel
theorem dX4_commit_22 : decode cX4_commit 22 = .ok (.athrow, 1) := by decide +kernel
theorem dX4_commit_23 : decode cX4_commit 23 = .ok (.aload_n 0, 1) := by decide +kernel
theorem dX4_commit_24 : decode cX4_commit 24 = .ok (.iload_n 1, 1) := by decide +kernel
theorem dX4_commit_25 : decode cX4_commit 25 = .ok (.invokevirtual 149, 3) := by decide +kernel
theorem dX4_commit_28 : decode cX4_commit 28 = .ok (.ireturn, 1) := by decide +kernel
set_option maxRecDepth 20000 in
theorem ggX4_beginCheckpoint_X4_hasAnySealed : GoodIn wsX4_beginCheckpoint wsX4_hasAnySealed := goodIn_r _ [10, 11, 12, 19, 20, 21, 22, 23, 24, 25, 26, 27, 28, 29, 30, 31, 32] (by decide +kernel) (by decide +kernel)
set_option maxRecDepth 20000 in
theorem gX4_beginCheckpoint_X4_hasAnySealed : GoodIn wsX4_beginCheckpoint (wsV RX4 152 RX4 yX4_hasAnySealed wsX4_hasAnySealed) := goodIn_app (goodIn_of _ (by decide +kernel)) ggX4_beginCheckpoint_X4_hasAnySealed
set_option maxRecDepth 20000 in
theorem ggX4_beginCheckpoint_X2_forgetBarriers : GoodIn wsX4_beginCheckpoint wsX2_forgetBarriers := goodIn_r _ [17, 18, 33, 34, 35, 36] (by decide +kernel) (by decide +kernel)
set_option maxRecDepth 20000 in
theorem gX4_beginCheckpoint_X2_forgetBarriers : GoodIn wsX4_beginCheckpoint (wsV RX4 158 RX2 yX2_forgetBarriers wsX2_forgetBarriers) := goodIn_app (goodIn_of _ (by decide +kernel)) ggX4_beginCheckpoint_X2_forgetBarriers
theorem dX4_beginCheckpoint_0 : decode cX4_beginCheckpoint 0 = .ok (.aload_n 0, 1) := by decide +kernel
theorem dX4_beginCheckpoint_1 : decode cX4_beginCheckpoint 1 = .ok (.getfield 63, 3) := by decide +kernel
theorem dX4_beginCheckpoint_4 : decode cX4_beginCheckpoint 4 = .ok (.iconst (-1), 1) := by decide +kernel
theorem dX4_beginCheckpoint_5 : decode cX4_beginCheckpoint 5 = .ok (.if_icmp .ne 10, 3) := by decide +kernel
theorem dX4_beginCheckpoint_8 : decode cX4_beginCheckpoint 8 = .ok (.aload_n 0, 1) := by decide +kernel
theorem dX4_beginCheckpoint_9 : decode cX4_beginCheckpoint 9 = .ok (.invokevirtual 152, 3) := by decide +kernel
theorem dX4_beginCheckpoint_12 : decode cX4_beginCheckpoint 12 = .ok (.ifCond .eq 13, 3) := by decide +kernel
theorem dX4_beginCheckpoint_15 : decode cX4_beginCheckpoint 15 = .ok (.new 86, 3) := by decide +kernel
theorem dX4_beginCheckpoint_18 : decode cX4_beginCheckpoint 18 = .ok (.dup, 1) := by decide +kernel
theorem dX4_beginCheckpoint_19 : decode cX4_beginCheckpoint 19 = .ok (.ldc 156, 2) := by decide +kernel
theorem dX4_beginCheckpoint_21 : decode cX4_beginCheckpoint 21 = .ok (.invokespecial 90, 3) := by decide +kernel
theorem dX4_beginCheckpoint_24 : decode cX4_beginCheckpoint 24 = .ok (.athrow, 1) := by decide +kernel
theorem dX4_beginCheckpoint_25 : decode cX4_beginCheckpoint 25 = .ok (.aload_n 0, 1) := by decide +kernel
theorem dX4_beginCheckpoint_26 : decode cX4_beginCheckpoint 26 = .ok (.dup, 1) := by decide +kernel
theorem dX4_beginCheckpoint_27 : decode cX4_beginCheckpoint 27 = .ok (.getfield 60, 3) := by decide +kernel
theorem dX4_beginCheckpoint_30 : decode cX4_beginCheckpoint 30 = .ok (.iconst 1, 1) := by decide +kernel
theorem dX4_beginCheckpoint_31 : decode cX4_beginCheckpoint 31 = .ok (.iadd, 1) := by decide +kernel
theorem dX4_beginCheckpoint_32 : decode cX4_beginCheckpoint 32 = .ok (.putfield 60, 3) := by decide +kernel
theorem dX4_beginCheckpoint_35 : decode cX4_beginCheckpoint 35 = .ok (.aload_n 0, 1) := by decide +kernel
theorem dX4_beginCheckpoint_36 : decode cX4_beginCheckpoint 36 = .ok (.aload_n 0, 1) := by decide +kernel
theorem dX4_beginCheckpoint_37 : decode cX4_beginCheckpoint 37 = .ok (.getfield 60, 3) := by decide +kernel
theorem dX4_beginCheckpoint_40 : decode cX4_beginCheckpoint 40 = .ok (.putfield 63, 3) := by decide +kernel
theorem dX4_beginCheckpoint_43 : decode cX4_beginCheckpoint 43 = .ok (.aload_n 0, 1) := by decide +kernel
theorem dX4_beginCheckpoint_44 : decode cX4_beginCheckpoint 44 = .ok (.getfield 19, 3) := by decide +kernel
theorem dX4_beginCheckpoint_47 : decode cX4_beginCheckpoint 47 = .ok (.invokevirtual 158, 3) := by decide +kernel
theorem dX4_beginCheckpoint_50 : decode cX4_beginCheckpoint 50 = .ok (.aload_n 0, 1) := by decide +kernel
theorem dX4_beginCheckpoint_51 : decode cX4_beginCheckpoint 51 = .ok (.getfield 63, 3) := by decide +kernel
theorem dX4_beginCheckpoint_54 : decode cX4_beginCheckpoint 54 = .ok (.ireturn, 1) := by decide +kernel
set_option maxRecDepth 20000 in
theorem ggX4_abandon_X0_unblockAll : GoodIn wsX4_abandon wsX0_unblockAll := goodIn_r _ [13, 14, 15, 16, 12, 17, 57, 58, 59] (by decide +kernel) (by decide +kernel)
set_option maxRecDepth 20000 in
theorem gX4_abandon_X0_unblockAll : GoodIn wsX4_abandon (wsV RX4 163 RX0 yX0_unblockAll wsX0_unblockAll) := goodIn_app (goodIn_of _ (by decide +kernel)) ggX4_abandon_X0_unblockAll
set_option maxRecDepth 20000 in
theorem ggX4_abandon_X4_moveTallies : GoodIn wsX4_abandon wsX4_moveTallies := goodIn_r _ [22, 23, 24, 25, 26, 27, 21, 28, 4, 29, 30, 31, 32, 33, 34, 35, 36, 37, 38, 39, 40, 41, 42, 60, 61, 43, 44, 45, 46, 47, 48, 49, 50, 51, 52, 53, 54, 55, 56] (by decide +kernel) (by decide +kernel)
set_option maxRecDepth 20000 in
theorem gX4_abandon_X4_moveTallies : GoodIn wsX4_abandon (wsV RX4 166 RX4 yX4_moveTallies wsX4_moveTallies) := goodIn_app (goodIn_of _ (by decide +kernel)) ggX4_abandon_X4_moveTallies
theorem dX4_abandon_0 : decode cX4_abandon 0 = .ok (.aload_n 0, 1) := by decide +kernel
theorem dX4_abandon_1 : decode cX4_abandon 1 = .ok (.getfield 63, 3) := by decide +kernel
theorem dX4_abandon_4 : decode cX4_abandon 4 = .ok (.iconst (-1), 1) := by decide +kernel
theorem dX4_abandon_5 : decode cX4_abandon 5 = .ok (.if_icmp .ne 13, 3) := by decide +kernel
theorem dX4_abandon_8 : decode cX4_abandon 8 = .ok (.new 86, 3) := by decide +kernel
theorem dX4_abandon_11 : decode cX4_abandon 11 = .ok (.dup, 1) := by decide +kernel
theorem dX4_abandon_12 : decode cX4_abandon 12 = .ok (.ldc 161, 2) := by decide +kernel
theorem dX4_abandon_14 : decode cX4_abandon 14 = .ok (.invokespecial 90, 3) := by decide +kernel
theorem dX4_abandon_17 : decode cX4_abandon 17 = .ok (.athrow, 1) := by decide +kernel
theorem dX4_abandon_18 : decode cX4_abandon 18 = .ok (.aload_n 0, 1) := by decide +kernel
theorem dX4_abandon_19 : decode cX4_abandon 19 = .ok (.getfield 63, 3) := by decide +kernel
theorem dX4_abandon_22 : decode cX4_abandon 22 = .ok (.istore_n 1, 1) := by decide +kernel
theorem dX4_abandon_23 : decode cX4_abandon 23 = .ok (.iconst 0, 1) := by decide +kernel
theorem dX4_abandon_24 : decode cX4_abandon 24 = .ok (.istore_n 2, 1) := by decide +kernel
theorem dX4_abandon_25 : decode cX4_abandon 25 = .ok (.iload_n 2, 1) := by decide +kernel
theorem dX4_abandon_26 : decode cX4_abandon 26 = .ok (.aload_n 0, 1) := by decide +kernel
theorem dX4_abandon_27 : decode cX4_abandon 27 = .ok (.getfield 56, 3) := by decide +kernel
theorem dX4_abandon_30 : decode cX4_abandon 30 = .ok (.if_icmp .ge 48, 3) := by decide +kernel
theorem dX4_abandon_33 : decode cX4_abandon 33 = .ok (.aload_n 0, 1) := by decide +kernel
theorem dX4_abandon_34 : decode cX4_abandon 34 = .ok (.getfield 26, 3) := by decide +kernel
theorem dX4_abandon_37 : decode cX4_abandon 37 = .ok (.iload_n 2, 1) := by decide +kernel
theorem dX4_abandon_38 : decode cX4_abandon 38 = .ok (.invokevirtual 163, 3) := by decide +kernel
theorem dX4_abandon_41 : decode cX4_abandon 41 = .ok (.aload_n 0, 1) := by decide +kernel
theorem dX4_abandon_42 : decode cX4_abandon 42 = .ok (.getfield 52, 3) := by decide +kernel
theorem dX4_abandon_45 : decode cX4_abandon 45 = .ok (.iload_n 2, 1) := by decide +kernel
theorem dX4_abandon_46 : decode cX4_abandon 46 = .ok (.iaload, 1) := by decide +kernel
theorem dX4_abandon_47 : decode cX4_abandon 47 = .ok (.iload_n 1, 1) := by decide +kernel
theorem dX4_abandon_48 : decode cX4_abandon 48 = .ok (.if_icmp .ne 24, 3) := by decide +kernel
theorem dX4_abandon_51 : decode cX4_abandon 51 = .ok (.aload_n 0, 1) := by decide +kernel
theorem dX4_abandon_52 : decode cX4_abandon 52 = .ok (.aload_n 0, 1) := by decide +kernel
theorem dX4_abandon_53 : decode cX4_abandon 53 = .ok (.getfield 40, 3) := by decide +kernel
theorem dX4_abandon_56 : decode cX4_abandon 56 = .ok (.aload_n 0, 1) := by decide +kernel
theorem dX4_abandon_57 : decode cX4_abandon 57 = .ok (.getfield 37, 3) := by decide +kernel
theorem dX4_abandon_60 : decode cX4_abandon 60 = .ok (.iload_n 2, 1) := by decide +kernel
theorem dX4_abandon_61 : decode cX4_abandon 61 = .ok (.invokevirtual 166, 3) := by decide +kernel
theorem dX4_abandon_64 : decode cX4_abandon 64 = .ok (.pop, 1) := by decide +kernel
theorem dX4_abandon_65 : decode cX4_abandon 65 = .ok (.aload_n 0, 1) := by decide +kernel
theorem dX4_abandon_66 : decode cX4_abandon 66 = .ok (.getfield 52, 3) := by decide +kernel
theorem dX4_abandon_69 : decode cX4_abandon 69 = .ok (.iload_n 2, 1) := by decide +kernel
theorem dX4_abandon_70 : decode cX4_abandon 70 = .ok (.iconst (-1), 1) := by decide +kernel
theorem dX4_abandon_71 : decode cX4_abandon 71 = .ok (.iastore, 1) := by decide +kernel
theorem dX4_abandon_72 : decode cX4_abandon 72 = .ok (.iinc 2 1, 3) := by decide +kernel
theorem dX4_abandon_75 : decode cX4_abandon 75 = .ok (.goto (-50), 3) := by decide +kernel
theorem dX4_abandon_78 : decode cX4_abandon 78 = .ok (.aload_n 0, 1) := by decide +kernel
theorem dX4_abandon_79 : decode cX4_abandon 79 = .ok (.iconst (-1), 1) := by decide +kernel
theorem dX4_abandon_80 : decode cX4_abandon 80 = .ok (.putfield 63, 3) := by decide +kernel
theorem dX4_abandon_83 : decode cX4_abandon 83 = .ok (.iload_n 1, 1) := by decide +kernel
theorem dX4_abandon_84 : decode cX4_abandon 84 = .ok (.ireturn, 1) := by decide +kernel
set_option maxRecDepth 20000 in
theorem ggX4_crash_X4_startAgain : GoodIn wsX4_crash wsX4_startAgain := goodIn_r _ [7, 1, 8, 9, 10, 11, 12, 13, 14, 15, 16, 17, 18, 6, 19, 2, 20, 21, 22, 23, 24, 25, 26, 27, 28, 29, 30, 31, 32, 33, 34, 35, 36, 37, 38, 39, 40, 41, 42, 43, 44, 45, 46, 47, 48, 49, 50, 51, 52, 53, 54, 55, 56, 57, 58, 59, 60, 61, 62, 63, 64, 65, 66, 67, 68, 69, 70, 71, 72, 73, 74, 75, 76, 77, 78, 79, 80, 81, 82, 83, 84, 85, 86, 87, 88, 89, 90, 91, 92, 93, 94] (by decide +kernel) (by decide +kernel)
set_option maxRecDepth 20000 in
theorem gX4_crash_X4_startAgain : GoodIn wsX4_crash (wsV RX4 170 RX4 yX4_startAgain wsX4_startAgain) := goodIn_app (goodIn_of _ (by decide +kernel)) ggX4_crash_X4_startAgain
theorem dX4_crash_0 : decode cX4_crash 0 = .ok (.aload_n 0, 1) := by decide +kernel
theorem dX4_crash_1 : decode cX4_crash 1 = .ok (.aload_n 0, 1) := by decide +kernel
theorem dX4_crash_2 : decode cX4_crash 2 = .ok (.getfield 56, 3) := by decide +kernel
theorem dX4_crash_5 : decode cX4_crash 5 = .ok (.invokevirtual 170, 3) := by decide +kernel
theorem dX4_crash_8 : decode cX4_crash 8 = .ok (.aload_n 0, 1) := by decide +kernel
theorem dX4_crash_9 : decode cX4_crash 9 = .ok (.getfield 66, 3) := by decide +kernel
theorem dX4_crash_12 : decode cX4_crash 12 = .ok (.iconst (-1), 1) := by decide +kernel
theorem dX4_crash_13 : decode cX4_crash 13 = .ok (.if_icmp .ne 7, 3) := by decide +kernel
theorem dX4_crash_16 : decode cX4_crash 16 = .ok (.iconst 0, 1) := by decide +kernel
theorem dX4_crash_17 : decode cX4_crash 17 = .ok (.goto 7, 3) := by decide +kernel
theorem dX4_crash_20 : decode cX4_crash 20 = .ok (.aload_n 0, 1) := by decide +kernel
theorem dX4_crash_21 : decode cX4_crash 21 = .ok (.getfield 66, 3) := by decide +kernel
theorem dX4_crash_24 : decode cX4_crash 24 = .ok (.ireturn, 1) := by decide +kernel
set_option maxRecDepth 20000 in
theorem ggX4_rescale_X4_ownerOfGroup : GoodIn wsX4_rescale wsX4_ownerOfGroup := goodIn_r _ [7] (by decide +kernel) (by decide +kernel)
set_option maxRecDepth 20000 in
theorem gX4_rescale_X4_ownerOfGroup : GoodIn wsX4_rescale (va_wsS RX4 175 yX4_ownerOfGroup wsX4_ownerOfGroup) := goodIn_app (goodIn_of _ (by decide +kernel)) ggX4_rescale_X4_ownerOfGroup
set_option maxRecDepth 20000 in
theorem ggX4_rescale_X4_startAgain : GoodIn wsX4_rescale wsX4_startAgain := goodIn_r _ [11, 3, 12, 13, 14, 15, 16, 17, 18, 19, 20, 21, 22, 6, 23, 24, 25, 26, 27, 28, 29, 30, 31, 32, 33, 34, 35, 36, 37, 38, 39, 4, 5, 7, 40, 41, 42, 43, 44, 45, 46, 47, 48, 49, 50, 51, 52, 53, 54, 55, 56, 57, 58, 59, 60, 61, 62, 63, 64, 65, 66, 67, 68, 69, 70, 71, 72, 73, 74, 75, 76, 77, 78, 79, 80, 81, 82, 83, 84, 85, 86, 87, 88, 89, 90, 91, 92, 93, 94, 95, 96] (by decide +kernel) (by decide +kernel)
set_option maxRecDepth 20000 in
theorem gX4_rescale_X4_startAgain : GoodIn wsX4_rescale (wsV RX4 170 RX4 yX4_startAgain wsX4_startAgain) := goodIn_app (goodIn_of _ (by decide +kernel)) ggX4_rescale_X4_startAgain
theorem dX4_rescale_0 : decode cX4_rescale 0 = .ok (.iload_n 1, 1) := by decide +kernel
theorem dX4_rescale_1 : decode cX4_rescale 1 = .ok (.iconst 1, 1) := by decide +kernel
theorem dX4_rescale_2 : decode cX4_rescale 2 = .ok (.if_icmp .lt 8, 3) := by decide +kernel
theorem dX4_rescale_5 : decode cX4_rescale 5 = .ok (.iload_n 1, 1) := by decide +kernel
theorem dX4_rescale_6 : decode cX4_rescale 6 = .ok (.iconst 4, 1) := by decide +kernel
theorem dX4_rescale_7 : decode cX4_rescale 7 = .ok (.if_icmp .le 13, 3) := by decide +kernel
theorem dX4_rescale_10 : decode cX4_rescale 10 = .ok (.new 76, 3) := by decide +kernel
theorem dX4_rescale_13 : decode cX4_rescale 13 = .ok (.dup, 1) := by decide +kernel
theorem dX4_rescale_14 : decode cX4_rescale 14 = .ok (.ldc 173, 2) := by decide +kernel
theorem dX4_rescale_16 : decode cX4_rescale 16 = .ok (.invokespecial 80, 3) := by decide +kernel
theorem dX4_rescale_19 : decode cX4_rescale 19 = .ok (.athrow, 1) := by decide +kernel
theorem dX4_rescale_20 : decode cX4_rescale 20 = .ok (.iconst 0, 1) := by decide +kernel
theorem dX4_rescale_21 : decode cX4_rescale 21 = .ok (.istore_n 2, 1) := by decide +kernel
theorem dX4_rescale_22 : decode cX4_rescale 22 = .ok (.iconst 0, 1) := by decide +kernel
theorem dX4_rescale_23 : decode cX4_rescale 23 = .ok (.istore_n 3, 1) := by decide +kernel
theorem dX4_rescale_24 : decode cX4_rescale 24 = .ok (.iload_n 3, 1) := by decide +kernel
theorem dX4_rescale_25 : decode cX4_rescale 25 = .ok (.bipush 8, 2) := by decide +kernel
theorem dX4_rescale_27 : decode cX4_rescale 27 = .ok (.if_icmp .ge 28, 3) := by decide +kernel
theorem dX4_rescale_30 : decode cX4_rescale 30 = .ok (.iload_n 3, 1) := by decide +kernel
theorem dX4_rescale_31 : decode cX4_rescale 31 = .ok (.iload_n 1, 1) := by decide +kernel
theorem dX4_rescale_32 : decode cX4_rescale 32 = .ok (.invokestatic 175, 3) := by decide +kernel
theorem dX4_rescale_35 : decode cX4_rescale 35 = .ok (.iload_n 3, 1) := by decide +kernel
theorem dX4_rescale_36 : decode cX4_rescale 36 = .ok (.aload_n 0, 1) := by decide +kernel
theorem dX4_rescale_37 : decode cX4_rescale 37 = .ok (.getfield 56, 3) := by decide +kernel
theorem dX4_rescale_40 : decode cX4_rescale 40 = .ok (.invokestatic 175, 3) := by decide +kernel
theorem dX4_rescale_43 : decode cX4_rescale 43 = .ok (.if_icmp .eq 6, 3) := by decide +kernel
theorem dX4_rescale_46 : decode cX4_rescale 46 = .ok (.iinc 2 1, 3) := by decide +kernel
theorem dX4_rescale_49 : decode cX4_rescale 49 = .ok (.iinc 3 1, 3) := by decide +kernel
theorem dX4_rescale_52 : decode cX4_rescale 52 = .ok (.goto (-28), 3) := by decide +kernel
theorem dX4_rescale_55 : decode cX4_rescale 55 = .ok (.aload_n 0, 1) := by decide +kernel
theorem dX4_rescale_56 : decode cX4_rescale 56 = .ok (.iload_n 1, 1) := by decide +kernel
theorem dX4_rescale_57 : decode cX4_rescale 57 = .ok (.invokevirtual 170, 3) := by decide +kernel
theorem dX4_rescale_60 : decode cX4_rescale 60 = .ok (.iload_n 2, 1) := by decide +kernel
theorem dX4_rescale_61 : decode cX4_rescale 61 = .ok (.ireturn, 1) := by decide +kernel
set_option maxRecDepth 20000 in
theorem ggX4_events_X4_requirePartition : GoodIn wsX4_events wsX4_requirePartition := goodIn_ca (goodIn_r _ [6, 7, 8] (by decide +kernel) (by decide +kernel)) (goodIn_sub (fun _ h => List.mem_cons_of_mem _ (List.mem_append_right _ h)) (by decide +kernel))
set_option maxRecDepth 20000 in
theorem gX4_events_X4_requirePartition : GoodIn wsX4_events (va_wsS RX4 69 yX4_requirePartition wsX4_requirePartition) := goodIn_app (goodIn_of _ (by decide +kernel)) ggX4_events_X4_requirePartition
theorem dX4_events_0 : decode cX4_events 0 = .ok (.iload_n 1, 1) := by decide +kernel
theorem dX4_events_1 : decode cX4_events 1 = .ok (.invokestatic 69, 3) := by decide +kernel
theorem dX4_events_4 : decode cX4_events 4 = .ok (.aload_n 0, 1) := by decide +kernel
theorem dX4_events_5 : decode cX4_events 5 = .ok (.getfield 10, 3) := by decide +kernel
theorem dX4_events_8 : decode cX4_events 8 = .ok (.getfield 83, 3) := by decide +kernel
theorem dX4_events_11 : decode cX4_events 11 = .ok (.iload_n 1, 1) := by decide +kernel
theorem dX4_events_12 : decode cX4_events 12 = .ok (.iaload, 1) := by decide +kernel
theorem dX4_events_13 : decode cX4_events 13 = .ok (.ireturn, 1) := by decide +kernel
set_option maxRecDepth 20000 in
theorem ggX4_offset_X4_requirePartition : GoodIn wsX4_offset wsX4_requirePartition := goodIn_ca (goodIn_r _ [6, 7, 8] (by decide +kernel) (by decide +kernel)) (goodIn_sub (fun _ h => List.mem_cons_of_mem _ (List.mem_append_right _ h)) (by decide +kernel))
set_option maxRecDepth 20000 in
theorem gX4_offset_X4_requirePartition : GoodIn wsX4_offset (va_wsS RX4 69 yX4_requirePartition wsX4_requirePartition) := goodIn_app (goodIn_of _ (by decide +kernel)) ggX4_offset_X4_requirePartition
theorem dX4_offset_0 : decode cX4_offset 0 = .ok (.iload_n 1, 1) := by decide +kernel
theorem dX4_offset_1 : decode cX4_offset 1 = .ok (.invokestatic 69, 3) := by decide +kernel
theorem dX4_offset_4 : decode cX4_offset 4 = .ok (.aload_n 0, 1) := by decide +kernel
theorem dX4_offset_5 : decode cX4_offset 5 = .ok (.getfield 19, 3) := by decide +kernel
theorem dX4_offset_8 : decode cX4_offset 8 = .ok (.getfield 178, 3) := by decide +kernel
theorem dX4_offset_11 : decode cX4_offset 11 = .ok (.iload_n 1, 1) := by decide +kernel
theorem dX4_offset_12 : decode cX4_offset 12 = .ok (.iaload, 1) := by decide +kernel
theorem dX4_offset_13 : decode cX4_offset 13 = .ok (.ireturn, 1) := by decide +kernel
set_option maxRecDepth 20000 in
theorem ggX4_eventAt_X4_requirePartition : GoodIn wsX4_eventAt wsX4_requirePartition := goodIn_ca (goodIn_r _ [8, 1, 2] (by decide +kernel) (by decide +kernel)) (goodIn_sub (fun _ h => List.mem_cons_of_mem _ (List.mem_append_right _ h)) (by decide +kernel))
set_option maxRecDepth 20000 in
theorem gX4_eventAt_X4_requirePartition : GoodIn wsX4_eventAt (va_wsS RX4 69 yX4_requirePartition wsX4_requirePartition) := goodIn_app (goodIn_of _ (by decide +kernel)) ggX4_eventAt_X4_requirePartition
set_option maxRecDepth 20000 in
theorem ggX4_eventAt_X1_get : GoodIn wsX4_eventAt wsX1_get := goodIn_r _ [13, 14, 29, 30] (by decide +kernel) (by decide +kernel)
set_option maxRecDepth 20000 in
theorem gX4_eventAt_X1_get : GoodIn wsX4_eventAt (wsV RX4 186 RX1 yX1_get wsX1_get) := goodIn_app (goodIn_of _ (by decide +kernel)) ggX4_eventAt_X1_get
theorem dX4_eventAt_0 : decode cX4_eventAt 0 = .ok (.iload_n 1, 1) := by decide +kernel
theorem dX4_eventAt_1 : decode cX4_eventAt 1 = .ok (.invokestatic 69, 3) := by decide +kernel
theorem dX4_eventAt_4 : decode cX4_eventAt 4 = .ok (.iload_n 2, 1) := by decide +kernel
theorem dX4_eventAt_5 : decode cX4_eventAt 5 = .ok (.ifCond .lt 16, 3) := by decide +kernel
theorem dX4_eventAt_8 : decode cX4_eventAt 8 = .ok (.iload_n 2, 1) := by decide +kernel
theorem dX4_eventAt_9 : decode cX4_eventAt 9 = .ok (.aload_n 0, 1) := by decide +kernel
theorem dX4_eventAt_10 : decode cX4_eventAt 10 = .ok (.getfield 10, 3) := by decide +kernel
theorem dX4_eventAt_13 : decode cX4_eventAt 13 = .ok (.getfield 83, 3) := by decide +kernel
theorem dX4_eventAt_16 : decode cX4_eventAt 16 = .ok (.iload_n 1, 1) := by decide +kernel
theorem dX4_eventAt_17 : decode cX4_eventAt 17 = .ok (.iaload, 1) := by decide +kernel
theorem dX4_eventAt_18 : decode cX4_eventAt 18 = .ok (.if_icmp .lt 13, 3) := by decide +kernel
theorem dX4_eventAt_21 : decode cX4_eventAt 21 = .ok (.new 181, 3) := by decide +kernel
theorem dX4_eventAt_24 : decode cX4_eventAt 24 = .ok (.dup, 1) := by decide +kernel
theorem dX4_eventAt_25 : decode cX4_eventAt 25 = .ok (.ldc 183, 2) := by decide +kernel
theorem dX4_eventAt_27 : decode cX4_eventAt 27 = .ok (.invokespecial 185, 3) := by decide +kernel
theorem dX4_eventAt_30 : decode cX4_eventAt 30 = .ok (.athrow, 1) := by decide +kernel
theorem dX4_eventAt_31 : decode cX4_eventAt 31 = .ok (.aload_n 0, 1) := by decide +kernel
theorem dX4_eventAt_32 : decode cX4_eventAt 32 = .ok (.getfield 10, 3) := by decide +kernel
theorem dX4_eventAt_35 : decode cX4_eventAt 35 = .ok (.iload_n 1, 1) := by decide +kernel
theorem dX4_eventAt_36 : decode cX4_eventAt 36 = .ok (.iload_n 2, 1) := by decide +kernel
theorem dX4_eventAt_37 : decode cX4_eventAt 37 = .ok (.invokevirtual 186, 3) := by decide +kernel
theorem dX4_eventAt_40 : decode cX4_eventAt 40 = .ok (.ireturn, 1) := by decide +kernel
set_option maxRecDepth 20000 in
theorem ggX4_queued_X4_requirePartition : GoodIn wsX4_queued wsX4_requirePartition := goodIn_ca (goodIn_r _ [5, 6, 7] (by decide +kernel) (by decide +kernel)) (goodIn_sub (fun _ h => List.mem_cons_of_mem _ (List.mem_append_right _ h)) (by decide +kernel))
set_option maxRecDepth 20000 in
theorem gX4_queued_X4_requirePartition : GoodIn wsX4_queued (va_wsS RX4 69 yX4_requirePartition wsX4_requirePartition) := goodIn_app (goodIn_of _ (by decide +kernel)) ggX4_queued_X4_requirePartition
set_option maxRecDepth 20000 in
theorem ggX4_queued_X4_requireWorker : GoodIn wsX4_queued wsX4_requireWorker := goodIn_ca (goodIn_r _ [11, 6, 7, 12, 22, 23, 24, 25, 26, 27, 28, 29, 30, 31, 32, 33, 34, 35] (by decide +kernel) (by decide +kernel)) (goodIn_sub (fun _ h => List.mem_cons_of_mem _ (List.mem_append_right _ h)) (by decide +kernel))
set_option maxRecDepth 20000 in
theorem gX4_queued_X4_requireWorker : GoodIn wsX4_queued (wsV RX4 123 RX4 yX4_requireWorker wsX4_requireWorker) := goodIn_app (goodIn_of _ (by decide +kernel)) ggX4_queued_X4_requireWorker
set_option maxRecDepth 20000 in
theorem ggX4_queued_X0_size : GoodIn wsX4_queued wsX0_size := goodIn_r _ [17, 18, 19, 20, 16, 21, 36, 37, 38] (by decide +kernel) (by decide +kernel)
set_option maxRecDepth 20000 in
theorem gX4_queued_X0_size : GoodIn wsX4_queued (wsV RX4 189 RX0 yX0_size wsX0_size) := goodIn_app (goodIn_of _ (by decide +kernel)) ggX4_queued_X0_size
theorem dX4_queued_0 : decode cX4_queued 0 = .ok (.iload_n 1, 1) := by decide +kernel
theorem dX4_queued_1 : decode cX4_queued 1 = .ok (.invokestatic 69, 3) := by decide +kernel
theorem dX4_queued_4 : decode cX4_queued 4 = .ok (.aload_n 0, 1) := by decide +kernel
theorem dX4_queued_5 : decode cX4_queued 5 = .ok (.iload_n 2, 1) := by decide +kernel
theorem dX4_queued_6 : decode cX4_queued 6 = .ok (.invokevirtual 123, 3) := by decide +kernel
theorem dX4_queued_9 : decode cX4_queued 9 = .ok (.aload_n 0, 1) := by decide +kernel
theorem dX4_queued_10 : decode cX4_queued 10 = .ok (.getfield 26, 3) := by decide +kernel
theorem dX4_queued_13 : decode cX4_queued 13 = .ok (.iload_n 1, 1) := by decide +kernel
theorem dX4_queued_14 : decode cX4_queued 14 = .ok (.iload_n 2, 1) := by decide +kernel
theorem dX4_queued_15 : decode cX4_queued 15 = .ok (.invokevirtual 189, 3) := by decide +kernel
theorem dX4_queued_18 : decode cX4_queued 18 = .ok (.ireturn, 1) := by decide +kernel
set_option maxRecDepth 20000 in
theorem ggX4_itemAt_X4_requirePartition : GoodIn wsX4_itemAt wsX4_requirePartition := goodIn_ca (goodIn_r _ [7, 1, 2] (by decide +kernel) (by decide +kernel)) (goodIn_sub (fun _ h => List.mem_cons_of_mem _ (List.mem_append_right _ h)) (by decide +kernel))
set_option maxRecDepth 20000 in
theorem gX4_itemAt_X4_requirePartition : GoodIn wsX4_itemAt (va_wsS RX4 69 yX4_requirePartition wsX4_requirePartition) := goodIn_app (goodIn_of _ (by decide +kernel)) ggX4_itemAt_X4_requirePartition
set_option maxRecDepth 20000 in
theorem ggX4_itemAt_X4_requireWorker : GoodIn wsX4_itemAt wsX4_requireWorker := goodIn_ca (goodIn_r _ [11, 1, 2, 12, 27, 28, 29, 30, 31, 32, 33, 34, 35, 36, 37, 38, 39, 40] (by decide +kernel) (by decide +kernel)) (goodIn_sub (fun _ h => List.mem_cons_of_mem _ (List.mem_append_right _ h)) (by decide +kernel))
set_option maxRecDepth 20000 in
theorem gX4_itemAt_X4_requireWorker : GoodIn wsX4_itemAt (wsV RX4 123 RX4 yX4_requireWorker wsX4_requireWorker) := goodIn_app (goodIn_of _ (by decide +kernel)) ggX4_itemAt_X4_requireWorker
set_option maxRecDepth 20000 in
theorem ggX4_itemAt_X0_size : GoodIn wsX4_itemAt wsX0_size := goodIn_r _ [17, 18, 19, 20, 16, 21, 41, 42, 43] (by decide +kernel) (by decide +kernel)
set_option maxRecDepth 20000 in
theorem gX4_itemAt_X0_size : GoodIn wsX4_itemAt (wsV RX4 189 RX0 yX0_size wsX0_size) := goodIn_app (goodIn_of _ (by decide +kernel)) ggX4_itemAt_X0_size
set_option maxRecDepth 20000 in
theorem ggX4_itemAt_X0_get : GoodIn wsX4_itemAt wsX0_get := goodIn_r _ [25, 26, 19, 20, 16, 21, 41, 42, 43] (by decide +kernel) (by decide +kernel)
set_option maxRecDepth 20000 in
theorem gX4_itemAt_X0_get : GoodIn wsX4_itemAt (wsV RX4 194 RX0 yX0_get wsX0_get) := goodIn_app (goodIn_of _ (by decide +kernel)) ggX4_itemAt_X0_get
theorem dX4_itemAt_0 : decode cX4_itemAt 0 = .ok (.iload_n 1, 1) := by decide +kernel
theorem dX4_itemAt_1 : decode cX4_itemAt 1 = .ok (.invokestatic 69, 3) := by decide +kernel
theorem dX4_itemAt_4 : decode cX4_itemAt 4 = .ok (.aload_n 0, 1) := by decide +kernel
theorem dX4_itemAt_5 : decode cX4_itemAt 5 = .ok (.iload_n 2, 1) := by decide +kernel
theorem dX4_itemAt_6 : decode cX4_itemAt 6 = .ok (.invokevirtual 123, 3) := by decide +kernel
theorem dX4_itemAt_9 : decode cX4_itemAt 9 = .ok (.iload_n 3, 1) := by decide +kernel
theorem dX4_itemAt_10 : decode cX4_itemAt 10 = .ok (.ifCond .lt 16, 3) := by decide +kernel
theorem dX4_itemAt_13 : decode cX4_itemAt 13 = .ok (.iload_n 3, 1) := by decide +kernel
theorem dX4_itemAt_14 : decode cX4_itemAt 14 = .ok (.aload_n 0, 1) := by decide +kernel
theorem dX4_itemAt_15 : decode cX4_itemAt 15 = .ok (.getfield 26, 3) := by decide +kernel
theorem dX4_itemAt_18 : decode cX4_itemAt 18 = .ok (.iload_n 1, 1) := by decide +kernel
theorem dX4_itemAt_19 : decode cX4_itemAt 19 = .ok (.iload_n 2, 1) := by decide +kernel
theorem dX4_itemAt_20 : decode cX4_itemAt 20 = .ok (.invokevirtual 189, 3) := by decide +kernel
theorem dX4_itemAt_23 : decode cX4_itemAt 23 = .ok (.if_icmp .lt 13, 3) := by decide +kernel
theorem dX4_itemAt_26 : decode cX4_itemAt 26 = .ok (.new 181, 3) := by decide +kernel
theorem dX4_itemAt_29 : decode cX4_itemAt 29 = .ok (.dup, 1) := by decide +kernel
theorem dX4_itemAt_30 : decode cX4_itemAt 30 = .ok (.ldc 192, 2) := by decide +kernel
theorem dX4_itemAt_32 : decode cX4_itemAt 32 = .ok (.invokespecial 185, 3) := by decide +kernel
theorem dX4_itemAt_35 : decode cX4_itemAt 35 = .ok (.athrow, 1) := by decide +kernel
theorem dX4_itemAt_36 : decode cX4_itemAt 36 = .ok (.aload_n 0, 1) := by decide +kernel
theorem dX4_itemAt_37 : decode cX4_itemAt 37 = .ok (.getfield 26, 3) := by decide +kernel
theorem dX4_itemAt_40 : decode cX4_itemAt 40 = .ok (.iload_n 1, 1) := by decide +kernel
theorem dX4_itemAt_41 : decode cX4_itemAt 41 = .ok (.iload_n 2, 1) := by decide +kernel
theorem dX4_itemAt_42 : decode cX4_itemAt 42 = .ok (.iload_n 3, 1) := by decide +kernel
theorem dX4_itemAt_43 : decode cX4_itemAt 43 = .ok (.invokevirtual 194, 3) := by decide +kernel
theorem dX4_itemAt_46 : decode cX4_itemAt 46 = .ok (.ireturn, 1) := by decide +kernel
set_option maxRecDepth 20000 in
theorem ggX4_isBlocked_X4_requirePartition : GoodIn wsX4_isBlocked wsX4_requirePartition := goodIn_ca (goodIn_r _ [5, 6, 7] (by decide +kernel) (by decide +kernel)) (goodIn_sub (fun _ h => List.mem_cons_of_mem _ (List.mem_append_right _ h)) (by decide +kernel))
set_option maxRecDepth 20000 in
theorem gX4_isBlocked_X4_requirePartition : GoodIn wsX4_isBlocked (va_wsS RX4 69 yX4_requirePartition wsX4_requirePartition) := goodIn_app (goodIn_of _ (by decide +kernel)) ggX4_isBlocked_X4_requirePartition
set_option maxRecDepth 20000 in
theorem ggX4_isBlocked_X4_requireWorker : GoodIn wsX4_isBlocked wsX4_requireWorker := goodIn_ca (goodIn_r _ [11, 6, 7, 12, 22, 23, 24, 25, 26, 27, 28, 29, 30, 31, 32, 33, 34, 35] (by decide +kernel) (by decide +kernel)) (goodIn_sub (fun _ h => List.mem_cons_of_mem _ (List.mem_append_right _ h)) (by decide +kernel))
set_option maxRecDepth 20000 in
theorem gX4_isBlocked_X4_requireWorker : GoodIn wsX4_isBlocked (wsV RX4 123 RX4 yX4_requireWorker wsX4_requireWorker) := goodIn_app (goodIn_of _ (by decide +kernel)) ggX4_isBlocked_X4_requireWorker
set_option maxRecDepth 20000 in
theorem ggX4_isBlocked_X0_isShut : GoodIn wsX4_isBlocked wsX0_isShut := goodIn_r _ [17, 18, 19, 20, 16, 21, 36, 37, 38] (by decide +kernel) (by decide +kernel)
set_option maxRecDepth 20000 in
theorem gX4_isBlocked_X0_isShut : GoodIn wsX4_isBlocked (wsV RX4 197 RX0 yX0_isShut wsX0_isShut) := goodIn_app (goodIn_of _ (by decide +kernel)) ggX4_isBlocked_X0_isShut
theorem dX4_isBlocked_0 : decode cX4_isBlocked 0 = .ok (.iload_n 1, 1) := by decide +kernel
theorem dX4_isBlocked_1 : decode cX4_isBlocked 1 = .ok (.invokestatic 69, 3) := by decide +kernel
theorem dX4_isBlocked_4 : decode cX4_isBlocked 4 = .ok (.aload_n 0, 1) := by decide +kernel
theorem dX4_isBlocked_5 : decode cX4_isBlocked 5 = .ok (.iload_n 2, 1) := by decide +kernel
theorem dX4_isBlocked_6 : decode cX4_isBlocked 6 = .ok (.invokevirtual 123, 3) := by decide +kernel
theorem dX4_isBlocked_9 : decode cX4_isBlocked 9 = .ok (.aload_n 0, 1) := by decide +kernel
theorem dX4_isBlocked_10 : decode cX4_isBlocked 10 = .ok (.getfield 26, 3) := by decide +kernel
theorem dX4_isBlocked_13 : decode cX4_isBlocked 13 = .ok (.iload_n 1, 1) := by decide +kernel
theorem dX4_isBlocked_14 : decode cX4_isBlocked 14 = .ok (.iload_n 2, 1) := by decide +kernel
theorem dX4_isBlocked_15 : decode cX4_isBlocked 15 = .ok (.invokevirtual 197, 3) := by decide +kernel
theorem dX4_isBlocked_18 : decode cX4_isBlocked 18 = .ok (.ireturn, 1) := by decide +kernel
theorem dX4_workers_0 : decode cX4_workers 0 = .ok (.aload_n 0, 1) := by decide +kernel
theorem dX4_workers_1 : decode cX4_workers 1 = .ok (.getfield 56, 3) := by decide +kernel
theorem dX4_workers_4 : decode cX4_workers 4 = .ok (.ireturn, 1) := by decide +kernel
set_option maxRecDepth 20000 in
theorem ggX4_workerOf_X4_requireKey : GoodIn wsX4_workerOf wsX4_requireKey := goodIn_ca (goodIn_r _ [4, 5, 6] (by decide +kernel) (by decide +kernel)) (goodIn_sub (fun _ h => List.mem_cons_of_mem _ (List.mem_append_right _ h)) (by decide +kernel))
set_option maxRecDepth 20000 in
theorem gX4_workerOf_X4_requireKey : GoodIn wsX4_workerOf (va_wsS RX4 73 yX4_requireKey wsX4_requireKey) := goodIn_app (goodIn_of _ (by decide +kernel)) ggX4_workerOf_X4_requireKey
set_option maxRecDepth 20000 in
theorem ggX4_workerOf_X4_ownerOfKey : GoodIn wsX4_workerOf wsX4_ownerOfKey := goodIn_r _ [10, 11, 12, 13, 3, 14, 15, 16, 17, 18, 19, 20, 21, 22, 23, 24, 25, 26, 27, 28] (by decide +kernel) (by decide +kernel)
set_option maxRecDepth 20000 in
theorem gX4_workerOf_X4_ownerOfKey : GoodIn wsX4_workerOf (wsV RX4 200 RX4 yX4_ownerOfKey wsX4_ownerOfKey) := goodIn_app (goodIn_of _ (by decide +kernel)) ggX4_workerOf_X4_ownerOfKey
theorem dX4_workerOf_0 : decode cX4_workerOf 0 = .ok (.iload_n 1, 1) := by decide +kernel
theorem dX4_workerOf_1 : decode cX4_workerOf 1 = .ok (.invokestatic 73, 3) := by decide +kernel
theorem dX4_workerOf_4 : decode cX4_workerOf 4 = .ok (.aload_n 0, 1) := by decide +kernel
theorem dX4_workerOf_5 : decode cX4_workerOf 5 = .ok (.iload_n 1, 1) := by decide +kernel
theorem dX4_workerOf_6 : decode cX4_workerOf 6 = .ok (.invokevirtual 200, 3) := by decide +kernel
theorem dX4_workerOf_9 : decode cX4_workerOf 9 = .ok (.ireturn, 1) := by decide +kernel
set_option maxRecDepth 20000 in
theorem ggX4_groupsOf_X4_requireWorker : GoodIn wsX4_groupsOf wsX4_requireWorker := goodIn_ca (goodIn_r _ [6, 7, 8, 1, 12, 13, 14, 15, 16, 17, 18, 19, 20, 21, 22, 23, 24, 25] (by decide +kernel) (by decide +kernel)) (goodIn_sub (fun _ h => List.mem_cons_of_mem _ (List.mem_append_right _ h)) (by decide +kernel))
set_option maxRecDepth 20000 in
theorem gX4_groupsOf_X4_requireWorker : GoodIn wsX4_groupsOf (wsV RX4 123 RX4 yX4_requireWorker wsX4_requireWorker) := goodIn_app (goodIn_of _ (by decide +kernel)) ggX4_groupsOf_X4_requireWorker
set_option maxRecDepth 20000 in
theorem ggX4_groupsOf_X4_ownerOfGroup : GoodIn wsX4_groupsOf wsX4_ownerOfGroup := goodIn_r _ [11] (by decide +kernel) (by decide +kernel)
set_option maxRecDepth 20000 in
theorem gX4_groupsOf_X4_ownerOfGroup : GoodIn wsX4_groupsOf (va_wsS RX4 175 yX4_ownerOfGroup wsX4_ownerOfGroup) := goodIn_app (goodIn_of _ (by decide +kernel)) ggX4_groupsOf_X4_ownerOfGroup
theorem dX4_groupsOf_0 : decode cX4_groupsOf 0 = .ok (.aload_n 0, 1) := by decide +kernel
theorem dX4_groupsOf_1 : decode cX4_groupsOf 1 = .ok (.iload_n 1, 1) := by decide +kernel
theorem dX4_groupsOf_2 : decode cX4_groupsOf 2 = .ok (.invokevirtual 123, 3) := by decide +kernel
theorem dX4_groupsOf_5 : decode cX4_groupsOf 5 = .ok (.bipush 8, 2) := by decide +kernel
theorem dX4_groupsOf_7 : decode cX4_groupsOf 7 = .ok (.istore_n 2, 1) := by decide +kernel
theorem dX4_groupsOf_8 : decode cX4_groupsOf 8 = .ok (.iconst 0, 1) := by decide +kernel
theorem dX4_groupsOf_9 : decode cX4_groupsOf 9 = .ok (.istore_n 3, 1) := by decide +kernel
theorem dX4_groupsOf_10 : decode cX4_groupsOf 10 = .ok (.bipush 7, 2) := by decide +kernel
theorem dX4_groupsOf_12 : decode cX4_groupsOf 12 = .ok (.istore 4, 2) := by decide +kernel
theorem dX4_groupsOf_14 : decode cX4_groupsOf 14 = .ok (.iload 4, 2) := by decide +kernel
theorem dX4_groupsOf_16 : decode cX4_groupsOf 16 = .ok (.ifCond .lt 28, 3) := by decide +kernel
theorem dX4_groupsOf_19 : decode cX4_groupsOf 19 = .ok (.iload 4, 2) := by decide +kernel
theorem dX4_groupsOf_21 : decode cX4_groupsOf 21 = .ok (.aload_n 0, 1) := by decide +kernel
theorem dX4_groupsOf_22 : decode cX4_groupsOf 22 = .ok (.getfield 56, 3) := by decide +kernel
theorem dX4_groupsOf_25 : decode cX4_groupsOf 25 = .ok (.invokestatic 175, 3) := by decide +kernel
theorem dX4_groupsOf_28 : decode cX4_groupsOf 28 = .ok (.iload_n 1, 1) := by decide +kernel
theorem dX4_groupsOf_29 : decode cX4_groupsOf 29 = .ok (.if_icmp .ne 9, 3) := by decide +kernel
theorem dX4_groupsOf_32 : decode cX4_groupsOf 32 = .ok (.iload 4, 2) := by decide +kernel
theorem dX4_groupsOf_34 : decode cX4_groupsOf 34 = .ok (.istore_n 2, 1) := by decide +kernel
theorem dX4_groupsOf_35 : decode cX4_groupsOf 35 = .ok (.iinc 3 1, 3) := by decide +kernel
theorem dX4_groupsOf_38 : decode cX4_groupsOf 38 = .ok (.iinc 4 (-1), 3) := by decide +kernel
theorem dX4_groupsOf_41 : decode cX4_groupsOf 41 = .ok (.goto (-27), 3) := by decide +kernel
theorem dX4_groupsOf_44 : decode cX4_groupsOf 44 = .ok (.bipush 10, 2) := by decide +kernel
theorem dX4_groupsOf_46 : decode cX4_groupsOf 46 = .ok (.iload_n 2, 1) := by decide +kernel
theorem dX4_groupsOf_47 : decode cX4_groupsOf 47 = .ok (.imul, 1) := by decide +kernel
theorem dX4_groupsOf_48 : decode cX4_groupsOf 48 = .ok (.iload_n 3, 1) := by decide +kernel
theorem dX4_groupsOf_49 : decode cX4_groupsOf 49 = .ok (.iadd, 1) := by decide +kernel
theorem dX4_groupsOf_50 : decode cX4_groupsOf 50 = .ok (.ireturn, 1) := by decide +kernel
set_option maxRecDepth 20000 in
theorem ggX4_count_X4_requireKey : GoodIn wsX4_count wsX4_requireKey := goodIn_ca (goodIn_r _ [6, 7, 8] (by decide +kernel) (by decide +kernel)) (goodIn_sub (fun _ h => List.mem_cons_of_mem _ (List.mem_append_right _ h)) (by decide +kernel))
set_option maxRecDepth 20000 in
theorem gX4_count_X4_requireKey : GoodIn wsX4_count (va_wsS RX4 73 yX4_requireKey wsX4_requireKey) := goodIn_app (goodIn_of _ (by decide +kernel)) ggX4_count_X4_requireKey
theorem dX4_count_0 : decode cX4_count 0 = .ok (.iload_n 1, 1) := by decide +kernel
theorem dX4_count_1 : decode cX4_count 1 = .ok (.invokestatic 73, 3) := by decide +kernel
theorem dX4_count_4 : decode cX4_count 4 = .ok (.aload_n 0, 1) := by decide +kernel
theorem dX4_count_5 : decode cX4_count 5 = .ok (.getfield 33, 3) := by decide +kernel
theorem dX4_count_8 : decode cX4_count 8 = .ok (.getfield 203, 3) := by decide +kernel
theorem dX4_count_11 : decode cX4_count 11 = .ok (.iload_n 1, 1) := by decide +kernel
theorem dX4_count_12 : decode cX4_count 12 = .ok (.iaload, 1) := by decide +kernel
theorem dX4_count_13 : decode cX4_count 13 = .ok (.ireturn, 1) := by decide +kernel
set_option maxRecDepth 20000 in
theorem ggX4_sum_X4_requireKey : GoodIn wsX4_sum wsX4_requireKey := goodIn_ca (goodIn_r _ [6, 7, 8] (by decide +kernel) (by decide +kernel)) (goodIn_sub (fun _ h => List.mem_cons_of_mem _ (List.mem_append_right _ h)) (by decide +kernel))
set_option maxRecDepth 20000 in
theorem gX4_sum_X4_requireKey : GoodIn wsX4_sum (va_wsS RX4 73 yX4_requireKey wsX4_requireKey) := goodIn_app (goodIn_of _ (by decide +kernel)) ggX4_sum_X4_requireKey
theorem dX4_sum_0 : decode cX4_sum 0 = .ok (.iload_n 1, 1) := by decide +kernel
theorem dX4_sum_1 : decode cX4_sum 1 = .ok (.invokestatic 73, 3) := by decide +kernel
theorem dX4_sum_4 : decode cX4_sum 4 = .ok (.aload_n 0, 1) := by decide +kernel
theorem dX4_sum_5 : decode cX4_sum 5 = .ok (.getfield 33, 3) := by decide +kernel
theorem dX4_sum_8 : decode cX4_sum 8 = .ok (.getfield 206, 3) := by decide +kernel
theorem dX4_sum_11 : decode cX4_sum 11 = .ok (.iload_n 1, 1) := by decide +kernel
theorem dX4_sum_12 : decode cX4_sum 12 = .ok (.iaload, 1) := by decide +kernel
theorem dX4_sum_13 : decode cX4_sum 13 = .ok (.ireturn, 1) := by decide +kernel
set_option maxRecDepth 20000 in
theorem ggX4_open_X4_requireWorker : GoodIn wsX4_open wsX4_requireWorker := goodIn_ca (goodIn_r _ [7, 8, 9, 10, 18, 19, 20, 21, 22, 23, 24, 25, 26, 27, 28, 29, 30, 31] (by decide +kernel) (by decide +kernel)) (goodIn_sub (fun _ h => List.mem_cons_of_mem _ (List.mem_append_right _ h)) (by decide +kernel))
set_option maxRecDepth 20000 in
theorem gX4_open_X4_requireWorker : GoodIn wsX4_open (wsV RX4 123 RX4 yX4_requireWorker wsX4_requireWorker) := goodIn_app (goodIn_of _ (by decide +kernel)) ggX4_open_X4_requireWorker
set_option maxRecDepth 20000 in
theorem ggX4_open_X4_ownerOfKey : GoodIn wsX4_open wsX4_ownerOfKey := goodIn_r _ [14, 10, 15, 16, 6, 17, 18, 19, 20, 21, 22, 23, 24, 25, 26, 27, 28, 29, 30, 31] (by decide +kernel) (by decide +kernel)
set_option maxRecDepth 20000 in
theorem gX4_open_X4_ownerOfKey : GoodIn wsX4_open (wsV RX4 200 RX4 yX4_ownerOfKey wsX4_ownerOfKey) := goodIn_app (goodIn_of _ (by decide +kernel)) ggX4_open_X4_ownerOfKey
theorem dX4_open_0 : decode cX4_open 0 = .ok (.aload_n 0, 1) := by decide +kernel
theorem dX4_open_1 : decode cX4_open 1 = .ok (.iload_n 1, 1) := by decide +kernel
theorem dX4_open_2 : decode cX4_open 2 = .ok (.invokevirtual 123, 3) := by decide +kernel
theorem dX4_open_5 : decode cX4_open 5 = .ok (.iconst 0, 1) := by decide +kernel
theorem dX4_open_6 : decode cX4_open 6 = .ok (.istore_n 2, 1) := by decide +kernel
theorem dX4_open_7 : decode cX4_open 7 = .ok (.iconst 0, 1) := by decide +kernel
theorem dX4_open_8 : decode cX4_open 8 = .ok (.istore_n 3, 1) := by decide +kernel
theorem dX4_open_9 : decode cX4_open 9 = .ok (.iload_n 3, 1) := by decide +kernel
theorem dX4_open_10 : decode cX4_open 10 = .ok (.bipush 32, 2) := by decide +kernel
theorem dX4_open_12 : decode cX4_open 12 = .ok (.if_icmp .ge 30, 3) := by decide +kernel
theorem dX4_open_15 : decode cX4_open 15 = .ok (.aload_n 0, 1) := by decide +kernel
theorem dX4_open_16 : decode cX4_open 16 = .ok (.iload_n 3, 1) := by decide +kernel
theorem dX4_open_17 : decode cX4_open 17 = .ok (.invokevirtual 200, 3) := by decide +kernel
theorem dX4_open_20 : decode cX4_open 20 = .ok (.iload_n 1, 1) := by decide +kernel
theorem dX4_open_21 : decode cX4_open 21 = .ok (.if_icmp .ne 15, 3) := by decide +kernel
theorem dX4_open_24 : decode cX4_open 24 = .ok (.iload_n 2, 1) := by decide +kernel
theorem dX4_open_25 : decode cX4_open 25 = .ok (.aload_n 0, 1) := by decide +kernel
theorem dX4_open_26 : decode cX4_open 26 = .ok (.getfield 37, 3) := by decide +kernel
theorem dX4_open_29 : decode cX4_open 29 = .ok (.getfield 203, 3) := by decide +kernel
theorem dX4_open_32 : decode cX4_open 32 = .ok (.iload_n 3, 1) := by decide +kernel
theorem dX4_open_33 : decode cX4_open 33 = .ok (.iaload, 1) := by decide +kernel
theorem dX4_open_34 : decode cX4_open 34 = .ok (.iadd, 1) := by decide +kernel
theorem dX4_open_35 : decode cX4_open 35 = .ok (.istore_n 2, 1) := by decide +kernel
theorem dX4_open_36 : decode cX4_open 36 = .ok (.iinc 3 1, 3) := by decide +kernel
theorem dX4_open_39 : decode cX4_open 39 = .ok (.goto (-30), 3) := by decide +kernel
theorem dX4_open_42 : decode cX4_open 42 = .ok (.iload_n 2, 1) := by decide +kernel
theorem dX4_open_43 : decode cX4_open 43 = .ok (.ireturn, 1) := by decide +kernel
set_option maxRecDepth 20000 in
theorem ggX4_sealed_X4_requireWorker : GoodIn wsX4_sealed wsX4_requireWorker := goodIn_ca (goodIn_r _ [6, 7, 8, 9, 10, 11, 12, 13, 14, 15, 16, 17, 18, 19, 20, 21, 22, 23] (by decide +kernel) (by decide +kernel)) (goodIn_sub (fun _ h => List.mem_cons_of_mem _ (List.mem_append_right _ h)) (by decide +kernel))
set_option maxRecDepth 20000 in
theorem gX4_sealed_X4_requireWorker : GoodIn wsX4_sealed (wsV RX4 123 RX4 yX4_requireWorker wsX4_requireWorker) := goodIn_app (goodIn_of _ (by decide +kernel)) ggX4_sealed_X4_requireWorker
theorem dX4_sealed_0 : decode cX4_sealed 0 = .ok (.aload_n 0, 1) := by decide +kernel
theorem dX4_sealed_1 : decode cX4_sealed 1 = .ok (.iload_n 1, 1) := by decide +kernel
theorem dX4_sealed_2 : decode cX4_sealed 2 = .ok (.invokevirtual 123, 3) := by decide +kernel
theorem dX4_sealed_5 : decode cX4_sealed 5 = .ok (.aload_n 0, 1) := by decide +kernel
theorem dX4_sealed_6 : decode cX4_sealed 6 = .ok (.getfield 52, 3) := by decide +kernel
theorem dX4_sealed_9 : decode cX4_sealed 9 = .ok (.iload_n 1, 1) := by decide +kernel
theorem dX4_sealed_10 : decode cX4_sealed 10 = .ok (.iaload, 1) := by decide +kernel
theorem dX4_sealed_11 : decode cX4_sealed 11 = .ok (.ireturn, 1) := by decide +kernel
theorem dX4_underWay_0 : decode cX4_underWay 0 = .ok (.aload_n 0, 1) := by decide +kernel
theorem dX4_underWay_1 : decode cX4_underWay 1 = .ok (.getfield 63, 3) := by decide +kernel
theorem dX4_underWay_4 : decode cX4_underWay 4 = .ok (.ireturn, 1) := by decide +kernel
theorem dX4_complete_0 : decode cX4_complete 0 = .ok (.aload_n 0, 1) := by decide +kernel
theorem dX4_complete_1 : decode cX4_complete 1 = .ok (.getfield 66, 3) := by decide +kernel
theorem dX4_complete_4 : decode cX4_complete 4 = .ok (.ireturn, 1) := by decide +kernel
set_option maxRecDepth 20000 in
theorem ggX4_hasSent_X4_requirePartition : GoodIn wsX4_hasSent wsX4_requirePartition := goodIn_ca (goodIn_r _ [7, 8, 9] (by decide +kernel) (by decide +kernel)) (goodIn_sub (fun _ h => List.mem_cons_of_mem _ (List.mem_append_right _ h)) (by decide +kernel))
set_option maxRecDepth 20000 in
theorem gX4_hasSent_X4_requirePartition : GoodIn wsX4_hasSent (va_wsS RX4 69 yX4_requirePartition wsX4_requirePartition) := goodIn_app (goodIn_of _ (by decide +kernel)) ggX4_hasSent_X4_requirePartition
theorem dX4_hasSent_0 : decode cX4_hasSent 0 = .ok (.iload_n 1, 1) := by decide +kernel
theorem dX4_hasSent_1 : decode cX4_hasSent 1 = .ok (.invokestatic 69, 3) := by decide +kernel
theorem dX4_hasSent_4 : decode cX4_hasSent 4 = .ok (.aload_n 0, 1) := by decide +kernel
theorem dX4_hasSent_5 : decode cX4_hasSent 5 = .ok (.getfield 63, 3) := by decide +kernel
theorem dX4_hasSent_8 : decode cX4_hasSent 8 = .ok (.iconst (-1), 1) := by decide +kernel
theorem dX4_hasSent_9 : decode cX4_hasSent 9 = .ok (.if_icmp .eq 19, 3) := by decide +kernel
theorem dX4_hasSent_12 : decode cX4_hasSent 12 = .ok (.aload_n 0, 1) := by decide +kernel
theorem dX4_hasSent_13 : decode cX4_hasSent 13 = .ok (.getfield 19, 3) := by decide +kernel
theorem dX4_hasSent_16 : decode cX4_hasSent 16 = .ok (.getfield 105, 3) := by decide +kernel
theorem dX4_hasSent_19 : decode cX4_hasSent 19 = .ok (.iload_n 1, 1) := by decide +kernel
theorem dX4_hasSent_20 : decode cX4_hasSent 20 = .ok (.baload, 1) := by decide +kernel
theorem dX4_hasSent_21 : decode cX4_hasSent 21 = .ok (.ifCond .eq 7, 3) := by decide +kernel
theorem dX4_hasSent_24 : decode cX4_hasSent 24 = .ok (.iconst 1, 1) := by decide +kernel
theorem dX4_hasSent_25 : decode cX4_hasSent 25 = .ok (.goto 4, 3) := by decide +kernel
theorem dX4_hasSent_28 : decode cX4_hasSent 28 = .ok (.iconst 0, 1) := by decide +kernel
theorem dX4_hasSent_29 : decode cX4_hasSent 29 = .ok (.ireturn, 1) := by decide +kernel
set_option maxRecDepth 20000 in
theorem ggX4_keptOffset_X4_requirePartition : GoodIn wsX4_keptOffset wsX4_requirePartition := goodIn_ca (goodIn_r _ [6, 7, 8] (by decide +kernel) (by decide +kernel)) (goodIn_sub (fun _ h => List.mem_cons_of_mem _ (List.mem_append_right _ h)) (by decide +kernel))
set_option maxRecDepth 20000 in
theorem gX4_keptOffset_X4_requirePartition : GoodIn wsX4_keptOffset (va_wsS RX4 69 yX4_requirePartition wsX4_requirePartition) := goodIn_app (goodIn_of _ (by decide +kernel)) ggX4_keptOffset_X4_requirePartition
theorem dX4_keptOffset_0 : decode cX4_keptOffset 0 = .ok (.iload_n 1, 1) := by decide +kernel
theorem dX4_keptOffset_1 : decode cX4_keptOffset 1 = .ok (.invokestatic 69, 3) := by decide +kernel
theorem dX4_keptOffset_4 : decode cX4_keptOffset 4 = .ok (.aload_n 0, 1) := by decide +kernel
theorem dX4_keptOffset_5 : decode cX4_keptOffset 5 = .ok (.getfield 19, 3) := by decide +kernel
theorem dX4_keptOffset_8 : decode cX4_keptOffset 8 = .ok (.getfield 209, 3) := by decide +kernel
theorem dX4_keptOffset_11 : decode cX4_keptOffset 11 = .ok (.iload_n 1, 1) := by decide +kernel
theorem dX4_keptOffset_12 : decode cX4_keptOffset 12 = .ok (.iaload, 1) := by decide +kernel
theorem dX4_keptOffset_13 : decode cX4_keptOffset 13 = .ok (.ireturn, 1) := by decide +kernel
set_option maxRecDepth 20000 in
theorem ggX4_keptSum_X4_requireKey : GoodIn wsX4_keptSum wsX4_requireKey := goodIn_ca (goodIn_r _ [6, 7, 8] (by decide +kernel) (by decide +kernel)) (goodIn_sub (fun _ h => List.mem_cons_of_mem _ (List.mem_append_right _ h)) (by decide +kernel))
set_option maxRecDepth 20000 in
theorem gX4_keptSum_X4_requireKey : GoodIn wsX4_keptSum (va_wsS RX4 73 yX4_requireKey wsX4_requireKey) := goodIn_app (goodIn_of _ (by decide +kernel)) ggX4_keptSum_X4_requireKey
theorem dX4_keptSum_0 : decode cX4_keptSum 0 = .ok (.iload_n 1, 1) := by decide +kernel
theorem dX4_keptSum_1 : decode cX4_keptSum 1 = .ok (.invokestatic 73, 3) := by decide +kernel
theorem dX4_keptSum_4 : decode cX4_keptSum 4 = .ok (.aload_n 0, 1) := by decide +kernel
theorem dX4_keptSum_5 : decode cX4_keptSum 5 = .ok (.getfield 46, 3) := by decide +kernel
theorem dX4_keptSum_8 : decode cX4_keptSum 8 = .ok (.getfield 206, 3) := by decide +kernel
theorem dX4_keptSum_11 : decode cX4_keptSum 11 = .ok (.iload_n 1, 1) := by decide +kernel
theorem dX4_keptSum_12 : decode cX4_keptSum 12 = .ok (.iaload, 1) := by decide +kernel
theorem dX4_keptSum_13 : decode cX4_keptSum 13 = .ok (.ireturn, 1) := by decide +kernel
set_option maxRecDepth 20000 in
theorem ggX4_committedCount_X4_requireKey : GoodIn wsX4_committedCount wsX4_requireKey := goodIn_ca (goodIn_r _ [6, 7, 8] (by decide +kernel) (by decide +kernel)) (goodIn_sub (fun _ h => List.mem_cons_of_mem _ (List.mem_append_right _ h)) (by decide +kernel))
set_option maxRecDepth 20000 in
theorem gX4_committedCount_X4_requireKey : GoodIn wsX4_committedCount (va_wsS RX4 73 yX4_requireKey wsX4_requireKey) := goodIn_app (goodIn_of _ (by decide +kernel)) ggX4_committedCount_X4_requireKey
theorem dX4_committedCount_0 : decode cX4_committedCount 0 = .ok (.iload_n 1, 1) := by decide +kernel
theorem dX4_committedCount_1 : decode cX4_committedCount 1 = .ok (.invokestatic 73, 3) := by decide +kernel
theorem dX4_committedCount_4 : decode cX4_committedCount 4 = .ok (.aload_n 0, 1) := by decide +kernel
theorem dX4_committedCount_5 : decode cX4_committedCount 5 = .ok (.getfield 49, 3) := by decide +kernel
theorem dX4_committedCount_8 : decode cX4_committedCount 8 = .ok (.getfield 203, 3) := by decide +kernel
theorem dX4_committedCount_11 : decode cX4_committedCount 11 = .ok (.iload_n 1, 1) := by decide +kernel
theorem dX4_committedCount_12 : decode cX4_committedCount 12 = .ok (.iaload, 1) := by decide +kernel
theorem dX4_committedCount_13 : decode cX4_committedCount 13 = .ok (.ireturn, 1) := by decide +kernel
set_option maxRecDepth 20000 in
theorem ggX4_committedSum_X4_requireKey : GoodIn wsX4_committedSum wsX4_requireKey := goodIn_ca (goodIn_r _ [6, 7, 8] (by decide +kernel) (by decide +kernel)) (goodIn_sub (fun _ h => List.mem_cons_of_mem _ (List.mem_append_right _ h)) (by decide +kernel))
set_option maxRecDepth 20000 in
theorem gX4_committedSum_X4_requireKey : GoodIn wsX4_committedSum (va_wsS RX4 73 yX4_requireKey wsX4_requireKey) := goodIn_app (goodIn_of _ (by decide +kernel)) ggX4_committedSum_X4_requireKey
theorem dX4_committedSum_0 : decode cX4_committedSum 0 = .ok (.iload_n 1, 1) := by decide +kernel
theorem dX4_committedSum_1 : decode cX4_committedSum 1 = .ok (.invokestatic 73, 3) := by decide +kernel
theorem dX4_committedSum_4 : decode cX4_committedSum 4 = .ok (.aload_n 0, 1) := by decide +kernel
theorem dX4_committedSum_5 : decode cX4_committedSum 5 = .ok (.getfield 49, 3) := by decide +kernel
theorem dX4_committedSum_8 : decode cX4_committedSum 8 = .ok (.getfield 206, 3) := by decide +kernel
theorem dX4_committedSum_11 : decode cX4_committedSum 11 = .ok (.iload_n 1, 1) := by decide +kernel
theorem dX4_committedSum_12 : decode cX4_committedSum 12 = .ok (.iaload, 1) := by decide +kernel
theorem dX4_committedSum_13 : decode cX4_committedSum 13 = .ok (.ireturn, 1) := by decide +kernel
theorem dX4_committed_0 : decode cX4_committed 0 = .ok (.iconst 0, 1) := by decide +kernel
theorem dX4_committed_1 : decode cX4_committed 1 = .ok (.istore_n 1, 1) := by decide +kernel
theorem dX4_committed_2 : decode cX4_committed 2 = .ok (.iconst 0, 1) := by decide +kernel
theorem dX4_committed_3 : decode cX4_committed 3 = .ok (.istore_n 2, 1) := by decide +kernel
theorem dX4_committed_4 : decode cX4_committed 4 = .ok (.iload_n 2, 1) := by decide +kernel
theorem dX4_committed_5 : decode cX4_committed 5 = .ok (.bipush 32, 2) := by decide +kernel
theorem dX4_committed_7 : decode cX4_committed 7 = .ok (.if_icmp .ge 21, 3) := by decide +kernel
theorem dX4_committed_10 : decode cX4_committed 10 = .ok (.iload_n 1, 1) := by decide +kernel
theorem dX4_committed_11 : decode cX4_committed 11 = .ok (.aload_n 0, 1) := by decide +kernel
theorem dX4_committed_12 : decode cX4_committed 12 = .ok (.getfield 49, 3) := by decide +kernel
theorem dX4_committed_15 : decode cX4_committed 15 = .ok (.getfield 203, 3) := by decide +kernel
theorem dX4_committed_18 : decode cX4_committed 18 = .ok (.iload_n 2, 1) := by decide +kernel
theorem dX4_committed_19 : decode cX4_committed 19 = .ok (.iaload, 1) := by decide +kernel
theorem dX4_committed_20 : decode cX4_committed 20 = .ok (.iadd, 1) := by decide +kernel
theorem dX4_committed_21 : decode cX4_committed 21 = .ok (.istore_n 1, 1) := by decide +kernel
theorem dX4_committed_22 : decode cX4_committed 22 = .ok (.iinc 2 1, 3) := by decide +kernel
theorem dX4_committed_25 : decode cX4_committed 25 = .ok (.goto (-21), 3) := by decide +kernel
theorem dX4_committed_28 : decode cX4_committed 28 = .ok (.iload_n 1, 1) := by decide +kernel
theorem dX4_committed_29 : decode cX4_committed 29 = .ok (.ireturn, 1) := by decide +kernel
set_option maxRecDepth 20000 in
theorem ggX4_readSum_X4_requireKey : GoodIn wsX4_readSum wsX4_requireKey := goodIn_ca (goodIn_r _ [7, 8, 9] (by decide +kernel) (by decide +kernel)) (goodIn_sub (fun _ h => List.mem_cons_of_mem _ (List.mem_append_right _ h)) (by decide +kernel))
set_option maxRecDepth 20000 in
theorem gX4_readSum_X4_requireKey : GoodIn wsX4_readSum (va_wsS RX4 73 yX4_requireKey wsX4_requireKey) := goodIn_app (goodIn_of _ (by decide +kernel)) ggX4_readSum_X4_requireKey
set_option maxRecDepth 20000 in
theorem ggX4_readSum_X1_sumAhead : GoodIn wsX4_readSum wsX1_sumAhead := goodIn_r _ [14, 15, 16, 17, 13, 18, 19, 20, 6, 21, 22, 23, 42, 43] (by decide +kernel) (by decide +kernel)
set_option maxRecDepth 20000 in
theorem gX4_readSum_X1_sumAhead : GoodIn wsX4_readSum (wsV RX4 211 RX1 yX1_sumAhead wsX1_sumAhead) := goodIn_app (goodIn_of _ (by decide +kernel)) ggX4_readSum_X1_sumAhead
theorem dX4_readSum_0 : decode cX4_readSum 0 = .ok (.iload_n 1, 1) := by decide +kernel
theorem dX4_readSum_1 : decode cX4_readSum 1 = .ok (.invokestatic 73, 3) := by decide +kernel
theorem dX4_readSum_4 : decode cX4_readSum 4 = .ok (.iconst 0, 1) := by decide +kernel
theorem dX4_readSum_5 : decode cX4_readSum 5 = .ok (.istore_n 2, 1) := by decide +kernel
theorem dX4_readSum_6 : decode cX4_readSum 6 = .ok (.iconst 0, 1) := by decide +kernel
theorem dX4_readSum_7 : decode cX4_readSum 7 = .ok (.istore_n 3, 1) := by decide +kernel
theorem dX4_readSum_8 : decode cX4_readSum 8 = .ok (.iload_n 3, 1) := by decide +kernel
theorem dX4_readSum_9 : decode cX4_readSum 9 = .ok (.iconst 4, 1) := by decide +kernel
theorem dX4_readSum_10 : decode cX4_readSum 10 = .ok (.if_icmp .ge 30, 3) := by decide +kernel
theorem dX4_readSum_13 : decode cX4_readSum 13 = .ok (.iload_n 2, 1) := by decide +kernel
theorem dX4_readSum_14 : decode cX4_readSum 14 = .ok (.aload_n 0, 1) := by decide +kernel
theorem dX4_readSum_15 : decode cX4_readSum 15 = .ok (.getfield 10, 3) := by decide +kernel
theorem dX4_readSum_18 : decode cX4_readSum 18 = .ok (.iload_n 3, 1) := by decide +kernel
theorem dX4_readSum_19 : decode cX4_readSum 19 = .ok (.aload_n 0, 1) := by decide +kernel
theorem dX4_readSum_20 : decode cX4_readSum 20 = .ok (.getfield 19, 3) := by decide +kernel
theorem dX4_readSum_23 : decode cX4_readSum 23 = .ok (.getfield 178, 3) := by decide +kernel
theorem dX4_readSum_26 : decode cX4_readSum 26 = .ok (.iload_n 3, 1) := by decide +kernel
theorem dX4_readSum_27 : decode cX4_readSum 27 = .ok (.iaload, 1) := by decide +kernel
theorem dX4_readSum_28 : decode cX4_readSum 28 = .ok (.iload_n 1, 1) := by decide +kernel
theorem dX4_readSum_29 : decode cX4_readSum 29 = .ok (.invokevirtual 211, 3) := by decide +kernel
theorem dX4_readSum_32 : decode cX4_readSum 32 = .ok (.iadd, 1) := by decide +kernel
theorem dX4_readSum_33 : decode cX4_readSum 33 = .ok (.istore_n 2, 1) := by decide +kernel
theorem dX4_readSum_34 : decode cX4_readSum 34 = .ok (.iinc 3 1, 3) := by decide +kernel
theorem dX4_readSum_37 : decode cX4_readSum 37 = .ok (.goto (-29), 3) := by decide +kernel
theorem dX4_readSum_40 : decode cX4_readSum 40 = .ok (.iload_n 2, 1) := by decide +kernel
theorem dX4_readSum_41 : decode cX4_readSum 41 = .ok (.ireturn, 1) := by decide +kernel
set_option maxRecDepth 20000 in
theorem ggX4_sumInChannels_X4_requireKey : GoodIn wsX4_sumInChannels wsX4_requireKey := goodIn_ca (goodIn_r _ [5, 6, 7] (by decide +kernel) (by decide +kernel)) (goodIn_sub (fun _ h => List.mem_cons_of_mem _ (List.mem_append_right _ h)) (by decide +kernel))
set_option maxRecDepth 20000 in
theorem gX4_sumInChannels_X4_requireKey : GoodIn wsX4_sumInChannels (va_wsS RX4 73 yX4_requireKey wsX4_requireKey) := goodIn_app (goodIn_of _ (by decide +kernel)) ggX4_sumInChannels_X4_requireKey
set_option maxRecDepth 20000 in
theorem ggX4_sumInChannels_X0_sumOfKey : GoodIn wsX4_sumInChannels wsX0_sumOfKey := goodIn_r _ [12, 13, 14, 15, 4, 16, 17, 18, 33, 34, 35] (by decide +kernel) (by decide +kernel)
set_option maxRecDepth 20000 in
theorem gX4_sumInChannels_X0_sumOfKey : GoodIn wsX4_sumInChannels (wsV RX4 214 RX0 yX0_sumOfKey wsX0_sumOfKey) := goodIn_app (goodIn_of _ (by decide +kernel)) ggX4_sumInChannels_X0_sumOfKey
theorem dX4_sumInChannels_0 : decode cX4_sumInChannels 0 = .ok (.iload_n 1, 1) := by decide +kernel
theorem dX4_sumInChannels_1 : decode cX4_sumInChannels 1 = .ok (.invokestatic 73, 3) := by decide +kernel
theorem dX4_sumInChannels_4 : decode cX4_sumInChannels 4 = .ok (.aload_n 0, 1) := by decide +kernel
theorem dX4_sumInChannels_5 : decode cX4_sumInChannels 5 = .ok (.getfield 26, 3) := by decide +kernel
theorem dX4_sumInChannels_8 : decode cX4_sumInChannels 8 = .ok (.iload_n 1, 1) := by decide +kernel
theorem dX4_sumInChannels_9 : decode cX4_sumInChannels 9 = .ok (.invokevirtual 214, 3) := by decide +kernel
theorem dX4_sumInChannels_12 : decode cX4_sumInChannels 12 = .ok (.ireturn, 1) := by decide +kernel
theorem dX4_requirePartition_0 : decode cX4_requirePartition 0 = .ok (.iload_n 0, 1) := by decide +kernel
theorem dX4_requirePartition_1 : decode cX4_requirePartition 1 = .ok (.ifCond .lt 8, 3) := by decide +kernel
theorem dX4_requirePartition_4 : decode cX4_requirePartition 4 = .ok (.iload_n 0, 1) := by decide +kernel
theorem dX4_requirePartition_5 : decode cX4_requirePartition 5 = .ok (.iconst 4, 1) := by decide +kernel
theorem dX4_requirePartition_6 : decode cX4_requirePartition 6 = .ok (.if_icmp .lt 13, 3) := by decide +kernel
theorem dX4_requirePartition_9 : decode cX4_requirePartition 9 = .ok (.new 181, 3) := by decide +kernel
theorem dX4_requirePartition_12 : decode cX4_requirePartition 12 = .ok (.dup, 1) := by decide +kernel
theorem dX4_requirePartition_13 : decode cX4_requirePartition 13 = .ok (.ldc 217, 2) := by decide +kernel
theorem dX4_requirePartition_15 : decode cX4_requirePartition 15 = .ok (.invokespecial 185, 3) := by decide +kernel
theorem dX4_requirePartition_18 : decode cX4_requirePartition 18 = .ok (.athrow, 1) := by decide +kernel
theorem dX4_requirePartition_19 : decode cX4_requirePartition 19 = .ok (.return_, 1) := by decide +kernel
theorem dX4_requireKey_0 : decode cX4_requireKey 0 = .ok (.iload_n 0, 1) := by decide +kernel
theorem dX4_requireKey_1 : decode cX4_requireKey 1 = .ok (.ifCond .lt 9, 3) := by decide +kernel
theorem dX4_requireKey_4 : decode cX4_requireKey 4 = .ok (.iload_n 0, 1) := by decide +kernel
theorem dX4_requireKey_5 : decode cX4_requireKey 5 = .ok (.bipush 32, 2) := by decide +kernel
theorem dX4_requireKey_7 : decode cX4_requireKey 7 = .ok (.if_icmp .lt 13, 3) := by decide +kernel
theorem dX4_requireKey_10 : decode cX4_requireKey 10 = .ok (.new 181, 3) := by decide +kernel
theorem dX4_requireKey_13 : decode cX4_requireKey 13 = .ok (.dup, 1) := by decide +kernel
theorem dX4_requireKey_14 : decode cX4_requireKey 14 = .ok (.ldc 219, 2) := by decide +kernel
theorem dX4_requireKey_16 : decode cX4_requireKey 16 = .ok (.invokespecial 185, 3) := by decide +kernel
theorem dX4_requireKey_19 : decode cX4_requireKey 19 = .ok (.athrow, 1) := by decide +kernel
theorem dX4_requireKey_20 : decode cX4_requireKey 20 = .ok (.return_, 1) := by decide +kernel
theorem dX4_requireWorker_0 : decode cX4_requireWorker 0 = .ok (.iload_n 1, 1) := by decide +kernel
theorem dX4_requireWorker_1 : decode cX4_requireWorker 1 = .ok (.ifCond .lt 11, 3) := by decide +kernel
theorem dX4_requireWorker_4 : decode cX4_requireWorker 4 = .ok (.iload_n 1, 1) := by decide +kernel
theorem dX4_requireWorker_5 : decode cX4_requireWorker 5 = .ok (.aload_n 0, 1) := by decide +kernel
theorem dX4_requireWorker_6 : decode cX4_requireWorker 6 = .ok (.getfield 56, 3) := by decide +kernel
theorem dX4_requireWorker_9 : decode cX4_requireWorker 9 = .ok (.if_icmp .lt 13, 3) := by decide +kernel
theorem dX4_requireWorker_12 : decode cX4_requireWorker 12 = .ok (.new 181, 3) := by decide +kernel
theorem dX4_requireWorker_15 : decode cX4_requireWorker 15 = .ok (.dup, 1) := by decide +kernel
theorem dX4_requireWorker_16 : decode cX4_requireWorker 16 = .ok (.ldc 221, 2) := by decide +kernel
theorem dX4_requireWorker_18 : decode cX4_requireWorker 18 = .ok (.invokespecial 185, 3) := by decide +kernel
theorem dX4_requireWorker_21 : decode cX4_requireWorker 21 = .ok (.athrow, 1) := by decide +kernel
theorem dX4_requireWorker_22 : decode cX4_requireWorker 22 = .ok (.return_, 1) := by decide +kernel
theorem dX4_keyOf_0 : decode cX4_keyOf 0 = .ok (.iload_n 0, 1) := by decide +kernel
theorem dX4_keyOf_1 : decode cX4_keyOf 1 = .ok (.sipush 1000, 3) := by decide +kernel
theorem dX4_keyOf_4 : decode cX4_keyOf 4 = .ok (.idiv, 1) := by decide +kernel
theorem dX4_keyOf_5 : decode cX4_keyOf 5 = .ok (.ireturn, 1) := by decide +kernel
theorem dX4_valueOf_0 : decode cX4_valueOf 0 = .ok (.iload_n 0, 1) := by decide +kernel
theorem dX4_valueOf_1 : decode cX4_valueOf 1 = .ok (.sipush 1000, 3) := by decide +kernel
theorem dX4_valueOf_4 : decode cX4_valueOf 4 = .ok (.irem, 1) := by decide +kernel
theorem dX4_valueOf_5 : decode cX4_valueOf 5 = .ok (.ireturn, 1) := by decide +kernel
theorem dX4_ownerOfGroup_0 : decode cX4_ownerOfGroup 0 = .ok (.iload_n 0, 1) := by decide +kernel
theorem dX4_ownerOfGroup_1 : decode cX4_ownerOfGroup 1 = .ok (.iload_n 1, 1) := by decide +kernel
theorem dX4_ownerOfGroup_2 : decode cX4_ownerOfGroup 2 = .ok (.imul, 1) := by decide +kernel
theorem dX4_ownerOfGroup_3 : decode cX4_ownerOfGroup 3 = .ok (.bipush 8, 2) := by decide +kernel
theorem dX4_ownerOfGroup_5 : decode cX4_ownerOfGroup 5 = .ok (.idiv, 1) := by decide +kernel
theorem dX4_ownerOfGroup_6 : decode cX4_ownerOfGroup 6 = .ok (.ireturn, 1) := by decide +kernel
set_option maxRecDepth 20000 in
theorem ggX4_ownerOfKey_X4_ownerOfGroup : GoodIn wsX4_ownerOfKey wsX4_ownerOfGroup := goodIn_r _ [5] (by decide +kernel) (by decide +kernel)
set_option maxRecDepth 20000 in
theorem gX4_ownerOfKey_X4_ownerOfGroup : GoodIn wsX4_ownerOfKey (va_wsS RX4 175 yX4_ownerOfGroup wsX4_ownerOfGroup) := goodIn_app (goodIn_of _ (by decide +kernel)) ggX4_ownerOfKey_X4_ownerOfGroup
theorem dX4_ownerOfKey_0 : decode cX4_ownerOfKey 0 = .ok (.iload_n 1, 1) := by decide +kernel
theorem dX4_ownerOfKey_1 : decode cX4_ownerOfKey 1 = .ok (.bipush 8, 2) := by decide +kernel
theorem dX4_ownerOfKey_3 : decode cX4_ownerOfKey 3 = .ok (.irem, 1) := by decide +kernel
theorem dX4_ownerOfKey_4 : decode cX4_ownerOfKey 4 = .ok (.aload_n 0, 1) := by decide +kernel
theorem dX4_ownerOfKey_5 : decode cX4_ownerOfKey 5 = .ok (.getfield 56, 3) := by decide +kernel
theorem dX4_ownerOfKey_8 : decode cX4_ownerOfKey 8 = .ok (.invokestatic 175, 3) := by decide +kernel
theorem dX4_ownerOfKey_11 : decode cX4_ownerOfKey 11 = .ok (.ireturn, 1) := by decide +kernel
set_option maxRecDepth 20000 in
theorem ggX4_canReadFrom_X1_get : GoodIn wsX4_canReadFrom wsX1_get := goodIn_r _ [10, 11, 55, 56] (by decide +kernel) (by decide +kernel)
set_option maxRecDepth 20000 in
theorem gX4_canReadFrom_X1_get : GoodIn wsX4_canReadFrom (wsV RX4 186 RX1 yX1_get wsX1_get) := goodIn_app (goodIn_of _ (by decide +kernel)) ggX4_canReadFrom_X1_get
set_option maxRecDepth 20000 in
theorem ggX4_canReadFrom_X4_keyOf : GoodIn wsX4_canReadFrom wsX4_keyOf := goodIn_r _ [15] (by decide +kernel) (by decide +kernel)
set_option maxRecDepth 20000 in
theorem gX4_canReadFrom_X4_keyOf : GoodIn wsX4_canReadFrom (va_wsS RX4 223 yX4_keyOf wsX4_keyOf) := goodIn_app (goodIn_of _ (by decide +kernel)) ggX4_canReadFrom_X4_keyOf
set_option maxRecDepth 20000 in
theorem ggX4_canReadFrom_X4_ownerOfKey : GoodIn wsX4_canReadFrom wsX4_ownerOfKey := goodIn_r _ [19, 20, 21, 22, 14, 23, 37, 38, 39, 40, 41, 42, 43, 44, 45, 46, 47, 48, 49, 50] (by decide +kernel) (by decide +kernel)
set_option maxRecDepth 20000 in
theorem gX4_canReadFrom_X4_ownerOfKey : GoodIn wsX4_canReadFrom (wsV RX4 200 RX4 yX4_ownerOfKey wsX4_ownerOfKey) := goodIn_app (goodIn_of _ (by decide +kernel)) ggX4_canReadFrom_X4_ownerOfKey
set_option maxRecDepth 20000 in
theorem ggX4_canReadFrom_X0_hasRoom : GoodIn wsX4_canReadFrom wsX0_hasRoom := goodIn_r _ [28, 29, 30, 31, 27, 32, 33, 34, 35, 36, 57, 58, 59] (by decide +kernel) (by decide +kernel)
set_option maxRecDepth 20000 in
theorem gX4_canReadFrom_X0_hasRoom : GoodIn wsX4_canReadFrom (wsV RX4 226 RX0 yX0_hasRoom wsX0_hasRoom) := goodIn_app (goodIn_of _ (by decide +kernel)) ggX4_canReadFrom_X0_hasRoom
theorem dX4_canReadFrom_0 : decode cX4_canReadFrom 0 = .ok (.aload_n 0, 1) := by decide +kernel
theorem dX4_canReadFrom_1 : decode cX4_canReadFrom 1 = .ok (.getfield 19, 3) := by decide +kernel
theorem dX4_canReadFrom_4 : decode cX4_canReadFrom 4 = .ok (.getfield 178, 3) := by decide +kernel
theorem dX4_canReadFrom_7 : decode cX4_canReadFrom 7 = .ok (.iload_n 1, 1) := by decide +kernel
theorem dX4_canReadFrom_8 : decode cX4_canReadFrom 8 = .ok (.iaload, 1) := by decide +kernel
theorem dX4_canReadFrom_9 : decode cX4_canReadFrom 9 = .ok (.istore_n 2, 1) := by decide +kernel
theorem dX4_canReadFrom_10 : decode cX4_canReadFrom 10 = .ok (.iload_n 2, 1) := by decide +kernel
theorem dX4_canReadFrom_11 : decode cX4_canReadFrom 11 = .ok (.aload_n 0, 1) := by decide +kernel
theorem dX4_canReadFrom_12 : decode cX4_canReadFrom 12 = .ok (.getfield 10, 3) := by decide +kernel
theorem dX4_canReadFrom_15 : decode cX4_canReadFrom 15 = .ok (.getfield 83, 3) := by decide +kernel
theorem dX4_canReadFrom_18 : decode cX4_canReadFrom 18 = .ok (.iload_n 1, 1) := by decide +kernel
theorem dX4_canReadFrom_19 : decode cX4_canReadFrom 19 = .ok (.iaload, 1) := by decide +kernel
theorem dX4_canReadFrom_20 : decode cX4_canReadFrom 20 = .ok (.if_icmp .lt 5, 3) := by decide +kernel
theorem dX4_canReadFrom_23 : decode cX4_canReadFrom 23 = .ok (.iconst 0, 1) := by decide +kernel
theorem dX4_canReadFrom_24 : decode cX4_canReadFrom 24 = .ok (.ireturn, 1) := by decide +kernel
theorem dX4_canReadFrom_25 : decode cX4_canReadFrom 25 = .ok (.aload_n 0, 1) := by decide +kernel
theorem dX4_canReadFrom_26 : decode cX4_canReadFrom 26 = .ok (.getfield 10, 3) := by decide +kernel
theorem dX4_canReadFrom_29 : decode cX4_canReadFrom 29 = .ok (.iload_n 1, 1) := by decide +kernel
theorem dX4_canReadFrom_30 : decode cX4_canReadFrom 30 = .ok (.iload_n 2, 1) := by decide +kernel
theorem dX4_canReadFrom_31 : decode cX4_canReadFrom 31 = .ok (.invokevirtual 186, 3) := by decide +kernel
theorem dX4_canReadFrom_34 : decode cX4_canReadFrom 34 = .ok (.istore_n 3, 1) := by decide +kernel
theorem dX4_canReadFrom_35 : decode cX4_canReadFrom 35 = .ok (.aload_n 0, 1) := by decide +kernel
theorem dX4_canReadFrom_36 : decode cX4_canReadFrom 36 = .ok (.getfield 26, 3) := by decide +kernel
theorem dX4_canReadFrom_39 : decode cX4_canReadFrom 39 = .ok (.iload_n 1, 1) := by decide +kernel
theorem dX4_canReadFrom_40 : decode cX4_canReadFrom 40 = .ok (.aload_n 0, 1) := by decide +kernel
theorem dX4_canReadFrom_41 : decode cX4_canReadFrom 41 = .ok (.iload_n 3, 1) := by decide +kernel
theorem dX4_canReadFrom_42 : decode cX4_canReadFrom 42 = .ok (.invokestatic 223, 3) := by decide +kernel
theorem dX4_canReadFrom_45 : decode cX4_canReadFrom 45 = .ok (.invokevirtual 200, 3) := by decide +kernel
theorem dX4_canReadFrom_48 : decode cX4_canReadFrom 48 = .ok (.invokevirtual 226, 3) := by decide +kernel
theorem dX4_canReadFrom_51 : decode cX4_canReadFrom 51 = .ok (.ireturn, 1) := by decide +kernel
set_option maxRecDepth 20000 in
theorem ggX4_readFrom_X1_get : GoodIn wsX4_readFrom wsX1_get := goodIn_r _ [9, 10, 51, 52] (by decide +kernel) (by decide +kernel)
set_option maxRecDepth 20000 in
theorem gX4_readFrom_X1_get : GoodIn wsX4_readFrom (wsV RX4 186 RX1 yX1_get wsX1_get) := goodIn_app (goodIn_of _ (by decide +kernel)) ggX4_readFrom_X1_get
set_option maxRecDepth 20000 in
theorem ggX4_readFrom_X4_keyOf : GoodIn wsX4_readFrom wsX4_keyOf := goodIn_r _ [14] (by decide +kernel) (by decide +kernel)
set_option maxRecDepth 20000 in
theorem gX4_readFrom_X4_keyOf : GoodIn wsX4_readFrom (va_wsS RX4 223 yX4_keyOf wsX4_keyOf) := goodIn_app (goodIn_of _ (by decide +kernel)) ggX4_readFrom_X4_keyOf
set_option maxRecDepth 20000 in
theorem ggX4_readFrom_X4_ownerOfKey : GoodIn wsX4_readFrom wsX4_ownerOfKey := goodIn_r _ [18, 19, 20, 21, 13, 22, 33, 34, 35, 36, 37, 38, 39, 40, 41, 42, 43, 44, 45, 46] (by decide +kernel) (by decide +kernel)
set_option maxRecDepth 20000 in
theorem gX4_readFrom_X4_ownerOfKey : GoodIn wsX4_readFrom (wsV RX4 200 RX4 yX4_ownerOfKey wsX4_ownerOfKey) := goodIn_app (goodIn_of _ (by decide +kernel)) ggX4_readFrom_X4_ownerOfKey
set_option maxRecDepth 20000 in
theorem ggX4_readFrom_X0_put : GoodIn wsX4_readFrom wsX0_put := goodIn_r _ [27, 28, 29, 30, 31, 26, 32, 53, 54, 55] (by decide +kernel) (by decide +kernel)
set_option maxRecDepth 20000 in
theorem gX4_readFrom_X0_put : GoodIn wsX4_readFrom (wsV RX4 116 RX0 yX0_put wsX0_put) := goodIn_app (goodIn_of _ (by decide +kernel)) ggX4_readFrom_X0_put
theorem dX4_readFrom_0 : decode cX4_readFrom 0 = .ok (.aload_n 0, 1) := by decide +kernel
theorem dX4_readFrom_1 : decode cX4_readFrom 1 = .ok (.getfield 10, 3) := by decide +kernel
theorem dX4_readFrom_4 : decode cX4_readFrom 4 = .ok (.iload_n 1, 1) := by decide +kernel
theorem dX4_readFrom_5 : decode cX4_readFrom 5 = .ok (.aload_n 0, 1) := by decide +kernel
theorem dX4_readFrom_6 : decode cX4_readFrom 6 = .ok (.getfield 19, 3) := by decide +kernel
theorem dX4_readFrom_9 : decode cX4_readFrom 9 = .ok (.getfield 178, 3) := by decide +kernel
theorem dX4_readFrom_12 : decode cX4_readFrom 12 = .ok (.iload_n 1, 1) := by decide +kernel
theorem dX4_readFrom_13 : decode cX4_readFrom 13 = .ok (.iaload, 1) := by decide +kernel
theorem dX4_readFrom_14 : decode cX4_readFrom 14 = .ok (.invokevirtual 186, 3) := by decide +kernel
theorem dX4_readFrom_17 : decode cX4_readFrom 17 = .ok (.istore_n 2, 1) := by decide +kernel
theorem dX4_readFrom_18 : decode cX4_readFrom 18 = .ok (.aload_n 0, 1) := by decide +kernel
theorem dX4_readFrom_19 : decode cX4_readFrom 19 = .ok (.iload_n 2, 1) := by decide +kernel
theorem dX4_readFrom_20 : decode cX4_readFrom 20 = .ok (.invokestatic 223, 3) := by decide +kernel
theorem dX4_readFrom_23 : decode cX4_readFrom 23 = .ok (.invokevirtual 200, 3) := by decide +kernel
theorem dX4_readFrom_26 : decode cX4_readFrom 26 = .ok (.istore_n 3, 1) := by decide +kernel
theorem dX4_readFrom_27 : decode cX4_readFrom 27 = .ok (.aload_n 0, 1) := by decide +kernel
theorem dX4_readFrom_28 : decode cX4_readFrom 28 = .ok (.getfield 26, 3) := by decide +kernel
theorem dX4_readFrom_31 : decode cX4_readFrom 31 = .ok (.iload_n 1, 1) := by decide +kernel
theorem dX4_readFrom_32 : decode cX4_readFrom 32 = .ok (.iload_n 3, 1) := by decide +kernel
theorem dX4_readFrom_33 : decode cX4_readFrom 33 = .ok (.iload_n 2, 1) := by decide +kernel
theorem dX4_readFrom_34 : decode cX4_readFrom 34 = .ok (.invokevirtual 116, 3) := by decide +kernel
theorem dX4_readFrom_37 : decode cX4_readFrom 37 = .ok (.aload_n 0, 1) := by decide +kernel
theorem dX4_readFrom_38 : decode cX4_readFrom 38 = .ok (.getfield 19, 3) := by decide +kernel
theorem dX4_readFrom_41 : decode cX4_readFrom 41 = .ok (.getfield 178, 3) := by decide +kernel
theorem dX4_readFrom_44 : decode cX4_readFrom 44 = .ok (.iload_n 1, 1) := by decide +kernel
theorem dX4_readFrom_45 : decode cX4_readFrom 45 = .ok (.dup2, 1) := by decide +kernel
theorem dX4_readFrom_46 : decode cX4_readFrom 46 = .ok (.iaload, 1) := by decide +kernel
theorem dX4_readFrom_47 : decode cX4_readFrom 47 = .ok (.iconst 1, 1) := by decide +kernel
theorem dX4_readFrom_48 : decode cX4_readFrom 48 = .ok (.iadd, 1) := by decide +kernel
theorem dX4_readFrom_49 : decode cX4_readFrom 49 = .ok (.iastore, 1) := by decide +kernel
theorem dX4_readFrom_50 : decode cX4_readFrom 50 = .ok (.iload_n 3, 1) := by decide +kernel
theorem dX4_readFrom_51 : decode cX4_readFrom 51 = .ok (.ireturn, 1) := by decide +kernel
set_option maxRecDepth 20000 in
theorem ggX4_hasRoomInAllChannels_X0_hasRoom : GoodIn wsX4_hasRoomInAllChannels wsX0_hasRoom := goodIn_r _ [7, 8, 9, 10, 6, 11, 12, 13, 14, 15, 30, 31, 32] (by decide +kernel) (by decide +kernel)
set_option maxRecDepth 20000 in
theorem gX4_hasRoomInAllChannels_X0_hasRoom : GoodIn wsX4_hasRoomInAllChannels (wsV RX4 226 RX0 yX0_hasRoom wsX0_hasRoom) := goodIn_app (goodIn_of _ (by decide +kernel)) ggX4_hasRoomInAllChannels_X0_hasRoom
theorem dX4_hasRoomInAllChannels_0 : decode cX4_hasRoomInAllChannels 0 = .ok (.iconst 0, 1) := by decide +kernel
theorem dX4_hasRoomInAllChannels_1 : decode cX4_hasRoomInAllChannels 1 = .ok (.istore_n 2, 1) := by decide +kernel
theorem dX4_hasRoomInAllChannels_2 : decode cX4_hasRoomInAllChannels 2 = .ok (.iload_n 2, 1) := by decide +kernel
theorem dX4_hasRoomInAllChannels_3 : decode cX4_hasRoomInAllChannels 3 = .ok (.aload_n 0, 1) := by decide +kernel
theorem dX4_hasRoomInAllChannels_4 : decode cX4_hasRoomInAllChannels 4 = .ok (.getfield 56, 3) := by decide +kernel
theorem dX4_hasRoomInAllChannels_7 : decode cX4_hasRoomInAllChannels 7 = .ok (.if_icmp .ge 23, 3) := by decide +kernel
theorem dX4_hasRoomInAllChannels_10 : decode cX4_hasRoomInAllChannels 10 = .ok (.aload_n 0, 1) := by decide +kernel
theorem dX4_hasRoomInAllChannels_11 : decode cX4_hasRoomInAllChannels 11 = .ok (.getfield 26, 3) := by decide +kernel
theorem dX4_hasRoomInAllChannels_14 : decode cX4_hasRoomInAllChannels 14 = .ok (.iload_n 1, 1) := by decide +kernel
theorem dX4_hasRoomInAllChannels_15 : decode cX4_hasRoomInAllChannels 15 = .ok (.iload_n 2, 1) := by decide +kernel
theorem dX4_hasRoomInAllChannels_16 : decode cX4_hasRoomInAllChannels 16 = .ok (.invokevirtual 226, 3) := by decide +kernel
theorem dX4_hasRoomInAllChannels_19 : decode cX4_hasRoomInAllChannels 19 = .ok (.ifCond .ne 5, 3) := by decide +kernel
theorem dX4_hasRoomInAllChannels_22 : decode cX4_hasRoomInAllChannels 22 = .ok (.iconst 0, 1) := by decide +kernel
theorem dX4_hasRoomInAllChannels_23 : decode cX4_hasRoomInAllChannels 23 = .ok (.ireturn, 1) := by decide +kernel
theorem dX4_hasRoomInAllChannels_24 : decode cX4_hasRoomInAllChannels 24 = .ok (.iinc 2 1, 3) := by decide +kernel
theorem dX4_hasRoomInAllChannels_27 : decode cX4_hasRoomInAllChannels 27 = .ok (.goto (-25), 3) := by decide +kernel
theorem dX4_hasRoomInAllChannels_30 : decode cX4_hasRoomInAllChannels 30 = .ok (.iconst 1, 1) := by decide +kernel
theorem dX4_hasRoomInAllChannels_31 : decode cX4_hasRoomInAllChannels 31 = .ok (.ireturn, 1) := by decide +kernel
set_option maxRecDepth 20000 in
theorem ggX4_takeFrom_X0_removeFirst : GoodIn wsX4_takeFrom wsX0_removeFirst := goodIn_r _ [7, 8, 9, 10, 11, 6, 12, 119, 120, 121] (by decide +kernel) (by decide +kernel)
set_option maxRecDepth 20000 in
theorem gX4_takeFrom_X0_removeFirst : GoodIn wsX4_takeFrom (wsV RX4 229 RX0 yX0_removeFirst wsX0_removeFirst) := goodIn_app (goodIn_of _ (by decide +kernel)) ggX4_takeFrom_X0_removeFirst
set_option maxRecDepth 20000 in
theorem ggX4_takeFrom_X4_keyOf : GoodIn wsX4_takeFrom wsX4_keyOf := goodIn_r _ [16] (by decide +kernel) (by decide +kernel)
set_option maxRecDepth 20000 in
theorem gX4_takeFrom_X4_keyOf : GoodIn wsX4_takeFrom (va_wsS RX4 223 yX4_keyOf wsX4_keyOf) := goodIn_app (goodIn_of _ (by decide +kernel)) ggX4_takeFrom_X4_keyOf
set_option maxRecDepth 20000 in
theorem ggX4_takeFrom_X4_valueOf : GoodIn wsX4_takeFrom wsX4_valueOf := goodIn_r _ [19] (by decide +kernel) (by decide +kernel)
set_option maxRecDepth 20000 in
theorem gX4_takeFrom_X4_valueOf : GoodIn wsX4_takeFrom (va_wsS RX4 232 yX4_valueOf wsX4_valueOf) := goodIn_app (goodIn_of _ (by decide +kernel)) ggX4_takeFrom_X4_valueOf
set_option maxRecDepth 20000 in
theorem ggX4_takeFrom_X4_takeEvent : GoodIn wsX4_takeFrom wsX4_takeEvent := goodIn_r _ [23, 24, 25, 26, 27, 28, 29, 30, 31, 32, 33, 105, 106, 107, 108, 109, 110, 111, 112, 113, 114, 115, 116, 117, 118, 122, 123] (by decide +kernel) (by decide +kernel)
set_option maxRecDepth 20000 in
theorem gX4_takeFrom_X4_takeEvent : GoodIn wsX4_takeFrom (wsV RX4 235 RX4 yX4_takeEvent wsX4_takeEvent) := goodIn_app (goodIn_of _ (by decide +kernel)) ggX4_takeFrom_X4_takeEvent
set_option maxRecDepth 20000 in
theorem ggX4_takeFrom_X4_takeBarrier : GoodIn wsX4_takeFrom wsX4_takeBarrier := goodIn_r _ [37, 1, 38, 39, 40, 6, 41, 42, 10, 11, 12, 43, 44, 45, 46, 47, 48, 49, 50, 51, 52, 53, 15, 54, 55, 24, 25, 56, 57, 2, 58, 59, 60, 61, 62, 63, 64, 65, 66, 67, 68, 30, 69, 32, 33, 70, 71, 72, 73, 26, 74, 27, 28, 29, 31, 75, 76, 77, 78, 79, 80, 81, 82, 83, 84, 85, 86, 87, 88, 89, 90, 91, 92, 93, 94, 95, 96, 97, 98, 99, 100, 101, 102, 103, 104, 105, 106, 107, 108, 109, 110, 111, 112, 113, 114, 115, 116, 117, 118, 119, 120, 121, 122, 123, 124, 125, 126, 127] (by decide +kernel) (by decide +kernel)
set_option maxRecDepth 20000 in
theorem gX4_takeFrom_X4_takeBarrier : GoodIn wsX4_takeFrom (wsV RX4 238 RX4 yX4_takeBarrier wsX4_takeBarrier) := goodIn_app (goodIn_of _ (by decide +kernel)) ggX4_takeFrom_X4_takeBarrier
theorem dX4_takeFrom_0 : decode cX4_takeFrom 0 = .ok (.aload_n 0, 1) := by decide +kernel
theorem dX4_takeFrom_1 : decode cX4_takeFrom 1 = .ok (.getfield 26, 3) := by decide +kernel
theorem dX4_takeFrom_4 : decode cX4_takeFrom 4 = .ok (.iload_n 1, 1) := by decide +kernel
theorem dX4_takeFrom_5 : decode cX4_takeFrom 5 = .ok (.iload_n 2, 1) := by decide +kernel
theorem dX4_takeFrom_6 : decode cX4_takeFrom 6 = .ok (.invokevirtual 229, 3) := by decide +kernel
theorem dX4_takeFrom_9 : decode cX4_takeFrom 9 = .ok (.istore_n 3, 1) := by decide +kernel
theorem dX4_takeFrom_10 : decode cX4_takeFrom 10 = .ok (.iload_n 3, 1) := by decide +kernel
theorem dX4_takeFrom_11 : decode cX4_takeFrom 11 = .ok (.ifCond .le 16, 3) := by decide +kernel
theorem dX4_takeFrom_14 : decode cX4_takeFrom 14 = .ok (.aload_n 0, 1) := by decide +kernel
theorem dX4_takeFrom_15 : decode cX4_takeFrom 15 = .ok (.iload_n 3, 1) := by decide +kernel
theorem dX4_takeFrom_16 : decode cX4_takeFrom 16 = .ok (.invokestatic 223, 3) := by decide +kernel
theorem dX4_takeFrom_19 : decode cX4_takeFrom 19 = .ok (.iload_n 3, 1) := by decide +kernel
theorem dX4_takeFrom_20 : decode cX4_takeFrom 20 = .ok (.invokestatic 232, 3) := by decide +kernel
theorem dX4_takeFrom_23 : decode cX4_takeFrom 23 = .ok (.invokevirtual 235, 3) := by decide +kernel
theorem dX4_takeFrom_26 : decode cX4_takeFrom 26 = .ok (.ireturn, 1) := by decide +kernel
theorem dX4_takeFrom_27 : decode cX4_takeFrom 27 = .ok (.iload_n 3, 1) := by decide +kernel
theorem dX4_takeFrom_28 : decode cX4_takeFrom 28 = .ok (.ineg, 1) := by decide +kernel
theorem dX4_takeFrom_29 : decode cX4_takeFrom 29 = .ok (.aload_n 0, 1) := by decide +kernel
theorem dX4_takeFrom_30 : decode cX4_takeFrom 30 = .ok (.getfield 63, 3) := by decide +kernel
theorem dX4_takeFrom_33 : decode cX4_takeFrom 33 = .ok (.if_icmp .ne 9, 3) := by decide +kernel
theorem dX4_takeFrom_36 : decode cX4_takeFrom 36 = .ok (.aload_n 0, 1) := by decide +kernel
theorem dX4_takeFrom_37 : decode cX4_takeFrom 37 = .ok (.iload_n 1, 1) := by decide +kernel
theorem dX4_takeFrom_38 : decode cX4_takeFrom 38 = .ok (.iload_n 2, 1) := by decide +kernel
theorem dX4_takeFrom_39 : decode cX4_takeFrom 39 = .ok (.invokevirtual 238, 3) := by decide +kernel
theorem dX4_takeFrom_42 : decode cX4_takeFrom 42 = .ok (.iconst 0, 1) := by decide +kernel
theorem dX4_takeFrom_43 : decode cX4_takeFrom 43 = .ok (.ireturn, 1) := by decide +kernel
set_option maxRecDepth 20000 in
theorem ggX4_takeEvent_X3_add : GoodIn wsX4_takeEvent wsX3_add := goodIn_r _ [8, 9, 10, 25, 26] (by decide +kernel) (by decide +kernel)
set_option maxRecDepth 20000 in
theorem gX4_takeEvent_X3_add : GoodIn wsX4_takeEvent (wsV RX4 242 RX3 yX3_add wsX3_add) := goodIn_app (goodIn_of _ (by decide +kernel)) ggX4_takeEvent_X3_add
theorem dX4_takeEvent_0 : decode cX4_takeEvent 0 = .ok (.aload_n 0, 1) := by decide +kernel
theorem dX4_takeEvent_1 : decode cX4_takeEvent 1 = .ok (.getfield 33, 3) := by decide +kernel
theorem dX4_takeEvent_4 : decode cX4_takeEvent 4 = .ok (.iload_n 1, 1) := by decide +kernel
theorem dX4_takeEvent_5 : decode cX4_takeEvent 5 = .ok (.iconst 1, 1) := by decide +kernel
theorem dX4_takeEvent_6 : decode cX4_takeEvent 6 = .ok (.iload_n 2, 1) := by decide +kernel
theorem dX4_takeEvent_7 : decode cX4_takeEvent 7 = .ok (.invokevirtual 242, 3) := by decide +kernel
theorem dX4_takeEvent_10 : decode cX4_takeEvent 10 = .ok (.aload_n 0, 1) := by decide +kernel
theorem dX4_takeEvent_11 : decode cX4_takeEvent 11 = .ok (.getfield 37, 3) := by decide +kernel
theorem dX4_takeEvent_14 : decode cX4_takeEvent 14 = .ok (.iload_n 1, 1) := by decide +kernel
theorem dX4_takeEvent_15 : decode cX4_takeEvent 15 = .ok (.iconst 1, 1) := by decide +kernel
theorem dX4_takeEvent_16 : decode cX4_takeEvent 16 = .ok (.iload_n 2, 1) := by decide +kernel
theorem dX4_takeEvent_17 : decode cX4_takeEvent 17 = .ok (.invokevirtual 242, 3) := by decide +kernel
theorem dX4_takeEvent_20 : decode cX4_takeEvent 20 = .ok (.aload_n 0, 1) := by decide +kernel
theorem dX4_takeEvent_21 : decode cX4_takeEvent 21 = .ok (.getfield 33, 3) := by decide +kernel
theorem dX4_takeEvent_24 : decode cX4_takeEvent 24 = .ok (.getfield 203, 3) := by decide +kernel
theorem dX4_takeEvent_27 : decode cX4_takeEvent 27 = .ok (.iload_n 1, 1) := by decide +kernel
theorem dX4_takeEvent_28 : decode cX4_takeEvent 28 = .ok (.iaload, 1) := by decide +kernel
theorem dX4_takeEvent_29 : decode cX4_takeEvent 29 = .ok (.ireturn, 1) := by decide +kernel
set_option maxRecDepth 20000 in
theorem ggX4_takeBarrier_X0_block : GoodIn wsX4_takeBarrier wsX0_block := goodIn_r _ [6, 7, 8, 9, 5, 10, 99, 100, 101] (by decide +kernel) (by decide +kernel)
set_option maxRecDepth 20000 in
theorem gX4_takeBarrier_X0_block : GoodIn wsX4_takeBarrier (wsV RX4 244 RX0 yX0_block wsX0_block) := goodIn_app (goodIn_of _ (by decide +kernel)) ggX4_takeBarrier_X0_block
set_option maxRecDepth 20000 in
theorem ggX4_takeBarrier_X0_areAllBlocked : GoodIn wsX4_takeBarrier wsX0_areAllBlocked := goodIn_r _ [14, 15, 16, 17, 5, 18, 7, 8, 9, 10, 99, 100, 101] (by decide +kernel) (by decide +kernel)
set_option maxRecDepth 20000 in
theorem gX4_takeBarrier_X0_areAllBlocked : GoodIn wsX4_takeBarrier (wsV RX4 247 RX0 yX0_areAllBlocked wsX0_areAllBlocked) := goodIn_app (goodIn_of _ (by decide +kernel)) ggX4_takeBarrier_X0_areAllBlocked
set_option maxRecDepth 20000 in
theorem ggX4_takeBarrier_X4_sealTransaction : GoodIn wsX4_takeBarrier wsX4_sealTransaction := goodIn_r _ [23, 24, 25, 26, 27, 28, 29, 1, 30, 31, 32, 22, 33, 34, 35, 36, 37, 38, 39, 40, 41, 42, 43, 44, 45, 46, 47, 48, 49, 50, 51, 52, 53, 54, 55, 56, 57, 58, 59, 60, 61, 5, 62, 7, 8, 9, 10, 63, 64, 65, 66, 67, 68, 69, 70, 71, 72, 73, 74, 75, 76, 77, 78, 79, 80, 81, 82, 83, 84, 85, 86, 87, 88, 89, 90, 91, 92, 93, 94, 95, 96, 97, 98, 102, 103, 99, 100, 101, 104, 105, 106, 107] (by decide +kernel) (by decide +kernel)
set_option maxRecDepth 20000 in
theorem gX4_takeBarrier_X4_sealTransaction : GoodIn wsX4_takeBarrier (wsV RX4 250 RX4 yX4_sealTransaction wsX4_sealTransaction) := goodIn_app (goodIn_of _ (by decide +kernel)) ggX4_takeBarrier_X4_sealTransaction
theorem dX4_takeBarrier_0 : decode cX4_takeBarrier 0 = .ok (.aload_n 0, 1) := by decide +kernel
theorem dX4_takeBarrier_1 : decode cX4_takeBarrier 1 = .ok (.getfield 26, 3) := by decide +kernel
theorem dX4_takeBarrier_4 : decode cX4_takeBarrier 4 = .ok (.iload_n 1, 1) := by decide +kernel
theorem dX4_takeBarrier_5 : decode cX4_takeBarrier 5 = .ok (.iload_n 2, 1) := by decide +kernel
theorem dX4_takeBarrier_6 : decode cX4_takeBarrier 6 = .ok (.invokevirtual 244, 3) := by decide +kernel
theorem dX4_takeBarrier_9 : decode cX4_takeBarrier 9 = .ok (.aload_n 0, 1) := by decide +kernel
theorem dX4_takeBarrier_10 : decode cX4_takeBarrier 10 = .ok (.getfield 26, 3) := by decide +kernel
theorem dX4_takeBarrier_13 : decode cX4_takeBarrier 13 = .ok (.iload_n 2, 1) := by decide +kernel
theorem dX4_takeBarrier_14 : decode cX4_takeBarrier 14 = .ok (.invokevirtual 247, 3) := by decide +kernel
theorem dX4_takeBarrier_17 : decode cX4_takeBarrier 17 = .ok (.ifCond .eq 8, 3) := by decide +kernel
theorem dX4_takeBarrier_20 : decode cX4_takeBarrier 20 = .ok (.aload_n 0, 1) := by decide +kernel
theorem dX4_takeBarrier_21 : decode cX4_takeBarrier 21 = .ok (.iload_n 2, 1) := by decide +kernel
theorem dX4_takeBarrier_22 : decode cX4_takeBarrier 22 = .ok (.invokevirtual 250, 3) := by decide +kernel
theorem dX4_takeBarrier_25 : decode cX4_takeBarrier 25 = .ok (.return_, 1) := by decide +kernel
set_option maxRecDepth 20000 in
theorem ggX4_readRound_X4_canReadFrom : GoodIn wsX4_readRound wsX4_canReadFrom := goodIn_r _ [5, 6, 7, 8, 9, 10, 11, 12, 13, 14, 15, 16, 17, 18, 4, 19, 20, 21, 22, 23, 24, 25, 26, 27, 28, 29, 30, 31, 32, 33, 34, 35, 36, 37, 38, 39, 40, 50, 51, 52, 53, 54, 55, 56, 57, 58, 59, 60, 61, 62, 63, 64, 65, 66, 67, 68, 69, 70, 71, 72] (by decide +kernel) (by decide +kernel)
set_option maxRecDepth 20000 in
theorem gX4_readRound_X4_canReadFrom : GoodIn wsX4_readRound (wsV RX4 95 RX4 yX4_canReadFrom wsX4_canReadFrom) := goodIn_app (goodIn_of _ (by decide +kernel)) ggX4_readRound_X4_canReadFrom
set_option maxRecDepth 20000 in
theorem ggX4_readRound_X4_readFrom : GoodIn wsX4_readRound wsX4_readFrom := goodIn_r _ [44, 8, 6, 7, 10, 11, 12, 13, 14, 15, 16, 17, 18, 4, 19, 20, 21, 22, 23, 24, 25, 26, 27, 45, 46, 47, 31, 48, 49, 37, 38, 39, 40, 50, 51, 52, 53, 54, 55, 56, 57, 58, 59, 60, 61, 62, 63, 64, 65, 66, 67, 68, 69, 70, 71, 72] (by decide +kernel) (by decide +kernel)
set_option maxRecDepth 20000 in
theorem gX4_readRound_X4_readFrom : GoodIn wsX4_readRound (wsV RX4 101 RX4 yX4_readFrom wsX4_readFrom) := goodIn_app (goodIn_of _ (by decide +kernel)) ggX4_readRound_X4_readFrom
theorem dX4_readRound_0 : decode cX4_readRound 0 = .ok (.iconst 0, 1) := by decide +kernel
theorem dX4_readRound_1 : decode cX4_readRound 1 = .ok (.istore_n 1, 1) := by decide +kernel
theorem dX4_readRound_2 : decode cX4_readRound 2 = .ok (.iconst 0, 1) := by decide +kernel
theorem dX4_readRound_3 : decode cX4_readRound 3 = .ok (.istore_n 2, 1) := by decide +kernel
theorem dX4_readRound_4 : decode cX4_readRound 4 = .ok (.iload_n 2, 1) := by decide +kernel
theorem dX4_readRound_5 : decode cX4_readRound 5 = .ok (.iconst 4, 1) := by decide +kernel
theorem dX4_readRound_6 : decode cX4_readRound 6 = .ok (.if_icmp .ge 26, 3) := by decide +kernel
theorem dX4_readRound_9 : decode cX4_readRound 9 = .ok (.aload_n 0, 1) := by decide +kernel
theorem dX4_readRound_10 : decode cX4_readRound 10 = .ok (.iload_n 2, 1) := by decide +kernel
theorem dX4_readRound_11 : decode cX4_readRound 11 = .ok (.invokevirtual 95, 3) := by decide +kernel
theorem dX4_readRound_14 : decode cX4_readRound 14 = .ok (.ifCond .eq 12, 3) := by decide +kernel
theorem dX4_readRound_17 : decode cX4_readRound 17 = .ok (.aload_n 0, 1) := by decide +kernel
theorem dX4_readRound_18 : decode cX4_readRound 18 = .ok (.iload_n 2, 1) := by decide +kernel
theorem dX4_readRound_19 : decode cX4_readRound 19 = .ok (.invokevirtual 101, 3) := by decide +kernel
theorem dX4_readRound_22 : decode cX4_readRound 22 = .ok (.pop, 1) := by decide +kernel
theorem dX4_readRound_23 : decode cX4_readRound 23 = .ok (.iinc 1 1, 3) := by decide +kernel
theorem dX4_readRound_26 : decode cX4_readRound 26 = .ok (.iinc 2 1, 3) := by decide +kernel
theorem dX4_readRound_29 : decode cX4_readRound 29 = .ok (.goto (-25), 3) := by decide +kernel
theorem dX4_readRound_32 : decode cX4_readRound 32 = .ok (.iload_n 1, 1) := by decide +kernel
theorem dX4_readRound_33 : decode cX4_readRound 33 = .ok (.ireturn, 1) := by decide +kernel
set_option maxRecDepth 20000 in
theorem ggX4_takeRound_X0_canGive : GoodIn wsX4_takeRound wsX0_canGive := goodIn_r _ [7, 8, 9, 10, 6, 11, 12, 13, 14, 15, 16, 17, 18, 19, 20, 131, 132, 133] (by decide +kernel) (by decide +kernel)
set_option maxRecDepth 20000 in
theorem gX4_takeRound_X0_canGive : GoodIn wsX4_takeRound (wsV RX4 126 RX0 yX0_canGive wsX0_canGive) := goodIn_app (goodIn_of _ (by decide +kernel)) ggX4_takeRound_X0_canGive
set_option maxRecDepth 20000 in
theorem ggX4_takeRound_X4_takeFrom : GoodIn wsX4_takeRound wsX4_takeFrom := goodIn_r _ [25, 2, 26, 27, 28, 29, 6, 30, 31, 12, 13, 14, 15, 32, 33, 24, 34, 35, 36, 37, 38, 39, 40, 41, 42, 43, 44, 45, 46, 47, 48, 49, 50, 51, 52, 53, 54, 55, 56, 57, 58, 59, 20, 60, 61, 62, 63, 16, 17, 18, 19, 64, 65, 66, 67, 68, 69, 70, 71, 72, 73, 74, 1, 75, 76, 77, 78, 79, 80, 81, 82, 83, 84, 85, 86, 87, 88, 89, 90, 91, 92, 93, 94, 95, 96, 97, 98, 99, 100, 101, 102, 103, 104, 105, 106, 107, 108, 109, 110, 111, 112, 113, 114, 115, 116, 117, 118, 119, 120, 121, 122, 123, 124, 125, 126, 127, 128, 129, 130, 131, 132, 133, 134, 135, 136, 137, 138, 139] (by decide +kernel) (by decide +kernel)
set_option maxRecDepth 20000 in
theorem gX4_takeRound_X4_takeFrom : GoodIn wsX4_takeRound (wsV RX4 132 RX4 yX4_takeFrom wsX4_takeFrom) := goodIn_app (goodIn_of _ (by decide +kernel)) ggX4_takeRound_X4_takeFrom
theorem dX4_takeRound_0 : decode cX4_takeRound 0 = .ok (.iconst 0, 1) := by decide +kernel
theorem dX4_takeRound_1 : decode cX4_takeRound 1 = .ok (.istore_n 1, 1) := by decide +kernel
theorem dX4_takeRound_2 : decode cX4_takeRound 2 = .ok (.iconst 0, 1) := by decide +kernel
theorem dX4_takeRound_3 : decode cX4_takeRound 3 = .ok (.istore_n 2, 1) := by decide +kernel
theorem dX4_takeRound_4 : decode cX4_takeRound 4 = .ok (.iload_n 2, 1) := by decide +kernel
theorem dX4_takeRound_5 : decode cX4_takeRound 5 = .ok (.aload_n 0, 1) := by decide +kernel
theorem dX4_takeRound_6 : decode cX4_takeRound 6 = .ok (.getfield 56, 3) := by decide +kernel
theorem dX4_takeRound_9 : decode cX4_takeRound 9 = .ok (.if_icmp .ge 44, 3) := by decide +kernel
theorem dX4_takeRound_12 : decode cX4_takeRound 12 = .ok (.iconst 0, 1) := by decide +kernel
theorem dX4_takeRound_13 : decode cX4_takeRound 13 = .ok (.istore_n 3, 1) := by decide +kernel
theorem dX4_takeRound_14 : decode cX4_takeRound 14 = .ok (.iload_n 3, 1) := by decide +kernel
theorem dX4_takeRound_15 : decode cX4_takeRound 15 = .ok (.iconst 4, 1) := by decide +kernel
theorem dX4_takeRound_16 : decode cX4_takeRound 16 = .ok (.if_icmp .ge 31, 3) := by decide +kernel
theorem dX4_takeRound_19 : decode cX4_takeRound 19 = .ok (.aload_n 0, 1) := by decide +kernel
theorem dX4_takeRound_20 : decode cX4_takeRound 20 = .ok (.getfield 26, 3) := by decide +kernel
theorem dX4_takeRound_23 : decode cX4_takeRound 23 = .ok (.iload_n 3, 1) := by decide +kernel
theorem dX4_takeRound_24 : decode cX4_takeRound 24 = .ok (.iload_n 2, 1) := by decide +kernel
theorem dX4_takeRound_25 : decode cX4_takeRound 25 = .ok (.invokevirtual 126, 3) := by decide +kernel
theorem dX4_takeRound_28 : decode cX4_takeRound 28 = .ok (.ifCond .eq 13, 3) := by decide +kernel
theorem dX4_takeRound_31 : decode cX4_takeRound 31 = .ok (.aload_n 0, 1) := by decide +kernel
theorem dX4_takeRound_32 : decode cX4_takeRound 32 = .ok (.iload_n 3, 1) := by decide +kernel
theorem dX4_takeRound_33 : decode cX4_takeRound 33 = .ok (.iload_n 2, 1) := by decide +kernel
theorem dX4_takeRound_34 : decode cX4_takeRound 34 = .ok (.invokevirtual 132, 3) := by decide +kernel
theorem dX4_takeRound_37 : decode cX4_takeRound 37 = .ok (.pop, 1) := by decide +kernel
theorem dX4_takeRound_38 : decode cX4_takeRound 38 = .ok (.iinc 1 1, 3) := by decide +kernel
theorem dX4_takeRound_41 : decode cX4_takeRound 41 = .ok (.iinc 3 1, 3) := by decide +kernel
theorem dX4_takeRound_44 : decode cX4_takeRound 44 = .ok (.goto (-30), 3) := by decide +kernel
theorem dX4_takeRound_47 : decode cX4_takeRound 47 = .ok (.iinc 2 1, 3) := by decide +kernel
theorem dX4_takeRound_50 : decode cX4_takeRound 50 = .ok (.goto (-46), 3) := by decide +kernel
theorem dX4_takeRound_53 : decode cX4_takeRound 53 = .ok (.iload_n 1, 1) := by decide +kernel
theorem dX4_takeRound_54 : decode cX4_takeRound 54 = .ok (.ireturn, 1) := by decide +kernel
set_option maxRecDepth 20000 in
theorem ggX4_sealTransaction_X4_ownerOfKey : GoodIn wsX4_sealTransaction wsX4_ownerOfKey := goodIn_r _ [12, 13, 14, 15, 11, 16, 69, 70, 71, 72, 73, 74, 75, 76, 77, 78, 79, 80, 81, 82] (by decide +kernel) (by decide +kernel)
set_option maxRecDepth 20000 in
theorem gX4_sealTransaction_X4_ownerOfKey : GoodIn wsX4_sealTransaction (wsV RX4 200 RX4 yX4_ownerOfKey wsX4_ownerOfKey) := goodIn_app (goodIn_of _ (by decide +kernel)) ggX4_sealTransaction_X4_ownerOfKey
set_option maxRecDepth 20000 in
theorem ggX4_sealTransaction_X3_copyKey : GoodIn wsX4_sealTransaction wsX3_copyKey := goodIn_r _ [21, 22, 23, 83, 84] (by decide +kernel) (by decide +kernel)
set_option maxRecDepth 20000 in
theorem gX4_sealTransaction_X3_copyKey : GoodIn wsX4_sealTransaction (wsV RX4 253 RX3 yX3_copyKey wsX3_copyKey) := goodIn_app (goodIn_of _ (by decide +kernel)) ggX4_sealTransaction_X3_copyKey
set_option maxRecDepth 20000 in
theorem ggX4_sealTransaction_X4_moveTallies : GoodIn wsX4_sealTransaction wsX4_moveTallies := goodIn_r _ [27, 28, 29, 8, 9, 10, 11, 12, 13, 14, 15, 16, 30, 31, 32, 20, 33, 22, 23, 34, 35, 36, 37, 83, 84, 69, 70, 71, 72, 73, 74, 75, 76, 77, 78, 79, 80, 81, 82] (by decide +kernel) (by decide +kernel)
set_option maxRecDepth 20000 in
theorem gX4_sealTransaction_X4_moveTallies : GoodIn wsX4_sealTransaction (wsV RX4 166 RX4 yX4_moveTallies wsX4_moveTallies) := goodIn_app (goodIn_of _ (by decide +kernel)) ggX4_sealTransaction_X4_moveTallies
set_option maxRecDepth 20000 in
theorem ggX4_sealTransaction_X0_unblockAll : GoodIn wsX4_sealTransaction wsX0_unblockAll := goodIn_r _ [42, 43, 44, 45, 41, 46, 85, 86, 87] (by decide +kernel) (by decide +kernel)
set_option maxRecDepth 20000 in
theorem gX4_sealTransaction_X0_unblockAll : GoodIn wsX4_sealTransaction (wsV RX4 163 RX0 yX0_unblockAll wsX0_unblockAll) := goodIn_app (goodIn_of _ (by decide +kernel)) ggX4_sealTransaction_X0_unblockAll
set_option maxRecDepth 20000 in
theorem ggX4_sealTransaction_X4_haveAllSealed : GoodIn wsX4_sealTransaction wsX4_haveAllSealed := goodIn_r _ [50, 13, 5, 69, 70, 71, 72, 73, 74, 75, 76, 77, 78, 79, 80, 81, 82] (by decide +kernel) (by decide +kernel)
set_option maxRecDepth 20000 in
theorem gX4_sealTransaction_X4_haveAllSealed : GoodIn wsX4_sealTransaction (wsV RX4 257 RX4 yX4_haveAllSealed wsX4_haveAllSealed) := goodIn_app (goodIn_of _ (by decide +kernel)) ggX4_sealTransaction_X4_haveAllSealed
set_option maxRecDepth 20000 in
theorem ggX4_sealTransaction_X4_completeCheckpoint : GoodIn wsX4_sealTransaction wsX4_completeCheckpoint := goodIn_r _ [54, 55, 1, 56, 6, 57, 58, 59, 60, 20, 61, 22, 23, 62, 63, 64, 65, 66, 67, 68, 69, 70, 71, 72, 73, 74, 75, 76, 77, 78, 79, 80, 81, 82, 83, 84, 88, 89, 90, 91] (by decide +kernel) (by decide +kernel)
set_option maxRecDepth 20000 in
theorem gX4_sealTransaction_X4_completeCheckpoint : GoodIn wsX4_sealTransaction (wsV RX4 260 RX4 yX4_completeCheckpoint wsX4_completeCheckpoint) := goodIn_app (goodIn_of _ (by decide +kernel)) ggX4_sealTransaction_X4_completeCheckpoint
theorem dX4_sealTransaction_0 : decode cX4_sealTransaction 0 = .ok (.iconst 0, 1) := by decide +kernel
theorem dX4_sealTransaction_1 : decode cX4_sealTransaction 1 = .ok (.istore_n 2, 1) := by decide +kernel
theorem dX4_sealTransaction_2 : decode cX4_sealTransaction 2 = .ok (.iload_n 2, 1) := by decide +kernel
theorem dX4_sealTransaction_3 : decode cX4_sealTransaction 3 = .ok (.bipush 32, 2) := by decide +kernel
theorem dX4_sealTransaction_5 : decode cX4_sealTransaction 5 = .ok (.if_icmp .ge 30, 3) := by decide +kernel
theorem dX4_sealTransaction_8 : decode cX4_sealTransaction 8 = .ok (.aload_n 0, 1) := by decide +kernel
theorem dX4_sealTransaction_9 : decode cX4_sealTransaction 9 = .ok (.iload_n 2, 1) := by decide +kernel
theorem dX4_sealTransaction_10 : decode cX4_sealTransaction 10 = .ok (.invokevirtual 200, 3) := by decide +kernel
theorem dX4_sealTransaction_13 : decode cX4_sealTransaction 13 = .ok (.iload_n 1, 1) := by decide +kernel
theorem dX4_sealTransaction_14 : decode cX4_sealTransaction 14 = .ok (.if_icmp .ne 15, 3) := by decide +kernel
theorem dX4_sealTransaction_17 : decode cX4_sealTransaction 17 = .ok (.aload_n 0, 1) := by decide +kernel
theorem dX4_sealTransaction_18 : decode cX4_sealTransaction 18 = .ok (.getfield 43, 3) := by decide +kernel
theorem dX4_sealTransaction_21 : decode cX4_sealTransaction 21 = .ok (.aload_n 0, 1) := by decide +kernel
theorem dX4_sealTransaction_22 : decode cX4_sealTransaction 22 = .ok (.getfield 33, 3) := by decide +kernel
theorem dX4_sealTransaction_25 : decode cX4_sealTransaction 25 = .ok (.iload_n 2, 1) := by decide +kernel
theorem dX4_sealTransaction_26 : decode cX4_sealTransaction 26 = .ok (.invokevirtual 253, 3) := by decide +kernel
theorem dX4_sealTransaction_29 : decode cX4_sealTransaction 29 = .ok (.iinc 2 1, 3) := by decide +kernel
theorem dX4_sealTransaction_32 : decode cX4_sealTransaction 32 = .ok (.goto (-30), 3) := by decide +kernel
theorem dX4_sealTransaction_35 : decode cX4_sealTransaction 35 = .ok (.aload_n 0, 1) := by decide +kernel
theorem dX4_sealTransaction_36 : decode cX4_sealTransaction 36 = .ok (.aload_n 0, 1) := by decide +kernel
theorem dX4_sealTransaction_37 : decode cX4_sealTransaction 37 = .ok (.getfield 37, 3) := by decide +kernel
theorem dX4_sealTransaction_40 : decode cX4_sealTransaction 40 = .ok (.aload_n 0, 1) := by decide +kernel
theorem dX4_sealTransaction_41 : decode cX4_sealTransaction 41 = .ok (.getfield 40, 3) := by decide +kernel
theorem dX4_sealTransaction_44 : decode cX4_sealTransaction 44 = .ok (.iload_n 1, 1) := by decide +kernel
theorem dX4_sealTransaction_45 : decode cX4_sealTransaction 45 = .ok (.invokevirtual 166, 3) := by decide +kernel
theorem dX4_sealTransaction_48 : decode cX4_sealTransaction 48 = .ok (.pop, 1) := by decide +kernel
theorem dX4_sealTransaction_49 : decode cX4_sealTransaction 49 = .ok (.aload_n 0, 1) := by decide +kernel
theorem dX4_sealTransaction_50 : decode cX4_sealTransaction 50 = .ok (.getfield 52, 3) := by decide +kernel
theorem dX4_sealTransaction_53 : decode cX4_sealTransaction 53 = .ok (.iload_n 1, 1) := by decide +kernel
theorem dX4_sealTransaction_54 : decode cX4_sealTransaction 54 = .ok (.aload_n 0, 1) := by decide +kernel
theorem dX4_sealTransaction_55 : decode cX4_sealTransaction 55 = .ok (.getfield 63, 3) := by decide +kernel
theorem dX4_sealTransaction_58 : decode cX4_sealTransaction 58 = .ok (.iastore, 1) := by decide +kernel
theorem dX4_sealTransaction_59 : decode cX4_sealTransaction 59 = .ok (.aload_n 0, 1) := by decide +kernel
theorem dX4_sealTransaction_60 : decode cX4_sealTransaction 60 = .ok (.getfield 26, 3) := by decide +kernel
theorem dX4_sealTransaction_63 : decode cX4_sealTransaction 63 = .ok (.iload_n 1, 1) := by decide +kernel
theorem dX4_sealTransaction_64 : decode cX4_sealTransaction 64 = .ok (.invokevirtual 163, 3) := by decide +kernel
theorem dX4_sealTransaction_67 : decode cX4_sealTransaction 67 = .ok (.aload_n 0, 1) := by decide +kernel
theorem dX4_sealTransaction_68 : decode cX4_sealTransaction 68 = .ok (.invokevirtual 257, 3) := by decide +kernel
theorem dX4_sealTransaction_71 : decode cX4_sealTransaction 71 = .ok (.ifCond .eq 7, 3) := by decide +kernel
theorem dX4_sealTransaction_74 : decode cX4_sealTransaction 74 = .ok (.aload_n 0, 1) := by decide +kernel
theorem dX4_sealTransaction_75 : decode cX4_sealTransaction 75 = .ok (.invokevirtual 260, 3) := by decide +kernel
theorem dX4_sealTransaction_78 : decode cX4_sealTransaction 78 = .ok (.return_, 1) := by decide +kernel
set_option maxRecDepth 20000 in
theorem ggX4_completeCheckpoint_X3_copyAll : GoodIn wsX4_completeCheckpoint wsX3_copyAll := goodIn_r _ [10, 11, 12, 34, 35] (by decide +kernel) (by decide +kernel)
set_option maxRecDepth 20000 in
theorem gX4_completeCheckpoint_X3_copyAll : GoodIn wsX4_completeCheckpoint (wsV RX4 263 RX3 yX3_copyAll wsX3_copyAll) := goodIn_app (goodIn_of _ (by decide +kernel)) ggX4_completeCheckpoint_X3_copyAll
set_option maxRecDepth 20000 in
theorem ggX4_completeCheckpoint_X2_keepAll : GoodIn wsX4_completeCheckpoint wsX2_keepAll := goodIn_r _ [17, 18, 19, 36, 37, 38, 39] (by decide +kernel) (by decide +kernel)
set_option maxRecDepth 20000 in
theorem gX4_completeCheckpoint_X2_keepAll : GoodIn wsX4_completeCheckpoint (wsV RX4 267 RX2 yX2_keepAll wsX2_keepAll) := goodIn_app (goodIn_of _ (by decide +kernel)) ggX4_completeCheckpoint_X2_keepAll
theorem dX4_completeCheckpoint_0 : decode cX4_completeCheckpoint 0 = .ok (.aload_n 0, 1) := by decide +kernel
theorem dX4_completeCheckpoint_1 : decode cX4_completeCheckpoint 1 = .ok (.getfield 46, 3) := by decide +kernel
theorem dX4_completeCheckpoint_4 : decode cX4_completeCheckpoint 4 = .ok (.aload_n 0, 1) := by decide +kernel
theorem dX4_completeCheckpoint_5 : decode cX4_completeCheckpoint 5 = .ok (.getfield 43, 3) := by decide +kernel
theorem dX4_completeCheckpoint_8 : decode cX4_completeCheckpoint 8 = .ok (.invokevirtual 263, 3) := by decide +kernel
theorem dX4_completeCheckpoint_11 : decode cX4_completeCheckpoint 11 = .ok (.aload_n 0, 1) := by decide +kernel
theorem dX4_completeCheckpoint_12 : decode cX4_completeCheckpoint 12 = .ok (.getfield 19, 3) := by decide +kernel
theorem dX4_completeCheckpoint_15 : decode cX4_completeCheckpoint 15 = .ok (.invokevirtual 267, 3) := by decide +kernel
theorem dX4_completeCheckpoint_18 : decode cX4_completeCheckpoint 18 = .ok (.aload_n 0, 1) := by decide +kernel
theorem dX4_completeCheckpoint_19 : decode cX4_completeCheckpoint 19 = .ok (.aload_n 0, 1) := by decide +kernel
theorem dX4_completeCheckpoint_20 : decode cX4_completeCheckpoint 20 = .ok (.getfield 63, 3) := by decide +kernel
theorem dX4_completeCheckpoint_23 : decode cX4_completeCheckpoint 23 = .ok (.putfield 66, 3) := by decide +kernel
theorem dX4_completeCheckpoint_26 : decode cX4_completeCheckpoint 26 = .ok (.aload_n 0, 1) := by decide +kernel
theorem dX4_completeCheckpoint_27 : decode cX4_completeCheckpoint 27 = .ok (.iconst (-1), 1) := by decide +kernel
theorem dX4_completeCheckpoint_28 : decode cX4_completeCheckpoint 28 = .ok (.putfield 63, 3) := by decide +kernel
theorem dX4_completeCheckpoint_31 : decode cX4_completeCheckpoint 31 = .ok (.return_, 1) := by decide +kernel
theorem dX4_haveAllSealed_0 : decode cX4_haveAllSealed 0 = .ok (.iconst 0, 1) := by decide +kernel
theorem dX4_haveAllSealed_1 : decode cX4_haveAllSealed 1 = .ok (.istore_n 1, 1) := by decide +kernel
theorem dX4_haveAllSealed_2 : decode cX4_haveAllSealed 2 = .ok (.iload_n 1, 1) := by decide +kernel
theorem dX4_haveAllSealed_3 : decode cX4_haveAllSealed 3 = .ok (.aload_n 0, 1) := by decide +kernel
theorem dX4_haveAllSealed_4 : decode cX4_haveAllSealed 4 = .ok (.getfield 56, 3) := by decide +kernel
theorem dX4_haveAllSealed_7 : decode cX4_haveAllSealed 7 = .ok (.if_icmp .ge 21, 3) := by decide +kernel
theorem dX4_haveAllSealed_10 : decode cX4_haveAllSealed 10 = .ok (.aload_n 0, 1) := by decide +kernel
theorem dX4_haveAllSealed_11 : decode cX4_haveAllSealed 11 = .ok (.getfield 52, 3) := by decide +kernel
theorem dX4_haveAllSealed_14 : decode cX4_haveAllSealed 14 = .ok (.iload_n 1, 1) := by decide +kernel
theorem dX4_haveAllSealed_15 : decode cX4_haveAllSealed 15 = .ok (.iaload, 1) := by decide +kernel
theorem dX4_haveAllSealed_16 : decode cX4_haveAllSealed 16 = .ok (.iconst (-1), 1) := by decide +kernel
theorem dX4_haveAllSealed_17 : decode cX4_haveAllSealed 17 = .ok (.if_icmp .ne 5, 3) := by decide +kernel
theorem dX4_haveAllSealed_20 : decode cX4_haveAllSealed 20 = .ok (.iconst 0, 1) := by decide +kernel
theorem dX4_haveAllSealed_21 : decode cX4_haveAllSealed 21 = .ok (.ireturn, 1) := by decide +kernel
theorem dX4_haveAllSealed_22 : decode cX4_haveAllSealed 22 = .ok (.iinc 1 1, 3) := by decide +kernel
theorem dX4_haveAllSealed_25 : decode cX4_haveAllSealed 25 = .ok (.goto (-23), 3) := by decide +kernel
theorem dX4_haveAllSealed_28 : decode cX4_haveAllSealed 28 = .ok (.iconst 1, 1) := by decide +kernel
theorem dX4_haveAllSealed_29 : decode cX4_haveAllSealed 29 = .ok (.ireturn, 1) := by decide +kernel
theorem dX4_hasAnySealed_0 : decode cX4_hasAnySealed 0 = .ok (.iconst 0, 1) := by decide +kernel
theorem dX4_hasAnySealed_1 : decode cX4_hasAnySealed 1 = .ok (.istore_n 1, 1) := by decide +kernel
theorem dX4_hasAnySealed_2 : decode cX4_hasAnySealed 2 = .ok (.iload_n 1, 1) := by decide +kernel
theorem dX4_hasAnySealed_3 : decode cX4_hasAnySealed 3 = .ok (.aload_n 0, 1) := by decide +kernel
theorem dX4_hasAnySealed_4 : decode cX4_hasAnySealed 4 = .ok (.getfield 56, 3) := by decide +kernel
theorem dX4_hasAnySealed_7 : decode cX4_hasAnySealed 7 = .ok (.if_icmp .ge 21, 3) := by decide +kernel
theorem dX4_hasAnySealed_10 : decode cX4_hasAnySealed 10 = .ok (.aload_n 0, 1) := by decide +kernel
theorem dX4_hasAnySealed_11 : decode cX4_hasAnySealed 11 = .ok (.getfield 52, 3) := by decide +kernel
theorem dX4_hasAnySealed_14 : decode cX4_hasAnySealed 14 = .ok (.iload_n 1, 1) := by decide +kernel
theorem dX4_hasAnySealed_15 : decode cX4_hasAnySealed 15 = .ok (.iaload, 1) := by decide +kernel
theorem dX4_hasAnySealed_16 : decode cX4_hasAnySealed 16 = .ok (.iconst (-1), 1) := by decide +kernel
theorem dX4_hasAnySealed_17 : decode cX4_hasAnySealed 17 = .ok (.if_icmp .eq 5, 3) := by decide +kernel
theorem dX4_hasAnySealed_20 : decode cX4_hasAnySealed 20 = .ok (.iconst 1, 1) := by decide +kernel
theorem dX4_hasAnySealed_21 : decode cX4_hasAnySealed 21 = .ok (.ireturn, 1) := by decide +kernel
theorem dX4_hasAnySealed_22 : decode cX4_hasAnySealed 22 = .ok (.iinc 1 1, 3) := by decide +kernel
theorem dX4_hasAnySealed_25 : decode cX4_hasAnySealed 25 = .ok (.goto (-23), 3) := by decide +kernel
theorem dX4_hasAnySealed_28 : decode cX4_hasAnySealed 28 = .ok (.iconst 0, 1) := by decide +kernel
theorem dX4_hasAnySealed_29 : decode cX4_hasAnySealed 29 = .ok (.ireturn, 1) := by decide +kernel
theorem dX4_isReadyToCommit_0 : decode cX4_isReadyToCommit 0 = .ok (.aload_n 0, 1) := by decide +kernel
theorem dX4_isReadyToCommit_1 : decode cX4_isReadyToCommit 1 = .ok (.getfield 52, 3) := by decide +kernel
theorem dX4_isReadyToCommit_4 : decode cX4_isReadyToCommit 4 = .ok (.iload_n 1, 1) := by decide +kernel
theorem dX4_isReadyToCommit_5 : decode cX4_isReadyToCommit 5 = .ok (.iaload, 1) := by decide +kernel
theorem dX4_isReadyToCommit_6 : decode cX4_isReadyToCommit 6 = .ok (.iconst (-1), 1) := by decide +kernel
theorem dX4_isReadyToCommit_7 : decode cX4_isReadyToCommit 7 = .ok (.if_icmp .eq 20, 3) := by decide +kernel
theorem dX4_isReadyToCommit_10 : decode cX4_isReadyToCommit 10 = .ok (.aload_n 0, 1) := by decide +kernel
theorem dX4_isReadyToCommit_11 : decode cX4_isReadyToCommit 11 = .ok (.getfield 52, 3) := by decide +kernel
theorem dX4_isReadyToCommit_14 : decode cX4_isReadyToCommit 14 = .ok (.iload_n 1, 1) := by decide +kernel
theorem dX4_isReadyToCommit_15 : decode cX4_isReadyToCommit 15 = .ok (.iaload, 1) := by decide +kernel
theorem dX4_isReadyToCommit_16 : decode cX4_isReadyToCommit 16 = .ok (.aload_n 0, 1) := by decide +kernel
theorem dX4_isReadyToCommit_17 : decode cX4_isReadyToCommit 17 = .ok (.getfield 66, 3) := by decide +kernel
theorem dX4_isReadyToCommit_20 : decode cX4_isReadyToCommit 20 = .ok (.if_icmp .ne 7, 3) := by decide +kernel
theorem dX4_isReadyToCommit_23 : decode cX4_isReadyToCommit 23 = .ok (.iconst 1, 1) := by decide +kernel
theorem dX4_isReadyToCommit_24 : decode cX4_isReadyToCommit 24 = .ok (.goto 4, 3) := by decide +kernel
theorem dX4_isReadyToCommit_27 : decode cX4_isReadyToCommit 27 = .ok (.iconst 0, 1) := by decide +kernel
theorem dX4_isReadyToCommit_28 : decode cX4_isReadyToCommit 28 = .ok (.ireturn, 1) := by decide +kernel
set_option maxRecDepth 20000 in
theorem ggX4_commitSealed_X4_moveTallies : GoodIn wsX4_commitSealed wsX4_moveTallies := goodIn_r _ [8, 9, 10, 11, 12, 13, 7, 14, 15, 16, 17, 18, 19, 20, 21, 22, 23, 24, 25, 26, 27, 28, 29, 44, 45, 30, 31, 32, 33, 34, 35, 36, 37, 38, 39, 40, 41, 42, 43] (by decide +kernel) (by decide +kernel)
set_option maxRecDepth 20000 in
theorem gX4_commitSealed_X4_moveTallies : GoodIn wsX4_commitSealed (wsV RX4 166 RX4 yX4_moveTallies wsX4_moveTallies) := goodIn_app (goodIn_of _ (by decide +kernel)) ggX4_commitSealed_X4_moveTallies
theorem dX4_commitSealed_0 : decode cX4_commitSealed 0 = .ok (.aload_n 0, 1) := by decide +kernel
theorem dX4_commitSealed_1 : decode cX4_commitSealed 1 = .ok (.getfield 52, 3) := by decide +kernel
theorem dX4_commitSealed_4 : decode cX4_commitSealed 4 = .ok (.iload_n 1, 1) := by decide +kernel
theorem dX4_commitSealed_5 : decode cX4_commitSealed 5 = .ok (.iconst (-1), 1) := by decide +kernel
theorem dX4_commitSealed_6 : decode cX4_commitSealed 6 = .ok (.iastore, 1) := by decide +kernel
theorem dX4_commitSealed_7 : decode cX4_commitSealed 7 = .ok (.aload_n 0, 1) := by decide +kernel
theorem dX4_commitSealed_8 : decode cX4_commitSealed 8 = .ok (.aload_n 0, 1) := by decide +kernel
theorem dX4_commitSealed_9 : decode cX4_commitSealed 9 = .ok (.getfield 40, 3) := by decide +kernel
theorem dX4_commitSealed_12 : decode cX4_commitSealed 12 = .ok (.aload_n 0, 1) := by decide +kernel
theorem dX4_commitSealed_13 : decode cX4_commitSealed 13 = .ok (.getfield 49, 3) := by decide +kernel
theorem dX4_commitSealed_16 : decode cX4_commitSealed 16 = .ok (.iload_n 1, 1) := by decide +kernel
theorem dX4_commitSealed_17 : decode cX4_commitSealed 17 = .ok (.invokevirtual 166, 3) := by decide +kernel
theorem dX4_commitSealed_20 : decode cX4_commitSealed 20 = .ok (.ireturn, 1) := by decide +kernel
set_option maxRecDepth 20000 in
theorem ggX4_moveTallies_X4_ownerOfKey : GoodIn wsX4_moveTallies wsX4_ownerOfKey := goodIn_r _ [7, 8, 9, 10, 6, 11, 25, 26, 27, 28, 29, 30, 31, 32, 33, 34, 35, 36, 37, 38] (by decide +kernel) (by decide +kernel)
set_option maxRecDepth 20000 in
theorem gX4_moveTallies_X4_ownerOfKey : GoodIn wsX4_moveTallies (wsV RX4 200 RX4 yX4_ownerOfKey wsX4_ownerOfKey) := goodIn_app (goodIn_of _ (by decide +kernel)) ggX4_moveTallies_X4_ownerOfKey
set_option maxRecDepth 20000 in
theorem ggX4_moveTallies_X3_add : GoodIn wsX4_moveTallies wsX3_add := goodIn_r _ [16, 17, 18, 23, 24] (by decide +kernel) (by decide +kernel)
set_option maxRecDepth 20000 in
theorem gX4_moveTallies_X3_add : GoodIn wsX4_moveTallies (wsV RX4 242 RX3 yX3_add wsX3_add) := goodIn_app (goodIn_of _ (by decide +kernel)) ggX4_moveTallies_X3_add
set_option maxRecDepth 20000 in
theorem ggX4_moveTallies_X3_clearKey : GoodIn wsX4_moveTallies wsX3_clearKey := goodIn_r _ [22, 17, 18, 23, 24] (by decide +kernel) (by decide +kernel)
set_option maxRecDepth 20000 in
theorem gX4_moveTallies_X3_clearKey : GoodIn wsX4_moveTallies (wsV RX4 270 RX3 yX3_clearKey wsX3_clearKey) := goodIn_app (goodIn_of _ (by decide +kernel)) ggX4_moveTallies_X3_clearKey
theorem dX4_moveTallies_0 : decode cX4_moveTallies 0 = .ok (.iconst 0, 1) := by decide +kernel
theorem dX4_moveTallies_1 : decode cX4_moveTallies 1 = .ok (.istore 4, 2) := by decide +kernel
theorem dX4_moveTallies_3 : decode cX4_moveTallies 3 = .ok (.iconst 0, 1) := by decide +kernel
theorem dX4_moveTallies_4 : decode cX4_moveTallies 4 = .ok (.istore 5, 2) := by decide +kernel
theorem dX4_moveTallies_6 : decode cX4_moveTallies 6 = .ok (.iload 5, 2) := by decide +kernel
theorem dX4_moveTallies_8 : decode cX4_moveTallies 8 = .ok (.bipush 32, 2) := by decide +kernel
theorem dX4_moveTallies_10 : decode cX4_moveTallies 10 = .ok (.if_icmp .ge 57, 3) := by decide +kernel
theorem dX4_moveTallies_13 : decode cX4_moveTallies 13 = .ok (.aload_n 0, 1) := by decide +kernel
theorem dX4_moveTallies_14 : decode cX4_moveTallies 14 = .ok (.iload 5, 2) := by decide +kernel
theorem dX4_moveTallies_16 : decode cX4_moveTallies 16 = .ok (.invokevirtual 200, 3) := by decide +kernel
theorem dX4_moveTallies_19 : decode cX4_moveTallies 19 = .ok (.iload_n 3, 1) := by decide +kernel
theorem dX4_moveTallies_20 : decode cX4_moveTallies 20 = .ok (.if_icmp .ne 41, 3) := by decide +kernel
theorem dX4_moveTallies_23 : decode cX4_moveTallies 23 = .ok (.iload 4, 2) := by decide +kernel
theorem dX4_moveTallies_25 : decode cX4_moveTallies 25 = .ok (.aload_n 1, 1) := by decide +kernel
theorem dX4_moveTallies_26 : decode cX4_moveTallies 26 = .ok (.getfield 203, 3) := by decide +kernel
theorem dX4_moveTallies_29 : decode cX4_moveTallies 29 = .ok (.iload 5, 2) := by decide +kernel
theorem dX4_moveTallies_31 : decode cX4_moveTallies 31 = .ok (.iaload, 1) := by decide +kernel
theorem dX4_moveTallies_32 : decode cX4_moveTallies 32 = .ok (.iadd, 1) := by decide +kernel
theorem dX4_moveTallies_33 : decode cX4_moveTallies 33 = .ok (.istore 4, 2) := by decide +kernel
theorem dX4_moveTallies_35 : decode cX4_moveTallies 35 = .ok (.aload_n 2, 1) := by decide +kernel
theorem dX4_moveTallies_36 : decode cX4_moveTallies 36 = .ok (.iload 5, 2) := by decide +kernel
theorem dX4_moveTallies_38 : decode cX4_moveTallies 38 = .ok (.aload_n 1, 1) := by decide +kernel
theorem dX4_moveTallies_39 : decode cX4_moveTallies 39 = .ok (.getfield 203, 3) := by decide +kernel
theorem dX4_moveTallies_42 : decode cX4_moveTallies 42 = .ok (.iload 5, 2) := by decide +kernel
theorem dX4_moveTallies_44 : decode cX4_moveTallies 44 = .ok (.iaload, 1) := by decide +kernel
theorem dX4_moveTallies_45 : decode cX4_moveTallies 45 = .ok (.aload_n 1, 1) := by decide +kernel
theorem dX4_moveTallies_46 : decode cX4_moveTallies 46 = .ok (.getfield 206, 3) := by decide +kernel
theorem dX4_moveTallies_49 : decode cX4_moveTallies 49 = .ok (.iload 5, 2) := by decide +kernel
theorem dX4_moveTallies_51 : decode cX4_moveTallies 51 = .ok (.iaload, 1) := by decide +kernel
theorem dX4_moveTallies_52 : decode cX4_moveTallies 52 = .ok (.invokevirtual 242, 3) := by decide +kernel
theorem dX4_moveTallies_55 : decode cX4_moveTallies 55 = .ok (.aload_n 1, 1) := by decide +kernel
theorem dX4_moveTallies_56 : decode cX4_moveTallies 56 = .ok (.iload 5, 2) := by decide +kernel
theorem dX4_moveTallies_58 : decode cX4_moveTallies 58 = .ok (.invokevirtual 270, 3) := by decide +kernel
theorem dX4_moveTallies_61 : decode cX4_moveTallies 61 = .ok (.iinc 5 1, 3) := by decide +kernel
theorem dX4_moveTallies_64 : decode cX4_moveTallies 64 = .ok (.goto (-58), 3) := by decide +kernel
theorem dX4_moveTallies_67 : decode cX4_moveTallies 67 = .ok (.iload 4, 2) := by decide +kernel
theorem dX4_moveTallies_69 : decode cX4_moveTallies 69 = .ok (.ireturn, 1) := by decide +kernel
set_option maxRecDepth 20000 in
theorem ggX4_startAgain_X4_isReadyToCommit : GoodIn wsX4_startAgain wsX4_isReadyToCommit := goodIn_r _ [14, 2, 15, 68, 69, 70, 71, 72, 73, 74, 75, 76, 77, 78, 79, 80, 81] (by decide +kernel) (by decide +kernel)
set_option maxRecDepth 20000 in
theorem gX4_startAgain_X4_isReadyToCommit : GoodIn wsX4_startAgain (wsV RX4 144 RX4 yX4_isReadyToCommit wsX4_isReadyToCommit) := goodIn_app (goodIn_of _ (by decide +kernel)) ggX4_startAgain_X4_isReadyToCommit
set_option maxRecDepth 20000 in
theorem ggX4_startAgain_X4_commitSealed : GoodIn wsX4_startAgain wsX4_commitSealed := goodIn_r _ [19, 2, 5, 20, 21, 22, 23, 13, 24, 25, 26, 27, 28, 29, 30, 1, 31, 32, 33, 34, 35, 36, 37, 38, 39, 40, 41, 42, 43, 44, 68, 69, 70, 71, 72, 73, 74, 75, 76, 77, 78, 79, 80, 81, 82, 83] (by decide +kernel) (by decide +kernel)
set_option maxRecDepth 20000 in
theorem gX4_startAgain_X4_commitSealed : GoodIn wsX4_startAgain (wsV RX4 149 RX4 yX4_commitSealed wsX4_commitSealed) := goodIn_app (goodIn_of _ (by decide +kernel)) ggX4_startAgain_X4_commitSealed
set_option maxRecDepth 20000 in
theorem ggX4_startAgain_X3_clearAll : GoodIn wsX4_startAgain wsX3_clearAll := goodIn_r _ [48, 49, 42, 43, 37, 44, 39, 40, 82, 83] (by decide +kernel) (by decide +kernel)
set_option maxRecDepth 20000 in
theorem gX4_startAgain_X3_clearAll : GoodIn wsX4_startAgain (wsV RX4 273 RX3 yX3_clearAll wsX3_clearAll) := goodIn_app (goodIn_of _ (by decide +kernel)) ggX4_startAgain_X3_clearAll
set_option maxRecDepth 20000 in
theorem ggX4_startAgain_X0_clearAll : GoodIn wsX4_startAgain wsX0_clearAll := goodIn_r _ [54, 55, 56, 84, 85, 86] (by decide +kernel) (by decide +kernel)
set_option maxRecDepth 20000 in
theorem gX4_startAgain_X0_clearAll : GoodIn wsX4_startAgain (wsV RX4 276 RX0 yX0_clearAll wsX0_clearAll) := goodIn_app (goodIn_of _ (by decide +kernel)) ggX4_startAgain_X0_clearAll
set_option maxRecDepth 20000 in
theorem ggX4_startAgain_X2_returnToKept : GoodIn wsX4_startAgain wsX2_returnToKept := goodIn_r _ [61, 62, 63, 87, 88, 89, 90] (by decide +kernel) (by decide +kernel)
set_option maxRecDepth 20000 in
theorem gX4_startAgain_X2_returnToKept : GoodIn wsX4_startAgain (wsV RX4 277 RX2 yX2_returnToKept wsX2_returnToKept) := goodIn_app (goodIn_of _ (by decide +kernel)) ggX4_startAgain_X2_returnToKept
set_option maxRecDepth 20000 in
theorem ggX4_startAgain_X3_copyAll : GoodIn wsX4_startAgain wsX3_copyAll := goodIn_r _ [67, 39, 40, 82, 83] (by decide +kernel) (by decide +kernel)
set_option maxRecDepth 20000 in
theorem gX4_startAgain_X3_copyAll : GoodIn wsX4_startAgain (wsV RX4 263 RX3 yX3_copyAll wsX3_copyAll) := goodIn_app (goodIn_of _ (by decide +kernel)) ggX4_startAgain_X3_copyAll
theorem dX4_startAgain_0 : decode cX4_startAgain 0 = .ok (.iconst 0, 1) := by decide +kernel
theorem dX4_startAgain_1 : decode cX4_startAgain 1 = .ok (.istore_n 2, 1) := by decide +kernel
theorem dX4_startAgain_2 : decode cX4_startAgain 2 = .ok (.iload_n 2, 1) := by decide +kernel
theorem dX4_startAgain_3 : decode cX4_startAgain 3 = .ok (.aload_n 0, 1) := by decide +kernel
theorem dX4_startAgain_4 : decode cX4_startAgain 4 = .ok (.getfield 56, 3) := by decide +kernel
theorem dX4_startAgain_7 : decode cX4_startAgain 7 = .ok (.if_icmp .ge 30, 3) := by decide +kernel
theorem dX4_startAgain_10 : decode cX4_startAgain 10 = .ok (.aload_n 0, 1) := by decide +kernel
theorem dX4_startAgain_11 : decode cX4_startAgain 11 = .ok (.iload_n 2, 1) := by decide +kernel
theorem dX4_startAgain_12 : decode cX4_startAgain 12 = .ok (.invokevirtual 144, 3) := by decide +kernel
theorem dX4_startAgain_15 : decode cX4_startAgain 15 = .ok (.ifCond .eq 9, 3) := by decide +kernel
theorem dX4_startAgain_18 : decode cX4_startAgain 18 = .ok (.aload_n 0, 1) := by decide +kernel
theorem dX4_startAgain_19 : decode cX4_startAgain 19 = .ok (.iload_n 2, 1) := by decide +kernel
theorem dX4_startAgain_20 : decode cX4_startAgain 20 = .ok (.invokevirtual 149, 3) := by decide +kernel
theorem dX4_startAgain_23 : decode cX4_startAgain 23 = .ok (.pop, 1) := by decide +kernel
theorem dX4_startAgain_24 : decode cX4_startAgain 24 = .ok (.aload_n 0, 1) := by decide +kernel
theorem dX4_startAgain_25 : decode cX4_startAgain 25 = .ok (.getfield 52, 3) := by decide +kernel
theorem dX4_startAgain_28 : decode cX4_startAgain 28 = .ok (.iload_n 2, 1) := by decide +kernel
theorem dX4_startAgain_29 : decode cX4_startAgain 29 = .ok (.iconst (-1), 1) := by decide +kernel
theorem dX4_startAgain_30 : decode cX4_startAgain 30 = .ok (.iastore, 1) := by decide +kernel
theorem dX4_startAgain_31 : decode cX4_startAgain 31 = .ok (.iinc 2 1, 3) := by decide +kernel
theorem dX4_startAgain_34 : decode cX4_startAgain 34 = .ok (.goto (-32), 3) := by decide +kernel
theorem dX4_startAgain_37 : decode cX4_startAgain 37 = .ok (.aload_n 0, 1) := by decide +kernel
theorem dX4_startAgain_38 : decode cX4_startAgain 38 = .ok (.iconst (-1), 1) := by decide +kernel
theorem dX4_startAgain_39 : decode cX4_startAgain 39 = .ok (.putfield 63, 3) := by decide +kernel
theorem dX4_startAgain_42 : decode cX4_startAgain 42 = .ok (.aload_n 0, 1) := by decide +kernel
theorem dX4_startAgain_43 : decode cX4_startAgain 43 = .ok (.getfield 37, 3) := by decide +kernel
theorem dX4_startAgain_46 : decode cX4_startAgain 46 = .ok (.invokevirtual 273, 3) := by decide +kernel
theorem dX4_startAgain_49 : decode cX4_startAgain 49 = .ok (.aload_n 0, 1) := by decide +kernel
theorem dX4_startAgain_50 : decode cX4_startAgain 50 = .ok (.getfield 40, 3) := by decide +kernel
theorem dX4_startAgain_53 : decode cX4_startAgain 53 = .ok (.invokevirtual 273, 3) := by decide +kernel
theorem dX4_startAgain_56 : decode cX4_startAgain 56 = .ok (.aload_n 0, 1) := by decide +kernel
theorem dX4_startAgain_57 : decode cX4_startAgain 57 = .ok (.getfield 26, 3) := by decide +kernel
theorem dX4_startAgain_60 : decode cX4_startAgain 60 = .ok (.invokevirtual 276, 3) := by decide +kernel
theorem dX4_startAgain_63 : decode cX4_startAgain 63 = .ok (.aload_n 0, 1) := by decide +kernel
theorem dX4_startAgain_64 : decode cX4_startAgain 64 = .ok (.getfield 19, 3) := by decide +kernel
theorem dX4_startAgain_67 : decode cX4_startAgain 67 = .ok (.invokevirtual 277, 3) := by decide +kernel
theorem dX4_startAgain_70 : decode cX4_startAgain 70 = .ok (.aload_n 0, 1) := by decide +kernel
theorem dX4_startAgain_71 : decode cX4_startAgain 71 = .ok (.getfield 33, 3) := by decide +kernel
theorem dX4_startAgain_74 : decode cX4_startAgain 74 = .ok (.aload_n 0, 1) := by decide +kernel
theorem dX4_startAgain_75 : decode cX4_startAgain 75 = .ok (.getfield 46, 3) := by decide +kernel
theorem dX4_startAgain_78 : decode cX4_startAgain 78 = .ok (.invokevirtual 263, 3) := by decide +kernel
theorem dX4_startAgain_81 : decode cX4_startAgain 81 = .ok (.aload_n 0, 1) := by decide +kernel
theorem dX4_startAgain_82 : decode cX4_startAgain 82 = .ok (.iload_n 1, 1) := by decide +kernel
theorem dX4_startAgain_83 : decode cX4_startAgain 83 = .ok (.putfield 56, 3) := by decide +kernel
theorem dX4_startAgain_86 : decode cX4_startAgain 86 = .ok (.return_, 1) := by decide +kernel
end
section
set_option maxRecDepth 20000 in
theorem ggX5_init_X5_unseals : GoodIn wsX5_init wsX5_unseals := goodIn_r _ [35, 19, 36, 37, 38, 39, 40, 41, 42, 43, 44, 45, 46, 47, 48, 49, 50, 51, 52, 53, 54, 55, 56, 57, 58, 59, 60, 61, 62] (by decide +kernel) (by decide +kernel)
set_option maxRecDepth 20000 in
theorem gX5_init_X5_unseals : GoodIn wsX5_init (wsV RX5 87 RX5 yX5_unseals wsX5_unseals) := goodIn_app (goodIn_of _ (by decide +kernel)) ggX5_init_X5_unseals
theorem dX5_init_0 : decode cX5_init 0 = .ok (.aload_n 0, 1) := by decide +kernel
theorem dX5_init_1 : decode cX5_init 1 = .ok (.invokespecial 1, 3) := by decide +kernel
theorem dX5_init_4 : decode cX5_init 4 = .ok (.aload_n 0, 1) := by decide +kernel
theorem dX5_init_5 : decode cX5_init 5 = .ok (.iconst 2, 1) := by decide +kernel
theorem dX5_init_6 : decode cX5_init 6 = .ok (.putfield 7, 3) := by decide +kernel
theorem dX5_init_9 : decode cX5_init 9 = .ok (.aload_n 0, 1) := by decide +kernel
theorem dX5_init_10 : decode cX5_init 10 = .ok (.iconst 4, 1) := by decide +kernel
theorem dX5_init_11 : decode cX5_init 11 = .ok (.newarray .int, 2) := by decide +kernel
theorem dX5_init_13 : decode cX5_init 13 = .ok (.putfield 13, 3) := by decide +kernel
theorem dX5_init_16 : decode cX5_init 16 = .ok (.aload_n 0, 1) := by decide +kernel
theorem dX5_init_17 : decode cX5_init 17 = .ok (.iconst 4, 1) := by decide +kernel
theorem dX5_init_18 : decode cX5_init 18 = .ok (.newarray .int, 2) := by decide +kernel
theorem dX5_init_20 : decode cX5_init 20 = .ok (.putfield 17, 3) := by decide +kernel
theorem dX5_init_23 : decode cX5_init 23 = .ok (.aload_n 0, 1) := by decide +kernel
theorem dX5_init_24 : decode cX5_init 24 = .ok (.sipush 240, 3) := by decide +kernel
theorem dX5_init_27 : decode cX5_init 27 = .ok (.newarray .int, 2) := by decide +kernel
theorem dX5_init_29 : decode cX5_init 29 = .ok (.putfield 20, 3) := by decide +kernel
theorem dX5_init_32 : decode cX5_init 32 = .ok (.aload_n 0, 1) := by decide +kernel
theorem dX5_init_33 : decode cX5_init 33 = .ok (.sipush 128, 3) := by decide +kernel
theorem dX5_init_36 : decode cX5_init 36 = .ok (.newarray .int, 2) := by decide +kernel
theorem dX5_init_38 : decode cX5_init 38 = .ok (.putfield 23, 3) := by decide +kernel
theorem dX5_init_41 : decode cX5_init 41 = .ok (.aload_n 0, 1) := by decide +kernel
theorem dX5_init_42 : decode cX5_init 42 = .ok (.bipush 16, 2) := by decide +kernel
theorem dX5_init_44 : decode cX5_init 44 = .ok (.newarray .int, 2) := by decide +kernel
theorem dX5_init_46 : decode cX5_init 46 = .ok (.putfield 26, 3) := by decide +kernel
theorem dX5_init_49 : decode cX5_init 49 = .ok (.aload_n 0, 1) := by decide +kernel
theorem dX5_init_50 : decode cX5_init 50 = .ok (.bipush 16, 2) := by decide +kernel
theorem dX5_init_52 : decode cX5_init 52 = .ok (.newarray .boolean, 2) := by decide +kernel
theorem dX5_init_54 : decode cX5_init 54 = .ok (.putfield 29, 3) := by decide +kernel
theorem dX5_init_57 : decode cX5_init 57 = .ok (.aload_n 0, 1) := by decide +kernel
theorem dX5_init_58 : decode cX5_init 58 = .ok (.bipush 32, 2) := by decide +kernel
theorem dX5_init_60 : decode cX5_init 60 = .ok (.newarray .int, 2) := by decide +kernel
theorem dX5_init_62 : decode cX5_init 62 = .ok (.putfield 33, 3) := by decide +kernel
theorem dX5_init_65 : decode cX5_init 65 = .ok (.aload_n 0, 1) := by decide +kernel
theorem dX5_init_66 : decode cX5_init 66 = .ok (.bipush 32, 2) := by decide +kernel
theorem dX5_init_68 : decode cX5_init 68 = .ok (.newarray .int, 2) := by decide +kernel
theorem dX5_init_70 : decode cX5_init 70 = .ok (.putfield 36, 3) := by decide +kernel
theorem dX5_init_73 : decode cX5_init 73 = .ok (.aload_n 0, 1) := by decide +kernel
theorem dX5_init_74 : decode cX5_init 74 = .ok (.bipush 32, 2) := by decide +kernel
theorem dX5_init_76 : decode cX5_init 76 = .ok (.newarray .int, 2) := by decide +kernel
theorem dX5_init_78 : decode cX5_init 78 = .ok (.putfield 39, 3) := by decide +kernel
theorem dX5_init_81 : decode cX5_init 81 = .ok (.aload_n 0, 1) := by decide +kernel
theorem dX5_init_82 : decode cX5_init 82 = .ok (.bipush 32, 2) := by decide +kernel
theorem dX5_init_84 : decode cX5_init 84 = .ok (.newarray .int, 2) := by decide +kernel
theorem dX5_init_86 : decode cX5_init 86 = .ok (.putfield 42, 3) := by decide +kernel
theorem dX5_init_89 : decode cX5_init 89 = .ok (.aload_n 0, 1) := by decide +kernel
theorem dX5_init_90 : decode cX5_init 90 = .ok (.bipush 32, 2) := by decide +kernel
theorem dX5_init_92 : decode cX5_init 92 = .ok (.newarray .int, 2) := by decide +kernel
theorem dX5_init_94 : decode cX5_init 94 = .ok (.putfield 45, 3) := by decide +kernel
theorem dX5_init_97 : decode cX5_init 97 = .ok (.aload_n 0, 1) := by decide +kernel
theorem dX5_init_98 : decode cX5_init 98 = .ok (.bipush 32, 2) := by decide +kernel
theorem dX5_init_100 : decode cX5_init 100 = .ok (.newarray .int, 2) := by decide +kernel
theorem dX5_init_102 : decode cX5_init 102 = .ok (.putfield 48, 3) := by decide +kernel
theorem dX5_init_105 : decode cX5_init 105 = .ok (.aload_n 0, 1) := by decide +kernel
theorem dX5_init_106 : decode cX5_init 106 = .ok (.iconst 4, 1) := by decide +kernel
theorem dX5_init_107 : decode cX5_init 107 = .ok (.newarray .int, 2) := by decide +kernel
theorem dX5_init_109 : decode cX5_init 109 = .ok (.putfield 51, 3) := by decide +kernel
theorem dX5_init_112 : decode cX5_init 112 = .ok (.aload_n 0, 1) := by decide +kernel
theorem dX5_init_113 : decode cX5_init 113 = .ok (.bipush 32, 2) := by decide +kernel
theorem dX5_init_115 : decode cX5_init 115 = .ok (.newarray .int, 2) := by decide +kernel
theorem dX5_init_117 : decode cX5_init 117 = .ok (.putfield 54, 3) := by decide +kernel
theorem dX5_init_120 : decode cX5_init 120 = .ok (.aload_n 0, 1) := by decide +kernel
theorem dX5_init_121 : decode cX5_init 121 = .ok (.bipush 32, 2) := by decide +kernel
theorem dX5_init_123 : decode cX5_init 123 = .ok (.newarray .int, 2) := by decide +kernel
theorem dX5_init_125 : decode cX5_init 125 = .ok (.putfield 57, 3) := by decide +kernel
theorem dX5_init_128 : decode cX5_init 128 = .ok (.aload_n 0, 1) := by decide +kernel
theorem dX5_init_129 : decode cX5_init 129 = .ok (.iconst (-1), 1) := by decide +kernel
theorem dX5_init_130 : decode cX5_init 130 = .ok (.putfield 60, 3) := by decide +kernel
theorem dX5_init_133 : decode cX5_init 133 = .ok (.aload_n 0, 1) := by decide +kernel
theorem dX5_init_134 : decode cX5_init 134 = .ok (.iconst (-1), 1) := by decide +kernel
theorem dX5_init_135 : decode cX5_init 135 = .ok (.putfield 63, 3) := by decide +kernel
theorem dX5_init_138 : decode cX5_init 138 = .ok (.aload_n 0, 1) := by decide +kernel
theorem dX5_init_139 : decode cX5_init 139 = .ok (.iconst 4, 1) := by decide +kernel
theorem dX5_init_140 : decode cX5_init 140 = .ok (.newarray .boolean, 2) := by decide +kernel
theorem dX5_init_142 : decode cX5_init 142 = .ok (.putfield 66, 3) := by decide +kernel
theorem dX5_init_145 : decode cX5_init 145 = .ok (.aload_n 0, 1) := by decide +kernel
theorem dX5_init_146 : decode cX5_init 146 = .ok (.iconst 4, 1) := by decide +kernel
theorem dX5_init_147 : decode cX5_init 147 = .ok (.newarray .int, 2) := by decide +kernel
theorem dX5_init_149 : decode cX5_init 149 = .ok (.putfield 69, 3) := by decide +kernel
theorem dX5_init_152 : decode cX5_init 152 = .ok (.aload_n 0, 1) := by decide +kernel
theorem dX5_init_153 : decode cX5_init 153 = .ok (.bipush 32, 2) := by decide +kernel
theorem dX5_init_155 : decode cX5_init 155 = .ok (.newarray .int, 2) := by decide +kernel
theorem dX5_init_157 : decode cX5_init 157 = .ok (.putfield 72, 3) := by decide +kernel
theorem dX5_init_160 : decode cX5_init 160 = .ok (.aload_n 0, 1) := by decide +kernel
theorem dX5_init_161 : decode cX5_init 161 = .ok (.bipush 32, 2) := by decide +kernel
theorem dX5_init_163 : decode cX5_init 163 = .ok (.newarray .int, 2) := by decide +kernel
theorem dX5_init_165 : decode cX5_init 165 = .ok (.putfield 75, 3) := by decide +kernel
theorem dX5_init_168 : decode cX5_init 168 = .ok (.aload_n 0, 1) := by decide +kernel
theorem dX5_init_169 : decode cX5_init 169 = .ok (.iconst 4, 1) := by decide +kernel
theorem dX5_init_170 : decode cX5_init 170 = .ok (.newarray .int, 2) := by decide +kernel
theorem dX5_init_172 : decode cX5_init 172 = .ok (.putfield 78, 3) := by decide +kernel
theorem dX5_init_175 : decode cX5_init 175 = .ok (.aload_n 0, 1) := by decide +kernel
theorem dX5_init_176 : decode cX5_init 176 = .ok (.bipush 32, 2) := by decide +kernel
theorem dX5_init_178 : decode cX5_init 178 = .ok (.newarray .int, 2) := by decide +kernel
theorem dX5_init_180 : decode cX5_init 180 = .ok (.putfield 81, 3) := by decide +kernel
theorem dX5_init_183 : decode cX5_init 183 = .ok (.aload_n 0, 1) := by decide +kernel
theorem dX5_init_184 : decode cX5_init 184 = .ok (.bipush 32, 2) := by decide +kernel
theorem dX5_init_186 : decode cX5_init 186 = .ok (.newarray .int, 2) := by decide +kernel
theorem dX5_init_188 : decode cX5_init 188 = .ok (.putfield 84, 3) := by decide +kernel
theorem dX5_init_191 : decode cX5_init 191 = .ok (.aload_n 0, 1) := by decide +kernel
theorem dX5_init_192 : decode cX5_init 192 = .ok (.invokevirtual 87, 3) := by decide +kernel
theorem dX5_init_195 : decode cX5_init 195 = .ok (.return_, 1) := by decide +kernel
theorem dX5_thrown_0 : decode cX5_thrown 0 = .ok (.aload_n 0, 1) := by decide +kernel
theorem dX5_thrown_1 : decode cX5_thrown 1 = .ok (.getfield 90, 3) := by decide +kernel
theorem dX5_thrown_4 : decode cX5_thrown 4 = .ok (.ireturn, 1) := by decide +kernel
theorem dX5_holds_0 : decode cX5_holds 0 = .ok (.aload_n 0, 1) := by decide +kernel
theorem dX5_holds_1 : decode cX5_holds 1 = .ok (.iload_n 1, 1) := by decide +kernel
theorem dX5_holds_2 : decode cX5_holds 2 = .ok (.putfield 90, 3) := by decide +kernel
theorem dX5_holds_5 : decode cX5_holds 5 = .ok (.iload_n 1, 1) := by decide +kernel
theorem dX5_holds_6 : decode cX5_holds 6 = .ok (.ifCond .ne 7, 3) := by decide +kernel
theorem dX5_holds_9 : decode cX5_holds 9 = .ok (.iconst 1, 1) := by decide +kernel
theorem dX5_holds_10 : decode cX5_holds 10 = .ok (.goto 4, 3) := by decide +kernel
theorem dX5_holds_13 : decode cX5_holds 13 = .ok (.iconst 0, 1) := by decide +kernel
theorem dX5_holds_14 : decode cX5_holds 14 = .ok (.ireturn, 1) := by decide +kernel
theorem dX5_in_0 : decode cX5_in 0 = .ok (.iload_n 0, 1) := by decide +kernel
theorem dX5_in_1 : decode cX5_in 1 = .ok (.iload_n 1, 1) := by decide +kernel
theorem dX5_in_2 : decode cX5_in 2 = .ok (.if_icmp .lt 12, 3) := by decide +kernel
theorem dX5_in_5 : decode cX5_in 5 = .ok (.iload_n 0, 1) := by decide +kernel
theorem dX5_in_6 : decode cX5_in 6 = .ok (.iload_n 2, 1) := by decide +kernel
theorem dX5_in_7 : decode cX5_in 7 = .ok (.if_icmp .gt 7, 3) := by decide +kernel
theorem dX5_in_10 : decode cX5_in 10 = .ok (.iconst 1, 1) := by decide +kernel
theorem dX5_in_11 : decode cX5_in 11 = .ok (.goto 4, 3) := by decide +kernel
theorem dX5_in_14 : decode cX5_in 14 = .ok (.iconst 0, 1) := by decide +kernel
theorem dX5_in_15 : decode cX5_in 15 = .ok (.ireturn, 1) := by decide +kernel
set_option maxRecDepth 20000 in
theorem ggX5_isPartition_X5_in : GoodIn wsX5_isPartition wsX5_in := goodIn_r _ [4] (by decide +kernel) (by decide +kernel)
set_option maxRecDepth 20000 in
theorem gX5_isPartition_X5_in : GoodIn wsX5_isPartition (va_wsS RX5 93 yX5_in wsX5_in) := goodIn_app (goodIn_of _ (by decide +kernel)) ggX5_isPartition_X5_in
theorem dX5_isPartition_0 : decode cX5_isPartition 0 = .ok (.iload_n 0, 1) := by decide +kernel
theorem dX5_isPartition_1 : decode cX5_isPartition 1 = .ok (.iconst 0, 1) := by decide +kernel
theorem dX5_isPartition_2 : decode cX5_isPartition 2 = .ok (.iconst 3, 1) := by decide +kernel
theorem dX5_isPartition_3 : decode cX5_isPartition 3 = .ok (.invokestatic 93, 3) := by decide +kernel
theorem dX5_isPartition_6 : decode cX5_isPartition 6 = .ok (.ireturn, 1) := by decide +kernel
set_option maxRecDepth 20000 in
theorem ggX5_isKey_X5_in : GoodIn wsX5_isKey wsX5_in := goodIn_r _ [4] (by decide +kernel) (by decide +kernel)
set_option maxRecDepth 20000 in
theorem gX5_isKey_X5_in : GoodIn wsX5_isKey (va_wsS RX5 93 yX5_in wsX5_in) := goodIn_app (goodIn_of _ (by decide +kernel)) ggX5_isKey_X5_in
theorem dX5_isKey_0 : decode cX5_isKey 0 = .ok (.iload_n 0, 1) := by decide +kernel
theorem dX5_isKey_1 : decode cX5_isKey 1 = .ok (.iconst 0, 1) := by decide +kernel
theorem dX5_isKey_2 : decode cX5_isKey 2 = .ok (.bipush 31, 2) := by decide +kernel
theorem dX5_isKey_4 : decode cX5_isKey 4 = .ok (.invokestatic 93, 3) := by decide +kernel
theorem dX5_isKey_7 : decode cX5_isKey 7 = .ok (.ireturn, 1) := by decide +kernel
set_option maxRecDepth 20000 in
theorem ggX5_isWorker_X5_in : GoodIn wsX5_isWorker wsX5_in := goodIn_r _ [5] (by decide +kernel) (by decide +kernel)
set_option maxRecDepth 20000 in
theorem gX5_isWorker_X5_in : GoodIn wsX5_isWorker (va_wsS RX5 93 yX5_in wsX5_in) := goodIn_app (goodIn_of _ (by decide +kernel)) ggX5_isWorker_X5_in
theorem dX5_isWorker_0 : decode cX5_isWorker 0 = .ok (.iload_n 1, 1) := by decide +kernel
theorem dX5_isWorker_1 : decode cX5_isWorker 1 = .ok (.iconst 0, 1) := by decide +kernel
theorem dX5_isWorker_2 : decode cX5_isWorker 2 = .ok (.aload_n 0, 1) := by decide +kernel
theorem dX5_isWorker_3 : decode cX5_isWorker 3 = .ok (.getfield 7, 3) := by decide +kernel
theorem dX5_isWorker_6 : decode cX5_isWorker 6 = .ok (.iconst 1, 1) := by decide +kernel
theorem dX5_isWorker_7 : decode cX5_isWorker 7 = .ok (.isub, 1) := by decide +kernel
theorem dX5_isWorker_8 : decode cX5_isWorker 8 = .ok (.invokestatic 93, 3) := by decide +kernel
theorem dX5_isWorker_11 : decode cX5_isWorker 11 = .ok (.ireturn, 1) := by decide +kernel
theorem dX5_workerOfGroup_0 : decode cX5_workerOfGroup 0 = .ok (.iload_n 0, 1) := by decide +kernel
theorem dX5_workerOfGroup_1 : decode cX5_workerOfGroup 1 = .ok (.iload_n 1, 1) := by decide +kernel
theorem dX5_workerOfGroup_2 : decode cX5_workerOfGroup 2 = .ok (.imul, 1) := by decide +kernel
theorem dX5_workerOfGroup_3 : decode cX5_workerOfGroup 3 = .ok (.bipush 8, 2) := by decide +kernel
theorem dX5_workerOfGroup_5 : decode cX5_workerOfGroup 5 = .ok (.idiv, 1) := by decide +kernel
theorem dX5_workerOfGroup_6 : decode cX5_workerOfGroup 6 = .ok (.ireturn, 1) := by decide +kernel
set_option maxRecDepth 20000 in
theorem ggX5_workerOfKey_X5_workerOfGroup : GoodIn wsX5_workerOfKey wsX5_workerOfGroup := goodIn_r _ [5] (by decide +kernel) (by decide +kernel)
set_option maxRecDepth 20000 in
theorem gX5_workerOfKey_X5_workerOfGroup : GoodIn wsX5_workerOfKey (va_wsS RX5 97 yX5_workerOfGroup wsX5_workerOfGroup) := goodIn_app (goodIn_of _ (by decide +kernel)) ggX5_workerOfKey_X5_workerOfGroup
theorem dX5_workerOfKey_0 : decode cX5_workerOfKey 0 = .ok (.iload_n 1, 1) := by decide +kernel
theorem dX5_workerOfKey_1 : decode cX5_workerOfKey 1 = .ok (.bipush 8, 2) := by decide +kernel
theorem dX5_workerOfKey_3 : decode cX5_workerOfKey 3 = .ok (.irem, 1) := by decide +kernel
theorem dX5_workerOfKey_4 : decode cX5_workerOfKey 4 = .ok (.aload_n 0, 1) := by decide +kernel
theorem dX5_workerOfKey_5 : decode cX5_workerOfKey 5 = .ok (.getfield 7, 3) := by decide +kernel
theorem dX5_workerOfKey_8 : decode cX5_workerOfKey 8 = .ok (.invokestatic 97, 3) := by decide +kernel
theorem dX5_workerOfKey_11 : decode cX5_workerOfKey 11 = .ok (.ireturn, 1) := by decide +kernel
theorem dX5_channel_0 : decode cX5_channel 0 = .ok (.iconst 4, 1) := by decide +kernel
theorem dX5_channel_1 : decode cX5_channel 1 = .ok (.iload_n 0, 1) := by decide +kernel
theorem dX5_channel_2 : decode cX5_channel 2 = .ok (.imul, 1) := by decide +kernel
theorem dX5_channel_3 : decode cX5_channel 3 = .ok (.iload_n 1, 1) := by decide +kernel
theorem dX5_channel_4 : decode cX5_channel 4 = .ok (.iadd, 1) := by decide +kernel
theorem dX5_channel_5 : decode cX5_channel 5 = .ok (.ireturn, 1) := by decide +kernel
theorem dX5_unseals_0 : decode cX5_unseals 0 = .ok (.iconst 0, 1) := by decide +kernel
theorem dX5_unseals_1 : decode cX5_unseals 1 = .ok (.istore_n 1, 1) := by decide +kernel
theorem dX5_unseals_2 : decode cX5_unseals 2 = .ok (.iload_n 1, 1) := by decide +kernel
theorem dX5_unseals_3 : decode cX5_unseals 3 = .ok (.iconst 4, 1) := by decide +kernel
theorem dX5_unseals_4 : decode cX5_unseals 4 = .ok (.if_icmp .ge 16, 3) := by decide +kernel
theorem dX5_unseals_7 : decode cX5_unseals 7 = .ok (.aload_n 0, 1) := by decide +kernel
theorem dX5_unseals_8 : decode cX5_unseals 8 = .ok (.getfield 51, 3) := by decide +kernel
theorem dX5_unseals_11 : decode cX5_unseals 11 = .ok (.iload_n 1, 1) := by decide +kernel
theorem dX5_unseals_12 : decode cX5_unseals 12 = .ok (.iconst (-1), 1) := by decide +kernel
theorem dX5_unseals_13 : decode cX5_unseals 13 = .ok (.iastore, 1) := by decide +kernel
theorem dX5_unseals_14 : decode cX5_unseals 14 = .ok (.iinc 1 1, 3) := by decide +kernel
theorem dX5_unseals_17 : decode cX5_unseals 17 = .ok (.goto (-15), 3) := by decide +kernel
theorem dX5_unseals_20 : decode cX5_unseals 20 = .ok (.return_, 1) := by decide +kernel
theorem dX5_copies_0 : decode cX5_copies 0 = .ok (.iconst 0, 1) := by decide +kernel
theorem dX5_copies_1 : decode cX5_copies 1 = .ok (.istore_n 2, 1) := by decide +kernel
theorem dX5_copies_2 : decode cX5_copies 2 = .ok (.iload_n 2, 1) := by decide +kernel
theorem dX5_copies_3 : decode cX5_copies 3 = .ok (.aload_n 0, 1) := by decide +kernel
theorem dX5_copies_4 : decode cX5_copies 4 = .ok (.arraylength, 1) := by decide +kernel
theorem dX5_copies_5 : decode cX5_copies 5 = .ok (.if_icmp .ge 15, 3) := by decide +kernel
theorem dX5_copies_8 : decode cX5_copies 8 = .ok (.aload_n 1, 1) := by decide +kernel
theorem dX5_copies_9 : decode cX5_copies 9 = .ok (.iload_n 2, 1) := by decide +kernel
theorem dX5_copies_10 : decode cX5_copies 10 = .ok (.aload_n 0, 1) := by decide +kernel
theorem dX5_copies_11 : decode cX5_copies 11 = .ok (.iload_n 2, 1) := by decide +kernel
theorem dX5_copies_12 : decode cX5_copies 12 = .ok (.iaload, 1) := by decide +kernel
theorem dX5_copies_13 : decode cX5_copies 13 = .ok (.iastore, 1) := by decide +kernel
theorem dX5_copies_14 : decode cX5_copies 14 = .ok (.iinc 2 1, 3) := by decide +kernel
theorem dX5_copies_17 : decode cX5_copies 17 = .ok (.goto (-15), 3) := by decide +kernel
theorem dX5_copies_20 : decode cX5_copies 20 = .ok (.return_, 1) := by decide +kernel
theorem dX5_clears_0 : decode cX5_clears 0 = .ok (.iconst 0, 1) := by decide +kernel
theorem dX5_clears_1 : decode cX5_clears 1 = .ok (.istore_n 1, 1) := by decide +kernel
theorem dX5_clears_2 : decode cX5_clears 2 = .ok (.iload_n 1, 1) := by decide +kernel
theorem dX5_clears_3 : decode cX5_clears 3 = .ok (.aload_n 0, 1) := by decide +kernel
theorem dX5_clears_4 : decode cX5_clears 4 = .ok (.arraylength, 1) := by decide +kernel
theorem dX5_clears_5 : decode cX5_clears 5 = .ok (.if_icmp .ge 13, 3) := by decide +kernel
theorem dX5_clears_8 : decode cX5_clears 8 = .ok (.aload_n 0, 1) := by decide +kernel
theorem dX5_clears_9 : decode cX5_clears 9 = .ok (.iload_n 1, 1) := by decide +kernel
theorem dX5_clears_10 : decode cX5_clears 10 = .ok (.iconst 0, 1) := by decide +kernel
theorem dX5_clears_11 : decode cX5_clears 11 = .ok (.iastore, 1) := by decide +kernel
theorem dX5_clears_12 : decode cX5_clears 12 = .ok (.iinc 1 1, 3) := by decide +kernel
theorem dX5_clears_15 : decode cX5_clears 15 = .ok (.goto (-13), 3) := by decide +kernel
theorem dX5_clears_18 : decode cX5_clears 18 = .ok (.return_, 1) := by decide +kernel
set_option maxRecDepth 20000 in
theorem ggX5_append_X5_isPartition : GoodIn wsX5_append wsX5_isPartition := goodIn_r _ [6, 7, 8, 5, 9] (by decide +kernel) (by decide +kernel)
set_option maxRecDepth 20000 in
theorem gX5_append_X5_isPartition : GoodIn wsX5_append (va_wsS RX5 101 yX5_isPartition wsX5_isPartition) := goodIn_app (goodIn_of _ (by decide +kernel)) ggX5_append_X5_isPartition
set_option maxRecDepth 20000 in
theorem ggX5_append_X5_isKey : GoodIn wsX5_append wsX5_isKey := goodIn_r _ [12, 7, 8, 5, 9] (by decide +kernel) (by decide +kernel)
set_option maxRecDepth 20000 in
theorem gX5_append_X5_isKey : GoodIn wsX5_append (va_wsS RX5 105 yX5_isKey wsX5_isKey) := goodIn_app (goodIn_of _ (by decide +kernel)) ggX5_append_X5_isKey
set_option maxRecDepth 20000 in
theorem ggX5_append_X5_in : GoodIn wsX5_append wsX5_in := goodIn_r _ [9] (by decide +kernel) (by decide +kernel)
set_option maxRecDepth 20000 in
theorem gX5_append_X5_in : GoodIn wsX5_append (va_wsS RX5 93 yX5_in wsX5_in) := goodIn_app (goodIn_of _ (by decide +kernel)) ggX5_append_X5_in
set_option maxRecDepth 20000 in
theorem ggX5_append_X5_holds : GoodIn wsX5_append wsX5_holds := goodIn_r _ [16, 17, 18, 19, 20, 21, 22, 23, 24, 25, 26, 27, 28, 29, 30, 31, 32, 33, 34, 35, 36, 37, 38, 39, 40, 41, 42, 43, 44] (by decide +kernel) (by decide +kernel)
set_option maxRecDepth 20000 in
theorem gX5_append_X5_holds : GoodIn wsX5_append (wsV RX5 108 RX5 yX5_holds wsX5_holds) := goodIn_app (goodIn_of _ (by decide +kernel)) ggX5_append_X5_holds
theorem dX5_append_0 : decode cX5_append 0 = .ok (.iload_n 1, 1) := by decide +kernel
theorem dX5_append_1 : decode cX5_append 1 = .ok (.invokestatic 101, 3) := by decide +kernel
theorem dX5_append_4 : decode cX5_append 4 = .ok (.ifCond .eq 14, 3) := by decide +kernel
theorem dX5_append_7 : decode cX5_append 7 = .ok (.iload_n 2, 1) := by decide +kernel
theorem dX5_append_8 : decode cX5_append 8 = .ok (.invokestatic 105, 3) := by decide +kernel
theorem dX5_append_11 : decode cX5_append 11 = .ok (.ifCond .eq 7, 3) := by decide +kernel
theorem dX5_append_14 : decode cX5_append 14 = .ok (.iconst 1, 1) := by decide +kernel
theorem dX5_append_15 : decode cX5_append 15 = .ok (.goto 4, 3) := by decide +kernel
theorem dX5_append_18 : decode cX5_append 18 = .ok (.iconst 0, 1) := by decide +kernel
theorem dX5_append_19 : decode cX5_append 19 = .ok (.istore 4, 2) := by decide +kernel
theorem dX5_append_21 : decode cX5_append 21 = .ok (.aload_n 0, 1) := by decide +kernel
theorem dX5_append_22 : decode cX5_append 22 = .ok (.iload 4, 2) := by decide +kernel
theorem dX5_append_24 : decode cX5_append 24 = .ok (.ifCond .ne 7, 3) := by decide +kernel
theorem dX5_append_27 : decode cX5_append 27 = .ok (.iconst 1, 1) := by decide +kernel
theorem dX5_append_28 : decode cX5_append 28 = .ok (.goto 33, 3) := by decide +kernel
theorem dX5_append_31 : decode cX5_append 31 = .ok (.iload_n 3, 1) := by decide +kernel
theorem dX5_append_32 : decode cX5_append 32 = .ok (.iconst 1, 1) := by decide +kernel
theorem dX5_append_33 : decode cX5_append 33 = .ok (.bipush 100, 2) := by decide +kernel
theorem dX5_append_35 : decode cX5_append 35 = .ok (.invokestatic 93, 3) := by decide +kernel
theorem dX5_append_38 : decode cX5_append 38 = .ok (.ifCond .ne 7, 3) := by decide +kernel
theorem dX5_append_41 : decode cX5_append 41 = .ok (.iconst 2, 1) := by decide +kernel
theorem dX5_append_42 : decode cX5_append 42 = .ok (.goto 19, 3) := by decide +kernel
theorem dX5_append_45 : decode cX5_append 45 = .ok (.aload_n 0, 1) := by decide +kernel
theorem dX5_append_46 : decode cX5_append 46 = .ok (.getfield 13, 3) := by decide +kernel
theorem dX5_append_49 : decode cX5_append 49 = .ok (.iload_n 1, 1) := by decide +kernel
theorem dX5_append_50 : decode cX5_append 50 = .ok (.iaload, 1) := by decide +kernel
theorem dX5_append_51 : decode cX5_append 51 = .ok (.bipush 60, 2) := by decide +kernel
theorem dX5_append_53 : decode cX5_append 53 = .ok (.if_icmp .ne 7, 3) := by decide +kernel
theorem dX5_append_56 : decode cX5_append 56 = .ok (.iconst 3, 1) := by decide +kernel
theorem dX5_append_57 : decode cX5_append 57 = .ok (.goto 4, 3) := by decide +kernel
theorem dX5_append_60 : decode cX5_append 60 = .ok (.iconst 0, 1) := by decide +kernel
theorem dX5_append_61 : decode cX5_append 61 = .ok (.invokevirtual 108, 3) := by decide +kernel
theorem dX5_append_64 : decode cX5_append 64 = .ok (.ifCond .ne 5, 3) := by decide +kernel
theorem dX5_append_67 : decode cX5_append 67 = .ok (.iconst 0, 1) := by decide +kernel
theorem dX5_append_68 : decode cX5_append 68 = .ok (.ireturn, 1) := by decide +kernel
theorem dX5_append_69 : decode cX5_append 69 = .ok (.aload_n 0, 1) := by decide +kernel
theorem dX5_append_70 : decode cX5_append 70 = .ok (.getfield 20, 3) := by decide +kernel
theorem dX5_append_73 : decode cX5_append 73 = .ok (.bipush 60, 2) := by decide +kernel
theorem dX5_append_75 : decode cX5_append 75 = .ok (.iload_n 1, 1) := by decide +kernel
theorem dX5_append_76 : decode cX5_append 76 = .ok (.imul, 1) := by decide +kernel
theorem dX5_append_77 : decode cX5_append 77 = .ok (.aload_n 0, 1) := by decide +kernel
theorem dX5_append_78 : decode cX5_append 78 = .ok (.getfield 13, 3) := by decide +kernel
theorem dX5_append_81 : decode cX5_append 81 = .ok (.iload_n 1, 1) := by decide +kernel
theorem dX5_append_82 : decode cX5_append 82 = .ok (.iaload, 1) := by decide +kernel
theorem dX5_append_83 : decode cX5_append 83 = .ok (.iadd, 1) := by decide +kernel
theorem dX5_append_84 : decode cX5_append 84 = .ok (.sipush 1000, 3) := by decide +kernel
theorem dX5_append_87 : decode cX5_append 87 = .ok (.iload_n 2, 1) := by decide +kernel
theorem dX5_append_88 : decode cX5_append 88 = .ok (.imul, 1) := by decide +kernel
theorem dX5_append_89 : decode cX5_append 89 = .ok (.iload_n 3, 1) := by decide +kernel
theorem dX5_append_90 : decode cX5_append 90 = .ok (.iadd, 1) := by decide +kernel
theorem dX5_append_91 : decode cX5_append 91 = .ok (.iastore, 1) := by decide +kernel
theorem dX5_append_92 : decode cX5_append 92 = .ok (.aload_n 0, 1) := by decide +kernel
theorem dX5_append_93 : decode cX5_append 93 = .ok (.getfield 13, 3) := by decide +kernel
theorem dX5_append_96 : decode cX5_append 96 = .ok (.iload_n 1, 1) := by decide +kernel
theorem dX5_append_97 : decode cX5_append 97 = .ok (.dup2, 1) := by decide +kernel
theorem dX5_append_98 : decode cX5_append 98 = .ok (.iaload, 1) := by decide +kernel
theorem dX5_append_99 : decode cX5_append 99 = .ok (.iconst 1, 1) := by decide +kernel
theorem dX5_append_100 : decode cX5_append 100 = .ok (.iadd, 1) := by decide +kernel
theorem dX5_append_101 : decode cX5_append 101 = .ok (.iastore, 1) := by decide +kernel
theorem dX5_append_102 : decode cX5_append 102 = .ok (.aload_n 0, 1) := by decide +kernel
theorem dX5_append_103 : decode cX5_append 103 = .ok (.getfield 13, 3) := by decide +kernel
theorem dX5_append_106 : decode cX5_append 106 = .ok (.iload_n 1, 1) := by decide +kernel
theorem dX5_append_107 : decode cX5_append 107 = .ok (.iaload, 1) := by decide +kernel
theorem dX5_append_108 : decode cX5_append 108 = .ok (.iconst 1, 1) := by decide +kernel
theorem dX5_append_109 : decode cX5_append 109 = .ok (.isub, 1) := by decide +kernel
theorem dX5_append_110 : decode cX5_append 110 = .ok (.ireturn, 1) := by decide +kernel
theorem dX5_puts_0 : decode cX5_puts 0 = .ok (.aload_n 0, 1) := by decide +kernel
theorem dX5_puts_1 : decode cX5_puts 1 = .ok (.getfield 23, 3) := by decide +kernel
theorem dX5_puts_4 : decode cX5_puts 4 = .ok (.bipush 8, 2) := by decide +kernel
theorem dX5_puts_6 : decode cX5_puts 6 = .ok (.iload_n 1, 1) := by decide +kernel
theorem dX5_puts_7 : decode cX5_puts 7 = .ok (.imul, 1) := by decide +kernel
theorem dX5_puts_8 : decode cX5_puts 8 = .ok (.aload_n 0, 1) := by decide +kernel
theorem dX5_puts_9 : decode cX5_puts 9 = .ok (.getfield 26, 3) := by decide +kernel
theorem dX5_puts_12 : decode cX5_puts 12 = .ok (.iload_n 1, 1) := by decide +kernel
theorem dX5_puts_13 : decode cX5_puts 13 = .ok (.iaload, 1) := by decide +kernel
theorem dX5_puts_14 : decode cX5_puts 14 = .ok (.iadd, 1) := by decide +kernel
theorem dX5_puts_15 : decode cX5_puts 15 = .ok (.iload_n 2, 1) := by decide +kernel
theorem dX5_puts_16 : decode cX5_puts 16 = .ok (.iastore, 1) := by decide +kernel
theorem dX5_puts_17 : decode cX5_puts 17 = .ok (.aload_n 0, 1) := by decide +kernel
theorem dX5_puts_18 : decode cX5_puts 18 = .ok (.getfield 26, 3) := by decide +kernel
theorem dX5_puts_21 : decode cX5_puts 21 = .ok (.iload_n 1, 1) := by decide +kernel
theorem dX5_puts_22 : decode cX5_puts 22 = .ok (.dup2, 1) := by decide +kernel
theorem dX5_puts_23 : decode cX5_puts 23 = .ok (.iaload, 1) := by decide +kernel
theorem dX5_puts_24 : decode cX5_puts 24 = .ok (.iconst 1, 1) := by decide +kernel
theorem dX5_puts_25 : decode cX5_puts 25 = .ok (.iadd, 1) := by decide +kernel
theorem dX5_puts_26 : decode cX5_puts 26 = .ok (.iastore, 1) := by decide +kernel
theorem dX5_puts_27 : decode cX5_puts 27 = .ok (.return_, 1) := by decide +kernel
theorem dX5_nextEvent_0 : decode cX5_nextEvent 0 = .ok (.aload_n 0, 1) := by decide +kernel
theorem dX5_nextEvent_1 : decode cX5_nextEvent 1 = .ok (.getfield 20, 3) := by decide +kernel
theorem dX5_nextEvent_4 : decode cX5_nextEvent 4 = .ok (.bipush 60, 2) := by decide +kernel
theorem dX5_nextEvent_6 : decode cX5_nextEvent 6 = .ok (.iload_n 1, 1) := by decide +kernel
theorem dX5_nextEvent_7 : decode cX5_nextEvent 7 = .ok (.imul, 1) := by decide +kernel
theorem dX5_nextEvent_8 : decode cX5_nextEvent 8 = .ok (.aload_n 0, 1) := by decide +kernel
theorem dX5_nextEvent_9 : decode cX5_nextEvent 9 = .ok (.getfield 17, 3) := by decide +kernel
theorem dX5_nextEvent_12 : decode cX5_nextEvent 12 = .ok (.iload_n 1, 1) := by decide +kernel
theorem dX5_nextEvent_13 : decode cX5_nextEvent 13 = .ok (.iaload, 1) := by decide +kernel
theorem dX5_nextEvent_14 : decode cX5_nextEvent 14 = .ok (.iadd, 1) := by decide +kernel
theorem dX5_nextEvent_15 : decode cX5_nextEvent 15 = .ok (.iaload, 1) := by decide +kernel
theorem dX5_nextEvent_16 : decode cX5_nextEvent 16 = .ok (.ireturn, 1) := by decide +kernel
set_option maxRecDepth 20000 in
theorem ggX5_canRead_X5_nextEvent : GoodIn wsX5_canRead wsX5_nextEvent := goodIn_r _ [8, 9, 1, 21, 22, 23, 24, 25, 26, 27, 28, 29, 30, 31, 32, 33, 34, 35, 36, 37, 38, 39, 40, 41, 42, 43, 44, 45, 46, 47] (by decide +kernel) (by decide +kernel)
set_option maxRecDepth 20000 in
theorem gX5_canRead_X5_nextEvent : GoodIn wsX5_canRead (wsV RX5 111 RX5 yX5_nextEvent wsX5_nextEvent) := goodIn_app (goodIn_of _ (by decide +kernel)) ggX5_canRead_X5_nextEvent
set_option maxRecDepth 20000 in
theorem ggX5_canRead_X5_workerOfKey : GoodIn wsX5_canRead wsX5_workerOfKey := goodIn_r _ [13, 14, 15, 16, 7, 17, 21, 22, 23, 24, 25, 26, 27, 28, 29, 30, 31, 32, 33, 34, 35, 36, 37, 38, 39, 40, 41, 42, 43, 44, 45, 46, 47] (by decide +kernel) (by decide +kernel)
set_option maxRecDepth 20000 in
theorem gX5_canRead_X5_workerOfKey : GoodIn wsX5_canRead (wsV RX5 115 RX5 yX5_workerOfKey wsX5_workerOfKey) := goodIn_app (goodIn_of _ (by decide +kernel)) ggX5_canRead_X5_workerOfKey
set_option maxRecDepth 20000 in
theorem ggX5_canRead_X5_channel : GoodIn wsX5_canRead wsX5_channel := goodIn_r _ [20] (by decide +kernel) (by decide +kernel)
set_option maxRecDepth 20000 in
theorem gX5_canRead_X5_channel : GoodIn wsX5_canRead (va_wsS RX5 118 yX5_channel wsX5_channel) := goodIn_app (goodIn_of _ (by decide +kernel)) ggX5_canRead_X5_channel
theorem dX5_canRead_0 : decode cX5_canRead 0 = .ok (.aload_n 0, 1) := by decide +kernel
theorem dX5_canRead_1 : decode cX5_canRead 1 = .ok (.getfield 17, 3) := by decide +kernel
theorem dX5_canRead_4 : decode cX5_canRead 4 = .ok (.iload_n 1, 1) := by decide +kernel
theorem dX5_canRead_5 : decode cX5_canRead 5 = .ok (.iaload, 1) := by decide +kernel
theorem dX5_canRead_6 : decode cX5_canRead 6 = .ok (.aload_n 0, 1) := by decide +kernel
theorem dX5_canRead_7 : decode cX5_canRead 7 = .ok (.getfield 13, 3) := by decide +kernel
theorem dX5_canRead_10 : decode cX5_canRead 10 = .ok (.iload_n 1, 1) := by decide +kernel
theorem dX5_canRead_11 : decode cX5_canRead 11 = .ok (.iaload, 1) := by decide +kernel
theorem dX5_canRead_12 : decode cX5_canRead 12 = .ok (.if_icmp .ge 34, 3) := by decide +kernel
theorem dX5_canRead_15 : decode cX5_canRead 15 = .ok (.aload_n 0, 1) := by decide +kernel
theorem dX5_canRead_16 : decode cX5_canRead 16 = .ok (.getfield 26, 3) := by decide +kernel
theorem dX5_canRead_19 : decode cX5_canRead 19 = .ok (.iload_n 1, 1) := by decide +kernel
theorem dX5_canRead_20 : decode cX5_canRead 20 = .ok (.aload_n 0, 1) := by decide +kernel
theorem dX5_canRead_21 : decode cX5_canRead 21 = .ok (.aload_n 0, 1) := by decide +kernel
theorem dX5_canRead_22 : decode cX5_canRead 22 = .ok (.iload_n 1, 1) := by decide +kernel
theorem dX5_canRead_23 : decode cX5_canRead 23 = .ok (.invokevirtual 111, 3) := by decide +kernel
theorem dX5_canRead_26 : decode cX5_canRead 26 = .ok (.sipush 1000, 3) := by decide +kernel
theorem dX5_canRead_29 : decode cX5_canRead 29 = .ok (.idiv, 1) := by decide +kernel
theorem dX5_canRead_30 : decode cX5_canRead 30 = .ok (.invokevirtual 115, 3) := by decide +kernel
theorem dX5_canRead_33 : decode cX5_canRead 33 = .ok (.invokestatic 118, 3) := by decide +kernel
theorem dX5_canRead_36 : decode cX5_canRead 36 = .ok (.iaload, 1) := by decide +kernel
theorem dX5_canRead_37 : decode cX5_canRead 37 = .ok (.bipush 8, 2) := by decide +kernel
theorem dX5_canRead_39 : decode cX5_canRead 39 = .ok (.if_icmp .ge 7, 3) := by decide +kernel
theorem dX5_canRead_42 : decode cX5_canRead 42 = .ok (.iconst 1, 1) := by decide +kernel
theorem dX5_canRead_43 : decode cX5_canRead 43 = .ok (.goto 4, 3) := by decide +kernel
theorem dX5_canRead_46 : decode cX5_canRead 46 = .ok (.iconst 0, 1) := by decide +kernel
theorem dX5_canRead_47 : decode cX5_canRead 47 = .ok (.ireturn, 1) := by decide +kernel
set_option maxRecDepth 20000 in
theorem ggX5_reads_X5_nextEvent : GoodIn wsX5_reads wsX5_nextEvent := goodIn_r _ [6, 7, 1, 25, 26, 27, 28, 29, 30, 31, 32, 33, 34, 35, 36, 37, 38, 39, 40, 41, 42, 43, 44, 45, 46, 47, 48, 49, 50, 51] (by decide +kernel) (by decide +kernel)
set_option maxRecDepth 20000 in
theorem gX5_reads_X5_nextEvent : GoodIn wsX5_reads (wsV RX5 111 RX5 yX5_nextEvent wsX5_nextEvent) := goodIn_app (goodIn_of _ (by decide +kernel)) ggX5_reads_X5_nextEvent
set_option maxRecDepth 20000 in
theorem ggX5_reads_X5_workerOfKey : GoodIn wsX5_reads wsX5_workerOfKey := goodIn_r _ [11, 12, 13, 14, 5, 15, 25, 26, 27, 28, 29, 30, 31, 32, 33, 34, 35, 36, 37, 38, 39, 40, 41, 42, 43, 44, 45, 46, 47, 48, 49, 50, 51] (by decide +kernel) (by decide +kernel)
set_option maxRecDepth 20000 in
theorem gX5_reads_X5_workerOfKey : GoodIn wsX5_reads (wsV RX5 115 RX5 yX5_workerOfKey wsX5_workerOfKey) := goodIn_app (goodIn_of _ (by decide +kernel)) ggX5_reads_X5_workerOfKey
set_option maxRecDepth 20000 in
theorem ggX5_reads_X5_channel : GoodIn wsX5_reads wsX5_channel := goodIn_r _ [18] (by decide +kernel) (by decide +kernel)
set_option maxRecDepth 20000 in
theorem gX5_reads_X5_channel : GoodIn wsX5_reads (va_wsS RX5 118 yX5_channel wsX5_channel) := goodIn_app (goodIn_of _ (by decide +kernel)) ggX5_reads_X5_channel
set_option maxRecDepth 20000 in
theorem ggX5_reads_X5_puts : GoodIn wsX5_reads wsX5_puts := goodIn_r _ [22, 23, 24, 25, 26, 27, 28, 29, 30, 31, 32, 33, 34, 35, 36, 37, 38, 39, 40, 41, 42, 43, 44, 45, 46, 47, 48, 49, 50, 51] (by decide +kernel) (by decide +kernel)
set_option maxRecDepth 20000 in
theorem gX5_reads_X5_puts : GoodIn wsX5_reads (wsV RX5 121 RX5 yX5_puts wsX5_puts) := goodIn_app (goodIn_of _ (by decide +kernel)) ggX5_reads_X5_puts
theorem dX5_reads_0 : decode cX5_reads 0 = .ok (.aload_n 0, 1) := by decide +kernel
theorem dX5_reads_1 : decode cX5_reads 1 = .ok (.iload_n 1, 1) := by decide +kernel
theorem dX5_reads_2 : decode cX5_reads 2 = .ok (.invokevirtual 111, 3) := by decide +kernel
theorem dX5_reads_5 : decode cX5_reads 5 = .ok (.istore_n 2, 1) := by decide +kernel
theorem dX5_reads_6 : decode cX5_reads 6 = .ok (.aload_n 0, 1) := by decide +kernel
theorem dX5_reads_7 : decode cX5_reads 7 = .ok (.iload_n 2, 1) := by decide +kernel
theorem dX5_reads_8 : decode cX5_reads 8 = .ok (.sipush 1000, 3) := by decide +kernel
theorem dX5_reads_11 : decode cX5_reads 11 = .ok (.idiv, 1) := by decide +kernel
theorem dX5_reads_12 : decode cX5_reads 12 = .ok (.invokevirtual 115, 3) := by decide +kernel
theorem dX5_reads_15 : decode cX5_reads 15 = .ok (.istore_n 3, 1) := by decide +kernel
theorem dX5_reads_16 : decode cX5_reads 16 = .ok (.aload_n 0, 1) := by decide +kernel
theorem dX5_reads_17 : decode cX5_reads 17 = .ok (.iload_n 1, 1) := by decide +kernel
theorem dX5_reads_18 : decode cX5_reads 18 = .ok (.iload_n 3, 1) := by decide +kernel
theorem dX5_reads_19 : decode cX5_reads 19 = .ok (.invokestatic 118, 3) := by decide +kernel
theorem dX5_reads_22 : decode cX5_reads 22 = .ok (.iload_n 2, 1) := by decide +kernel
theorem dX5_reads_23 : decode cX5_reads 23 = .ok (.invokevirtual 121, 3) := by decide +kernel
theorem dX5_reads_26 : decode cX5_reads 26 = .ok (.aload_n 0, 1) := by decide +kernel
theorem dX5_reads_27 : decode cX5_reads 27 = .ok (.getfield 17, 3) := by decide +kernel
theorem dX5_reads_30 : decode cX5_reads 30 = .ok (.iload_n 1, 1) := by decide +kernel
theorem dX5_reads_31 : decode cX5_reads 31 = .ok (.dup2, 1) := by decide +kernel
theorem dX5_reads_32 : decode cX5_reads 32 = .ok (.iaload, 1) := by decide +kernel
theorem dX5_reads_33 : decode cX5_reads 33 = .ok (.iconst 1, 1) := by decide +kernel
theorem dX5_reads_34 : decode cX5_reads 34 = .ok (.iadd, 1) := by decide +kernel
theorem dX5_reads_35 : decode cX5_reads 35 = .ok (.iastore, 1) := by decide +kernel
theorem dX5_reads_36 : decode cX5_reads 36 = .ok (.iload_n 3, 1) := by decide +kernel
theorem dX5_reads_37 : decode cX5_reads 37 = .ok (.ireturn, 1) := by decide +kernel
set_option maxRecDepth 20000 in
theorem ggX5_read_X5_isPartition : GoodIn wsX5_read wsX5_isPartition := goodIn_r _ [4, 5, 6, 3, 7] (by decide +kernel) (by decide +kernel)
set_option maxRecDepth 20000 in
theorem gX5_read_X5_isPartition : GoodIn wsX5_read (va_wsS RX5 101 yX5_isPartition wsX5_isPartition) := goodIn_app (goodIn_of _ (by decide +kernel)) ggX5_read_X5_isPartition
set_option maxRecDepth 20000 in
theorem ggX5_read_X5_canRead : GoodIn wsX5_read wsX5_canRead := goodIn_r _ [11, 12, 13, 14, 15, 16, 17, 3, 18, 19, 20, 21, 22, 23, 24, 25, 26, 27, 28, 29, 30, 45, 46, 47, 48, 49, 50, 51, 52, 53, 54, 55, 56, 57, 58, 59, 60, 61, 62, 63, 64, 65, 66, 67, 68, 69, 70, 71] (by decide +kernel) (by decide +kernel)
set_option maxRecDepth 20000 in
theorem gX5_read_X5_canRead : GoodIn wsX5_read (wsV RX5 125 RX5 yX5_canRead wsX5_canRead) := goodIn_app (goodIn_of _ (by decide +kernel)) ggX5_read_X5_canRead
set_option maxRecDepth 20000 in
theorem ggX5_read_X5_holds : GoodIn wsX5_read wsX5_holds := goodIn_r _ [34, 35, 45, 46, 47, 48, 49, 50, 51, 52, 53, 54, 55, 56, 57, 58, 59, 60, 61, 62, 63, 64, 65, 66, 67, 68, 69, 70, 71] (by decide +kernel) (by decide +kernel)
set_option maxRecDepth 20000 in
theorem gX5_read_X5_holds : GoodIn wsX5_read (wsV RX5 108 RX5 yX5_holds wsX5_holds) := goodIn_app (goodIn_of _ (by decide +kernel)) ggX5_read_X5_holds
set_option maxRecDepth 20000 in
theorem ggX5_read_X5_reads : GoodIn wsX5_read wsX5_reads := goodIn_r _ [39, 12, 15, 16, 17, 3, 18, 19, 20, 21, 22, 23, 24, 25, 26, 27, 28, 29, 30, 40, 41, 42, 43, 44, 14, 45, 46, 47, 48, 49, 50, 51, 52, 53, 54, 55, 56, 57, 58, 59, 60, 61, 62, 63, 64, 65, 66, 67, 68, 69, 70, 71] (by decide +kernel) (by decide +kernel)
set_option maxRecDepth 20000 in
theorem gX5_read_X5_reads : GoodIn wsX5_read (wsV RX5 128 RX5 yX5_reads wsX5_reads) := goodIn_app (goodIn_of _ (by decide +kernel)) ggX5_read_X5_reads
theorem dX5_read_0 : decode cX5_read 0 = .ok (.aload_n 0, 1) := by decide +kernel
theorem dX5_read_1 : decode cX5_read 1 = .ok (.iload_n 1, 1) := by decide +kernel
theorem dX5_read_2 : decode cX5_read 2 = .ok (.invokestatic 101, 3) := by decide +kernel
theorem dX5_read_5 : decode cX5_read 5 = .ok (.ifCond .ne 7, 3) := by decide +kernel
theorem dX5_read_8 : decode cX5_read 8 = .ok (.iconst 1, 1) := by decide +kernel
theorem dX5_read_9 : decode cX5_read 9 = .ok (.goto 16, 3) := by decide +kernel
theorem dX5_read_12 : decode cX5_read 12 = .ok (.aload_n 0, 1) := by decide +kernel
theorem dX5_read_13 : decode cX5_read 13 = .ok (.iload_n 1, 1) := by decide +kernel
theorem dX5_read_14 : decode cX5_read 14 = .ok (.invokevirtual 125, 3) := by decide +kernel
theorem dX5_read_17 : decode cX5_read 17 = .ok (.ifCond .eq 7, 3) := by decide +kernel
theorem dX5_read_20 : decode cX5_read 20 = .ok (.iconst 0, 1) := by decide +kernel
theorem dX5_read_21 : decode cX5_read 21 = .ok (.goto 4, 3) := by decide +kernel
theorem dX5_read_24 : decode cX5_read 24 = .ok (.iconst 2, 1) := by decide +kernel
theorem dX5_read_25 : decode cX5_read 25 = .ok (.invokevirtual 108, 3) := by decide +kernel
theorem dX5_read_28 : decode cX5_read 28 = .ok (.ifCond .eq 11, 3) := by decide +kernel
theorem dX5_read_31 : decode cX5_read 31 = .ok (.aload_n 0, 1) := by decide +kernel
theorem dX5_read_32 : decode cX5_read 32 = .ok (.iload_n 1, 1) := by decide +kernel
theorem dX5_read_33 : decode cX5_read 33 = .ok (.invokevirtual 128, 3) := by decide +kernel
theorem dX5_read_36 : decode cX5_read 36 = .ok (.goto 4, 3) := by decide +kernel
theorem dX5_read_39 : decode cX5_read 39 = .ok (.iconst 0, 1) := by decide +kernel
theorem dX5_read_40 : decode cX5_read 40 = .ok (.ireturn, 1) := by decide +kernel
set_option maxRecDepth 20000 in
theorem ggX5_canSend_X5_channel : GoodIn wsX5_canSend wsX5_channel := goodIn_r _ [8] (by decide +kernel) (by decide +kernel)
set_option maxRecDepth 20000 in
theorem gX5_canSend_X5_channel : GoodIn wsX5_canSend (va_wsS RX5 118 yX5_channel wsX5_channel) := goodIn_app (goodIn_of _ (by decide +kernel)) ggX5_canSend_X5_channel
theorem dX5_canSend_0 : decode cX5_canSend 0 = .ok (.aload_n 0, 1) := by decide +kernel
theorem dX5_canSend_1 : decode cX5_canSend 1 = .ok (.getfield 60, 3) := by decide +kernel
theorem dX5_canSend_4 : decode cX5_canSend 4 = .ok (.iconst (-1), 1) := by decide +kernel
theorem dX5_canSend_5 : decode cX5_canSend 5 = .ok (.if_icmp .eq 16, 3) := by decide +kernel
theorem dX5_canSend_8 : decode cX5_canSend 8 = .ok (.aload_n 0, 1) := by decide +kernel
theorem dX5_canSend_9 : decode cX5_canSend 9 = .ok (.getfield 66, 3) := by decide +kernel
theorem dX5_canSend_12 : decode cX5_canSend 12 = .ok (.iload_n 1, 1) := by decide +kernel
theorem dX5_canSend_13 : decode cX5_canSend 13 = .ok (.baload, 1) := by decide +kernel
theorem dX5_canSend_14 : decode cX5_canSend 14 = .ok (.ifCond .ne 7, 3) := by decide +kernel
theorem dX5_canSend_17 : decode cX5_canSend 17 = .ok (.iconst 1, 1) := by decide +kernel
theorem dX5_canSend_18 : decode cX5_canSend 18 = .ok (.goto 4, 3) := by decide +kernel
theorem dX5_canSend_21 : decode cX5_canSend 21 = .ok (.iconst 0, 1) := by decide +kernel
theorem dX5_canSend_22 : decode cX5_canSend 22 = .ok (.istore_n 2, 1) := by decide +kernel
theorem dX5_canSend_23 : decode cX5_canSend 23 = .ok (.iconst 0, 1) := by decide +kernel
theorem dX5_canSend_24 : decode cX5_canSend 24 = .ok (.istore_n 3, 1) := by decide +kernel
theorem dX5_canSend_25 : decode cX5_canSend 25 = .ok (.iload_n 3, 1) := by decide +kernel
theorem dX5_canSend_26 : decode cX5_canSend 26 = .ok (.aload_n 0, 1) := by decide +kernel
theorem dX5_canSend_27 : decode cX5_canSend 27 = .ok (.getfield 7, 3) := by decide +kernel
theorem dX5_canSend_30 : decode cX5_canSend 30 = .ok (.if_icmp .ge 34, 3) := by decide +kernel
theorem dX5_canSend_33 : decode cX5_canSend 33 = .ok (.iload_n 2, 1) := by decide +kernel
theorem dX5_canSend_34 : decode cX5_canSend 34 = .ok (.ifCond .eq 22, 3) := by decide +kernel
theorem dX5_canSend_37 : decode cX5_canSend 37 = .ok (.aload_n 0, 1) := by decide +kernel
theorem dX5_canSend_38 : decode cX5_canSend 38 = .ok (.getfield 26, 3) := by decide +kernel
theorem dX5_canSend_41 : decode cX5_canSend 41 = .ok (.iload_n 1, 1) := by decide +kernel
theorem dX5_canSend_42 : decode cX5_canSend 42 = .ok (.iload_n 3, 1) := by decide +kernel
theorem dX5_canSend_43 : decode cX5_canSend 43 = .ok (.invokestatic 118, 3) := by decide +kernel
theorem dX5_canSend_46 : decode cX5_canSend 46 = .ok (.iaload, 1) := by decide +kernel
theorem dX5_canSend_47 : decode cX5_canSend 47 = .ok (.bipush 8, 2) := by decide +kernel
theorem dX5_canSend_49 : decode cX5_canSend 49 = .ok (.if_icmp .ge 7, 3) := by decide +kernel
theorem dX5_canSend_52 : decode cX5_canSend 52 = .ok (.iconst 1, 1) := by decide +kernel
theorem dX5_canSend_53 : decode cX5_canSend 53 = .ok (.goto 4, 3) := by decide +kernel
theorem dX5_canSend_56 : decode cX5_canSend 56 = .ok (.iconst 0, 1) := by decide +kernel
theorem dX5_canSend_57 : decode cX5_canSend 57 = .ok (.istore_n 2, 1) := by decide +kernel
theorem dX5_canSend_58 : decode cX5_canSend 58 = .ok (.iinc 3 1, 3) := by decide +kernel
theorem dX5_canSend_61 : decode cX5_canSend 61 = .ok (.goto (-36), 3) := by decide +kernel
theorem dX5_canSend_64 : decode cX5_canSend 64 = .ok (.iload_n 2, 1) := by decide +kernel
theorem dX5_canSend_65 : decode cX5_canSend 65 = .ok (.ireturn, 1) := by decide +kernel
set_option maxRecDepth 20000 in
theorem ggX5_sendBarrier_X5_isPartition : GoodIn wsX5_sendBarrier wsX5_isPartition := goodIn_r _ [9, 10, 11, 8, 12] (by decide +kernel) (by decide +kernel)
set_option maxRecDepth 20000 in
theorem gX5_sendBarrier_X5_isPartition : GoodIn wsX5_sendBarrier (va_wsS RX5 101 yX5_isPartition wsX5_isPartition) := goodIn_app (goodIn_of _ (by decide +kernel)) ggX5_sendBarrier_X5_isPartition
set_option maxRecDepth 20000 in
theorem ggX5_sendBarrier_X5_canSend : GoodIn wsX5_sendBarrier wsX5_canSend := goodIn_r _ [16, 5, 1, 4, 17, 18, 19, 8, 20, 31, 32, 33, 34, 35, 36, 37, 38, 39, 40, 41, 42, 43, 44, 45, 46, 47, 48, 49, 50, 51, 52, 53, 54, 55, 56, 57] (by decide +kernel) (by decide +kernel)
set_option maxRecDepth 20000 in
theorem gX5_sendBarrier_X5_canSend : GoodIn wsX5_sendBarrier (wsV RX5 131 RX5 yX5_canSend wsX5_canSend) := goodIn_app (goodIn_of _ (by decide +kernel)) ggX5_sendBarrier_X5_canSend
set_option maxRecDepth 20000 in
theorem ggX5_sendBarrier_X5_holds : GoodIn wsX5_sendBarrier wsX5_holds := goodIn_r _ [24, 25, 31, 32, 33, 34, 35, 36, 37, 38, 39, 40, 41, 42, 43, 44, 45, 46, 47, 48, 49, 50, 51, 52, 53, 54, 55, 56, 57] (by decide +kernel) (by decide +kernel)
set_option maxRecDepth 20000 in
theorem gX5_sendBarrier_X5_holds : GoodIn wsX5_sendBarrier (wsV RX5 108 RX5 yX5_holds wsX5_holds) := goodIn_app (goodIn_of _ (by decide +kernel)) ggX5_sendBarrier_X5_holds
set_option maxRecDepth 20000 in
theorem ggX5_sendBarrier_X5_channel : GoodIn wsX5_sendBarrier wsX5_channel := goodIn_r _ [20] (by decide +kernel) (by decide +kernel)
set_option maxRecDepth 20000 in
theorem gX5_sendBarrier_X5_channel : GoodIn wsX5_sendBarrier (va_wsS RX5 118 yX5_channel wsX5_channel) := goodIn_app (goodIn_of _ (by decide +kernel)) ggX5_sendBarrier_X5_channel
set_option maxRecDepth 20000 in
theorem ggX5_sendBarrier_X5_puts : GoodIn wsX5_sendBarrier wsX5_puts := goodIn_r _ [29, 30, 17, 31, 32, 33, 34, 35, 36, 37, 38, 39, 40, 41, 42, 43, 44, 45, 46, 47, 48, 49, 50, 51, 52, 53, 54, 55, 56, 57] (by decide +kernel) (by decide +kernel)
set_option maxRecDepth 20000 in
theorem gX5_sendBarrier_X5_puts : GoodIn wsX5_sendBarrier (wsV RX5 121 RX5 yX5_puts wsX5_puts) := goodIn_app (goodIn_of _ (by decide +kernel)) ggX5_sendBarrier_X5_puts
theorem dX5_sendBarrier_0 : decode cX5_sendBarrier 0 = .ok (.aload_n 0, 1) := by decide +kernel
theorem dX5_sendBarrier_1 : decode cX5_sendBarrier 1 = .ok (.iload_n 1, 1) := by decide +kernel
theorem dX5_sendBarrier_2 : decode cX5_sendBarrier 2 = .ok (.invokestatic 101, 3) := by decide +kernel
theorem dX5_sendBarrier_5 : decode cX5_sendBarrier 5 = .ok (.ifCond .ne 7, 3) := by decide +kernel
theorem dX5_sendBarrier_8 : decode cX5_sendBarrier 8 = .ok (.iconst 1, 1) := by decide +kernel
theorem dX5_sendBarrier_9 : decode cX5_sendBarrier 9 = .ok (.goto 16, 3) := by decide +kernel
theorem dX5_sendBarrier_12 : decode cX5_sendBarrier 12 = .ok (.aload_n 0, 1) := by decide +kernel
theorem dX5_sendBarrier_13 : decode cX5_sendBarrier 13 = .ok (.iload_n 1, 1) := by decide +kernel
theorem dX5_sendBarrier_14 : decode cX5_sendBarrier 14 = .ok (.invokevirtual 131, 3) := by decide +kernel
theorem dX5_sendBarrier_17 : decode cX5_sendBarrier 17 = .ok (.ifCond .eq 7, 3) := by decide +kernel
theorem dX5_sendBarrier_20 : decode cX5_sendBarrier 20 = .ok (.iconst 0, 1) := by decide +kernel
theorem dX5_sendBarrier_21 : decode cX5_sendBarrier 21 = .ok (.goto 4, 3) := by decide +kernel
theorem dX5_sendBarrier_24 : decode cX5_sendBarrier 24 = .ok (.iconst 2, 1) := by decide +kernel
theorem dX5_sendBarrier_25 : decode cX5_sendBarrier 25 = .ok (.invokevirtual 108, 3) := by decide +kernel
theorem dX5_sendBarrier_28 : decode cX5_sendBarrier 28 = .ok (.ifCond .ne 5, 3) := by decide +kernel
theorem dX5_sendBarrier_31 : decode cX5_sendBarrier 31 = .ok (.iconst 0, 1) := by decide +kernel
theorem dX5_sendBarrier_32 : decode cX5_sendBarrier 32 = .ok (.ireturn, 1) := by decide +kernel
theorem dX5_sendBarrier_33 : decode cX5_sendBarrier 33 = .ok (.aload_n 0, 1) := by decide +kernel
theorem dX5_sendBarrier_34 : decode cX5_sendBarrier 34 = .ok (.getfield 66, 3) := by decide +kernel
theorem dX5_sendBarrier_37 : decode cX5_sendBarrier 37 = .ok (.iload_n 1, 1) := by decide +kernel
theorem dX5_sendBarrier_38 : decode cX5_sendBarrier 38 = .ok (.iconst 1, 1) := by decide +kernel
theorem dX5_sendBarrier_39 : decode cX5_sendBarrier 39 = .ok (.bastore, 1) := by decide +kernel
theorem dX5_sendBarrier_40 : decode cX5_sendBarrier 40 = .ok (.aload_n 0, 1) := by decide +kernel
theorem dX5_sendBarrier_41 : decode cX5_sendBarrier 41 = .ok (.getfield 69, 3) := by decide +kernel
theorem dX5_sendBarrier_44 : decode cX5_sendBarrier 44 = .ok (.iload_n 1, 1) := by decide +kernel
theorem dX5_sendBarrier_45 : decode cX5_sendBarrier 45 = .ok (.aload_n 0, 1) := by decide +kernel
theorem dX5_sendBarrier_46 : decode cX5_sendBarrier 46 = .ok (.getfield 17, 3) := by decide +kernel
theorem dX5_sendBarrier_49 : decode cX5_sendBarrier 49 = .ok (.iload_n 1, 1) := by decide +kernel
theorem dX5_sendBarrier_50 : decode cX5_sendBarrier 50 = .ok (.iaload, 1) := by decide +kernel
theorem dX5_sendBarrier_51 : decode cX5_sendBarrier 51 = .ok (.iastore, 1) := by decide +kernel
theorem dX5_sendBarrier_52 : decode cX5_sendBarrier 52 = .ok (.iconst 0, 1) := by decide +kernel
theorem dX5_sendBarrier_53 : decode cX5_sendBarrier 53 = .ok (.istore_n 2, 1) := by decide +kernel
theorem dX5_sendBarrier_54 : decode cX5_sendBarrier 54 = .ok (.iload_n 2, 1) := by decide +kernel
theorem dX5_sendBarrier_55 : decode cX5_sendBarrier 55 = .ok (.aload_n 0, 1) := by decide +kernel
theorem dX5_sendBarrier_56 : decode cX5_sendBarrier 56 = .ok (.getfield 7, 3) := by decide +kernel
theorem dX5_sendBarrier_59 : decode cX5_sendBarrier 59 = .ok (.if_icmp .ge 23, 3) := by decide +kernel
theorem dX5_sendBarrier_62 : decode cX5_sendBarrier 62 = .ok (.aload_n 0, 1) := by decide +kernel
theorem dX5_sendBarrier_63 : decode cX5_sendBarrier 63 = .ok (.iload_n 1, 1) := by decide +kernel
theorem dX5_sendBarrier_64 : decode cX5_sendBarrier 64 = .ok (.iload_n 2, 1) := by decide +kernel
theorem dX5_sendBarrier_65 : decode cX5_sendBarrier 65 = .ok (.invokestatic 118, 3) := by decide +kernel
theorem dX5_sendBarrier_68 : decode cX5_sendBarrier 68 = .ok (.aload_n 0, 1) := by decide +kernel
theorem dX5_sendBarrier_69 : decode cX5_sendBarrier 69 = .ok (.getfield 60, 3) := by decide +kernel
theorem dX5_sendBarrier_72 : decode cX5_sendBarrier 72 = .ok (.ineg, 1) := by decide +kernel
theorem dX5_sendBarrier_73 : decode cX5_sendBarrier 73 = .ok (.invokevirtual 121, 3) := by decide +kernel
theorem dX5_sendBarrier_76 : decode cX5_sendBarrier 76 = .ok (.iinc 2 1, 3) := by decide +kernel
theorem dX5_sendBarrier_79 : decode cX5_sendBarrier 79 = .ok (.goto (-25), 3) := by decide +kernel
theorem dX5_sendBarrier_82 : decode cX5_sendBarrier 82 = .ok (.aload_n 0, 1) := by decide +kernel
theorem dX5_sendBarrier_83 : decode cX5_sendBarrier 83 = .ok (.getfield 17, 3) := by decide +kernel
theorem dX5_sendBarrier_86 : decode cX5_sendBarrier 86 = .ok (.iload_n 1, 1) := by decide +kernel
theorem dX5_sendBarrier_87 : decode cX5_sendBarrier 87 = .ok (.iaload, 1) := by decide +kernel
theorem dX5_sendBarrier_88 : decode cX5_sendBarrier 88 = .ok (.ireturn, 1) := by decide +kernel
set_option maxRecDepth 20000 in
theorem ggX5_canTake_X5_channel : GoodIn wsX5_canTake wsX5_channel := goodIn_r _ [6] (by decide +kernel) (by decide +kernel)
set_option maxRecDepth 20000 in
theorem gX5_canTake_X5_channel : GoodIn wsX5_canTake (va_wsS RX5 118 yX5_channel wsX5_channel) := goodIn_app (goodIn_of _ (by decide +kernel)) ggX5_canTake_X5_channel
theorem dX5_canTake_0 : decode cX5_canTake 0 = .ok (.aload_n 0, 1) := by decide +kernel
theorem dX5_canTake_1 : decode cX5_canTake 1 = .ok (.getfield 26, 3) := by decide +kernel
theorem dX5_canTake_4 : decode cX5_canTake 4 = .ok (.iload_n 2, 1) := by decide +kernel
theorem dX5_canTake_5 : decode cX5_canTake 5 = .ok (.iload_n 1, 1) := by decide +kernel
theorem dX5_canTake_6 : decode cX5_canTake 6 = .ok (.invokestatic 118, 3) := by decide +kernel
theorem dX5_canTake_9 : decode cX5_canTake 9 = .ok (.iaload, 1) := by decide +kernel
theorem dX5_canTake_10 : decode cX5_canTake 10 = .ok (.ifCond .le 20, 3) := by decide +kernel
theorem dX5_canTake_13 : decode cX5_canTake 13 = .ok (.aload_n 0, 1) := by decide +kernel
theorem dX5_canTake_14 : decode cX5_canTake 14 = .ok (.getfield 29, 3) := by decide +kernel
theorem dX5_canTake_17 : decode cX5_canTake 17 = .ok (.iload_n 2, 1) := by decide +kernel
theorem dX5_canTake_18 : decode cX5_canTake 18 = .ok (.iload_n 1, 1) := by decide +kernel
theorem dX5_canTake_19 : decode cX5_canTake 19 = .ok (.invokestatic 118, 3) := by decide +kernel
theorem dX5_canTake_22 : decode cX5_canTake 22 = .ok (.baload, 1) := by decide +kernel
theorem dX5_canTake_23 : decode cX5_canTake 23 = .ok (.ifCond .ne 7, 3) := by decide +kernel
theorem dX5_canTake_26 : decode cX5_canTake 26 = .ok (.iconst 1, 1) := by decide +kernel
theorem dX5_canTake_27 : decode cX5_canTake 27 = .ok (.goto 4, 3) := by decide +kernel
theorem dX5_canTake_30 : decode cX5_canTake 30 = .ok (.iconst 0, 1) := by decide +kernel
theorem dX5_canTake_31 : decode cX5_canTake 31 = .ok (.ireturn, 1) := by decide +kernel
set_option maxRecDepth 20000 in
theorem ggX5_takes_X5_channel : GoodIn wsX5_takes wsX5_channel := goodIn_r _ [12] (by decide +kernel) (by decide +kernel)
set_option maxRecDepth 20000 in
theorem gX5_takes_X5_channel : GoodIn wsX5_takes (va_wsS RX5 118 yX5_channel wsX5_channel) := goodIn_app (goodIn_of _ (by decide +kernel)) ggX5_takes_X5_channel
set_option maxRecDepth 20000 in
theorem ggX5_takes_X5_aligns : GoodIn wsX5_takes wsX5_aligns := goodIn_r _ [16, 8, 17, 3, 18, 5, 19, 4, 20, 6, 21, 7, 9, 10, 11, 12, 22, 23, 24, 25, 26, 27, 28, 29, 30, 31, 32, 33, 34, 35, 36, 37, 38, 39, 40, 41, 42, 43, 44, 45, 46, 47, 48, 49, 50, 51, 52, 53, 54, 55, 56, 57, 58, 59, 60, 61, 62, 63, 64, 65, 66, 67, 68] (by decide +kernel) (by decide +kernel)
set_option maxRecDepth 20000 in
theorem gX5_takes_X5_aligns : GoodIn wsX5_takes (wsV RX5 134 RX5 yX5_aligns wsX5_aligns) := goodIn_app (goodIn_of _ (by decide +kernel)) ggX5_takes_X5_aligns
theorem dX5_takes_0 : decode cX5_takes 0 = .ok (.iload_n 2, 1) := by decide +kernel
theorem dX5_takes_1 : decode cX5_takes 1 = .ok (.iload_n 1, 1) := by decide +kernel
theorem dX5_takes_2 : decode cX5_takes 2 = .ok (.invokestatic 118, 3) := by decide +kernel
theorem dX5_takes_5 : decode cX5_takes 5 = .ok (.istore_n 3, 1) := by decide +kernel
theorem dX5_takes_6 : decode cX5_takes 6 = .ok (.aload_n 0, 1) := by decide +kernel
theorem dX5_takes_7 : decode cX5_takes 7 = .ok (.getfield 23, 3) := by decide +kernel
theorem dX5_takes_10 : decode cX5_takes 10 = .ok (.bipush 8, 2) := by decide +kernel
theorem dX5_takes_12 : decode cX5_takes 12 = .ok (.iload_n 3, 1) := by decide +kernel
theorem dX5_takes_13 : decode cX5_takes 13 = .ok (.imul, 1) := by decide +kernel
theorem dX5_takes_14 : decode cX5_takes 14 = .ok (.iaload, 1) := by decide +kernel
theorem dX5_takes_15 : decode cX5_takes 15 = .ok (.istore 4, 2) := by decide +kernel
theorem dX5_takes_17 : decode cX5_takes 17 = .ok (.aload_n 0, 1) := by decide +kernel
theorem dX5_takes_18 : decode cX5_takes 18 = .ok (.getfield 26, 3) := by decide +kernel
theorem dX5_takes_21 : decode cX5_takes 21 = .ok (.iload_n 3, 1) := by decide +kernel
theorem dX5_takes_22 : decode cX5_takes 22 = .ok (.dup2, 1) := by decide +kernel
theorem dX5_takes_23 : decode cX5_takes 23 = .ok (.iaload, 1) := by decide +kernel
theorem dX5_takes_24 : decode cX5_takes 24 = .ok (.iconst 1, 1) := by decide +kernel
theorem dX5_takes_25 : decode cX5_takes 25 = .ok (.isub, 1) := by decide +kernel
theorem dX5_takes_26 : decode cX5_takes 26 = .ok (.iastore, 1) := by decide +kernel
theorem dX5_takes_27 : decode cX5_takes 27 = .ok (.bipush 8, 2) := by decide +kernel
theorem dX5_takes_29 : decode cX5_takes 29 = .ok (.iload_n 3, 1) := by decide +kernel
theorem dX5_takes_30 : decode cX5_takes 30 = .ok (.imul, 1) := by decide +kernel
theorem dX5_takes_31 : decode cX5_takes 31 = .ok (.istore 5, 2) := by decide +kernel
theorem dX5_takes_33 : decode cX5_takes 33 = .ok (.iload 5, 2) := by decide +kernel
theorem dX5_takes_35 : decode cX5_takes 35 = .ok (.bipush 8, 2) := by decide +kernel
theorem dX5_takes_37 : decode cX5_takes 37 = .ok (.iload_n 3, 1) := by decide +kernel
theorem dX5_takes_38 : decode cX5_takes 38 = .ok (.imul, 1) := by decide +kernel
theorem dX5_takes_39 : decode cX5_takes 39 = .ok (.aload_n 0, 1) := by decide +kernel
theorem dX5_takes_40 : decode cX5_takes 40 = .ok (.getfield 26, 3) := by decide +kernel
theorem dX5_takes_43 : decode cX5_takes 43 = .ok (.iload_n 3, 1) := by decide +kernel
theorem dX5_takes_44 : decode cX5_takes 44 = .ok (.iaload, 1) := by decide +kernel
theorem dX5_takes_45 : decode cX5_takes 45 = .ok (.iadd, 1) := by decide +kernel
theorem dX5_takes_46 : decode cX5_takes 46 = .ok (.if_icmp .ge 25, 3) := by decide +kernel
theorem dX5_takes_49 : decode cX5_takes 49 = .ok (.aload_n 0, 1) := by decide +kernel
theorem dX5_takes_50 : decode cX5_takes 50 = .ok (.getfield 23, 3) := by decide +kernel
theorem dX5_takes_53 : decode cX5_takes 53 = .ok (.iload 5, 2) := by decide +kernel
theorem dX5_takes_55 : decode cX5_takes 55 = .ok (.aload_n 0, 1) := by decide +kernel
theorem dX5_takes_56 : decode cX5_takes 56 = .ok (.getfield 23, 3) := by decide +kernel
theorem dX5_takes_59 : decode cX5_takes 59 = .ok (.iload 5, 2) := by decide +kernel
theorem dX5_takes_61 : decode cX5_takes 61 = .ok (.iconst 1, 1) := by decide +kernel
theorem dX5_takes_62 : decode cX5_takes 62 = .ok (.iadd, 1) := by decide +kernel
theorem dX5_takes_63 : decode cX5_takes 63 = .ok (.iaload, 1) := by decide +kernel
theorem dX5_takes_64 : decode cX5_takes 64 = .ok (.iastore, 1) := by decide +kernel
theorem dX5_takes_65 : decode cX5_takes 65 = .ok (.iinc 5 1, 3) := by decide +kernel
theorem dX5_takes_68 : decode cX5_takes 68 = .ok (.goto (-35), 3) := by decide +kernel
theorem dX5_takes_71 : decode cX5_takes 71 = .ok (.iload 4, 2) := by decide +kernel
theorem dX5_takes_73 : decode cX5_takes 73 = .ok (.ifCond .le 73, 3) := by decide +kernel
theorem dX5_takes_76 : decode cX5_takes 76 = .ok (.iload 4, 2) := by decide +kernel
theorem dX5_takes_78 : decode cX5_takes 78 = .ok (.sipush 1000, 3) := by decide +kernel
theorem dX5_takes_81 : decode cX5_takes 81 = .ok (.idiv, 1) := by decide +kernel
theorem dX5_takes_82 : decode cX5_takes 82 = .ok (.istore 5, 2) := by decide +kernel
theorem dX5_takes_84 : decode cX5_takes 84 = .ok (.aload_n 0, 1) := by decide +kernel
theorem dX5_takes_85 : decode cX5_takes 85 = .ok (.getfield 33, 3) := by decide +kernel
theorem dX5_takes_88 : decode cX5_takes 88 = .ok (.iload 5, 2) := by decide +kernel
theorem dX5_takes_90 : decode cX5_takes 90 = .ok (.dup2, 1) := by decide +kernel
theorem dX5_takes_91 : decode cX5_takes 91 = .ok (.iaload, 1) := by decide +kernel
theorem dX5_takes_92 : decode cX5_takes 92 = .ok (.iconst 1, 1) := by decide +kernel
theorem dX5_takes_93 : decode cX5_takes 93 = .ok (.iadd, 1) := by decide +kernel
theorem dX5_takes_94 : decode cX5_takes 94 = .ok (.iastore, 1) := by decide +kernel
theorem dX5_takes_95 : decode cX5_takes 95 = .ok (.aload_n 0, 1) := by decide +kernel
theorem dX5_takes_96 : decode cX5_takes 96 = .ok (.getfield 39, 3) := by decide +kernel
theorem dX5_takes_99 : decode cX5_takes 99 = .ok (.iload 5, 2) := by decide +kernel
theorem dX5_takes_101 : decode cX5_takes 101 = .ok (.dup2, 1) := by decide +kernel
theorem dX5_takes_102 : decode cX5_takes 102 = .ok (.iaload, 1) := by decide +kernel
theorem dX5_takes_103 : decode cX5_takes 103 = .ok (.iconst 1, 1) := by decide +kernel
theorem dX5_takes_104 : decode cX5_takes 104 = .ok (.iadd, 1) := by decide +kernel
theorem dX5_takes_105 : decode cX5_takes 105 = .ok (.iastore, 1) := by decide +kernel
theorem dX5_takes_106 : decode cX5_takes 106 = .ok (.aload_n 0, 1) := by decide +kernel
theorem dX5_takes_107 : decode cX5_takes 107 = .ok (.getfield 36, 3) := by decide +kernel
theorem dX5_takes_110 : decode cX5_takes 110 = .ok (.iload 5, 2) := by decide +kernel
theorem dX5_takes_112 : decode cX5_takes 112 = .ok (.dup2, 1) := by decide +kernel
theorem dX5_takes_113 : decode cX5_takes 113 = .ok (.iaload, 1) := by decide +kernel
theorem dX5_takes_114 : decode cX5_takes 114 = .ok (.iload 4, 2) := by decide +kernel
theorem dX5_takes_116 : decode cX5_takes 116 = .ok (.sipush 1000, 3) := by decide +kernel
theorem dX5_takes_119 : decode cX5_takes 119 = .ok (.irem, 1) := by decide +kernel
theorem dX5_takes_120 : decode cX5_takes 120 = .ok (.iadd, 1) := by decide +kernel
theorem dX5_takes_121 : decode cX5_takes 121 = .ok (.iastore, 1) := by decide +kernel
theorem dX5_takes_122 : decode cX5_takes 122 = .ok (.aload_n 0, 1) := by decide +kernel
theorem dX5_takes_123 : decode cX5_takes 123 = .ok (.getfield 42, 3) := by decide +kernel
theorem dX5_takes_126 : decode cX5_takes 126 = .ok (.iload 5, 2) := by decide +kernel
theorem dX5_takes_128 : decode cX5_takes 128 = .ok (.dup2, 1) := by decide +kernel
theorem dX5_takes_129 : decode cX5_takes 129 = .ok (.iaload, 1) := by decide +kernel
theorem dX5_takes_130 : decode cX5_takes 130 = .ok (.iload 4, 2) := by decide +kernel
theorem dX5_takes_132 : decode cX5_takes 132 = .ok (.sipush 1000, 3) := by decide +kernel
theorem dX5_takes_135 : decode cX5_takes 135 = .ok (.irem, 1) := by decide +kernel
theorem dX5_takes_136 : decode cX5_takes 136 = .ok (.iadd, 1) := by decide +kernel
theorem dX5_takes_137 : decode cX5_takes 137 = .ok (.iastore, 1) := by decide +kernel
theorem dX5_takes_138 : decode cX5_takes 138 = .ok (.aload_n 0, 1) := by decide +kernel
theorem dX5_takes_139 : decode cX5_takes 139 = .ok (.getfield 33, 3) := by decide +kernel
theorem dX5_takes_142 : decode cX5_takes 142 = .ok (.iload 5, 2) := by decide +kernel
theorem dX5_takes_144 : decode cX5_takes 144 = .ok (.iaload, 1) := by decide +kernel
theorem dX5_takes_145 : decode cX5_takes 145 = .ok (.ireturn, 1) := by decide +kernel
theorem dX5_takes_146 : decode cX5_takes 146 = .ok (.iload 4, 2) := by decide +kernel
theorem dX5_takes_148 : decode cX5_takes 148 = .ok (.ineg, 1) := by decide +kernel
theorem dX5_takes_149 : decode cX5_takes 149 = .ok (.aload_n 0, 1) := by decide +kernel
theorem dX5_takes_150 : decode cX5_takes 150 = .ok (.getfield 60, 3) := by decide +kernel
theorem dX5_takes_153 : decode cX5_takes 153 = .ok (.if_icmp .ne 15, 3) := by decide +kernel
theorem dX5_takes_156 : decode cX5_takes 156 = .ok (.aload_n 0, 1) := by decide +kernel
theorem dX5_takes_157 : decode cX5_takes 157 = .ok (.getfield 29, 3) := by decide +kernel
theorem dX5_takes_160 : decode cX5_takes 160 = .ok (.iload_n 3, 1) := by decide +kernel
theorem dX5_takes_161 : decode cX5_takes 161 = .ok (.iconst 1, 1) := by decide +kernel
theorem dX5_takes_162 : decode cX5_takes 162 = .ok (.bastore, 1) := by decide +kernel
theorem dX5_takes_163 : decode cX5_takes 163 = .ok (.aload_n 0, 1) := by decide +kernel
theorem dX5_takes_164 : decode cX5_takes 164 = .ok (.iload_n 1, 1) := by decide +kernel
theorem dX5_takes_165 : decode cX5_takes 165 = .ok (.invokevirtual 134, 3) := by decide +kernel
theorem dX5_takes_168 : decode cX5_takes 168 = .ok (.iconst 0, 1) := by decide +kernel
theorem dX5_takes_169 : decode cX5_takes 169 = .ok (.ireturn, 1) := by decide +kernel
set_option maxRecDepth 20000 in
theorem ggX5_aligns_X5_channel : GoodIn wsX5_aligns wsX5_channel := goodIn_r _ [15] (by decide +kernel) (by decide +kernel)
set_option maxRecDepth 20000 in
theorem gX5_aligns_X5_channel : GoodIn wsX5_aligns (va_wsS RX5 118 yX5_channel wsX5_channel) := goodIn_app (goodIn_of _ (by decide +kernel)) ggX5_aligns_X5_channel
set_option maxRecDepth 20000 in
theorem ggX5_aligns_X5_workerOfKey : GoodIn wsX5_aligns wsX5_workerOfKey := goodIn_r _ [19, 20, 21, 22, 14, 23, 36, 37, 38, 39, 40, 41, 42, 43, 44, 45, 46, 47, 48, 49, 50, 51, 52, 53, 54, 55, 56, 57, 58, 59, 60, 61, 62] (by decide +kernel) (by decide +kernel)
set_option maxRecDepth 20000 in
theorem gX5_aligns_X5_workerOfKey : GoodIn wsX5_aligns (wsV RX5 115 RX5 yX5_workerOfKey wsX5_workerOfKey) := goodIn_app (goodIn_of _ (by decide +kernel)) ggX5_aligns_X5_workerOfKey
set_option maxRecDepth 20000 in
theorem ggX5_aligns_X5_completes : GoodIn wsX5_aligns wsX5_completes := goodIn_r _ [27, 20, 10, 11, 28, 29, 30, 2, 31, 4, 32, 33, 34, 14, 35, 36, 37, 38, 39, 40, 41, 42, 43, 44, 45, 46, 47, 48, 49, 50, 51, 52, 53, 54, 55, 56, 57, 58, 59, 60, 61, 62] (by decide +kernel) (by decide +kernel)
set_option maxRecDepth 20000 in
theorem gX5_aligns_X5_completes : GoodIn wsX5_aligns (wsV RX5 138 RX5 yX5_completes wsX5_completes) := goodIn_app (goodIn_of _ (by decide +kernel)) ggX5_aligns_X5_completes
theorem dX5_aligns_0 : decode cX5_aligns 0 = .ok (.iconst 0, 1) := by decide +kernel
theorem dX5_aligns_1 : decode cX5_aligns 1 = .ok (.istore_n 2, 1) := by decide +kernel
theorem dX5_aligns_2 : decode cX5_aligns 2 = .ok (.iload_n 2, 1) := by decide +kernel
theorem dX5_aligns_3 : decode cX5_aligns 3 = .ok (.iconst 4, 1) := by decide +kernel
theorem dX5_aligns_4 : decode cX5_aligns 4 = .ok (.if_icmp .ge 23, 3) := by decide +kernel
theorem dX5_aligns_7 : decode cX5_aligns 7 = .ok (.aload_n 0, 1) := by decide +kernel
theorem dX5_aligns_8 : decode cX5_aligns 8 = .ok (.getfield 29, 3) := by decide +kernel
theorem dX5_aligns_11 : decode cX5_aligns 11 = .ok (.iload_n 2, 1) := by decide +kernel
theorem dX5_aligns_12 : decode cX5_aligns 12 = .ok (.iload_n 1, 1) := by decide +kernel
theorem dX5_aligns_13 : decode cX5_aligns 13 = .ok (.invokestatic 118, 3) := by decide +kernel
theorem dX5_aligns_16 : decode cX5_aligns 16 = .ok (.baload, 1) := by decide +kernel
theorem dX5_aligns_17 : decode cX5_aligns 17 = .ok (.ifCond .ne 4, 3) := by decide +kernel
theorem dX5_aligns_20 : decode cX5_aligns 20 = .ok (.return_, 1) := by decide +kernel
theorem dX5_aligns_21 : decode cX5_aligns 21 = .ok (.iinc 2 1, 3) := by decide +kernel
theorem dX5_aligns_24 : decode cX5_aligns 24 = .ok (.goto (-22), 3) := by decide +kernel
theorem dX5_aligns_27 : decode cX5_aligns 27 = .ok (.iconst 0, 1) := by decide +kernel
theorem dX5_aligns_28 : decode cX5_aligns 28 = .ok (.istore_n 2, 1) := by decide +kernel
theorem dX5_aligns_29 : decode cX5_aligns 29 = .ok (.iload_n 2, 1) := by decide +kernel
theorem dX5_aligns_30 : decode cX5_aligns 30 = .ok (.iconst 4, 1) := by decide +kernel
theorem dX5_aligns_31 : decode cX5_aligns 31 = .ok (.if_icmp .ge 20, 3) := by decide +kernel
theorem dX5_aligns_34 : decode cX5_aligns 34 = .ok (.aload_n 0, 1) := by decide +kernel
theorem dX5_aligns_35 : decode cX5_aligns 35 = .ok (.getfield 29, 3) := by decide +kernel
theorem dX5_aligns_38 : decode cX5_aligns 38 = .ok (.iload_n 2, 1) := by decide +kernel
theorem dX5_aligns_39 : decode cX5_aligns 39 = .ok (.iload_n 1, 1) := by decide +kernel
theorem dX5_aligns_40 : decode cX5_aligns 40 = .ok (.invokestatic 118, 3) := by decide +kernel
theorem dX5_aligns_43 : decode cX5_aligns 43 = .ok (.iconst 0, 1) := by decide +kernel
theorem dX5_aligns_44 : decode cX5_aligns 44 = .ok (.bastore, 1) := by decide +kernel
theorem dX5_aligns_45 : decode cX5_aligns 45 = .ok (.iinc 2 1, 3) := by decide +kernel
theorem dX5_aligns_48 : decode cX5_aligns 48 = .ok (.goto (-19), 3) := by decide +kernel
theorem dX5_aligns_51 : decode cX5_aligns 51 = .ok (.iconst 0, 1) := by decide +kernel
theorem dX5_aligns_52 : decode cX5_aligns 52 = .ok (.istore_n 2, 1) := by decide +kernel
theorem dX5_aligns_53 : decode cX5_aligns 53 = .ok (.iload_n 2, 1) := by decide +kernel
theorem dX5_aligns_54 : decode cX5_aligns 54 = .ok (.bipush 32, 2) := by decide +kernel
theorem dX5_aligns_56 : decode cX5_aligns 56 = .ok (.if_icmp .ge 80, 3) := by decide +kernel
theorem dX5_aligns_59 : decode cX5_aligns 59 = .ok (.aload_n 0, 1) := by decide +kernel
theorem dX5_aligns_60 : decode cX5_aligns 60 = .ok (.iload_n 2, 1) := by decide +kernel
theorem dX5_aligns_61 : decode cX5_aligns 61 = .ok (.invokevirtual 115, 3) := by decide +kernel
theorem dX5_aligns_64 : decode cX5_aligns 64 = .ok (.iload_n 1, 1) := by decide +kernel
theorem dX5_aligns_65 : decode cX5_aligns 65 = .ok (.if_icmp .ne 65, 3) := by decide +kernel
theorem dX5_aligns_68 : decode cX5_aligns 68 = .ok (.aload_n 0, 1) := by decide +kernel
theorem dX5_aligns_69 : decode cX5_aligns 69 = .ok (.getfield 72, 3) := by decide +kernel
theorem dX5_aligns_72 : decode cX5_aligns 72 = .ok (.iload_n 2, 1) := by decide +kernel
theorem dX5_aligns_73 : decode cX5_aligns 73 = .ok (.aload_n 0, 1) := by decide +kernel
theorem dX5_aligns_74 : decode cX5_aligns 74 = .ok (.getfield 33, 3) := by decide +kernel
theorem dX5_aligns_77 : decode cX5_aligns 77 = .ok (.iload_n 2, 1) := by decide +kernel
theorem dX5_aligns_78 : decode cX5_aligns 78 = .ok (.iaload, 1) := by decide +kernel
theorem dX5_aligns_79 : decode cX5_aligns 79 = .ok (.iastore, 1) := by decide +kernel
theorem dX5_aligns_80 : decode cX5_aligns 80 = .ok (.aload_n 0, 1) := by decide +kernel
theorem dX5_aligns_81 : decode cX5_aligns 81 = .ok (.getfield 75, 3) := by decide +kernel
theorem dX5_aligns_84 : decode cX5_aligns 84 = .ok (.iload_n 2, 1) := by decide +kernel
theorem dX5_aligns_85 : decode cX5_aligns 85 = .ok (.aload_n 0, 1) := by decide +kernel
theorem dX5_aligns_86 : decode cX5_aligns 86 = .ok (.getfield 36, 3) := by decide +kernel
theorem dX5_aligns_89 : decode cX5_aligns 89 = .ok (.iload_n 2, 1) := by decide +kernel
theorem dX5_aligns_90 : decode cX5_aligns 90 = .ok (.iaload, 1) := by decide +kernel
theorem dX5_aligns_91 : decode cX5_aligns 91 = .ok (.iastore, 1) := by decide +kernel
theorem dX5_aligns_92 : decode cX5_aligns 92 = .ok (.aload_n 0, 1) := by decide +kernel
theorem dX5_aligns_93 : decode cX5_aligns 93 = .ok (.getfield 45, 3) := by decide +kernel
theorem dX5_aligns_96 : decode cX5_aligns 96 = .ok (.iload_n 2, 1) := by decide +kernel
theorem dX5_aligns_97 : decode cX5_aligns 97 = .ok (.aload_n 0, 1) := by decide +kernel
theorem dX5_aligns_98 : decode cX5_aligns 98 = .ok (.getfield 39, 3) := by decide +kernel
theorem dX5_aligns_101 : decode cX5_aligns 101 = .ok (.iload_n 2, 1) := by decide +kernel
theorem dX5_aligns_102 : decode cX5_aligns 102 = .ok (.iaload, 1) := by decide +kernel
theorem dX5_aligns_103 : decode cX5_aligns 103 = .ok (.iastore, 1) := by decide +kernel
theorem dX5_aligns_104 : decode cX5_aligns 104 = .ok (.aload_n 0, 1) := by decide +kernel
theorem dX5_aligns_105 : decode cX5_aligns 105 = .ok (.getfield 48, 3) := by decide +kernel
theorem dX5_aligns_108 : decode cX5_aligns 108 = .ok (.iload_n 2, 1) := by decide +kernel
theorem dX5_aligns_109 : decode cX5_aligns 109 = .ok (.aload_n 0, 1) := by decide +kernel
theorem dX5_aligns_110 : decode cX5_aligns 110 = .ok (.getfield 42, 3) := by decide +kernel
theorem dX5_aligns_113 : decode cX5_aligns 113 = .ok (.iload_n 2, 1) := by decide +kernel
theorem dX5_aligns_114 : decode cX5_aligns 114 = .ok (.iaload, 1) := by decide +kernel
theorem dX5_aligns_115 : decode cX5_aligns 115 = .ok (.iastore, 1) := by decide +kernel
theorem dX5_aligns_116 : decode cX5_aligns 116 = .ok (.aload_n 0, 1) := by decide +kernel
theorem dX5_aligns_117 : decode cX5_aligns 117 = .ok (.getfield 39, 3) := by decide +kernel
theorem dX5_aligns_120 : decode cX5_aligns 120 = .ok (.iload_n 2, 1) := by decide +kernel
theorem dX5_aligns_121 : decode cX5_aligns 121 = .ok (.iconst 0, 1) := by decide +kernel
theorem dX5_aligns_122 : decode cX5_aligns 122 = .ok (.iastore, 1) := by decide +kernel
theorem dX5_aligns_123 : decode cX5_aligns 123 = .ok (.aload_n 0, 1) := by decide +kernel
theorem dX5_aligns_124 : decode cX5_aligns 124 = .ok (.getfield 42, 3) := by decide +kernel
theorem dX5_aligns_127 : decode cX5_aligns 127 = .ok (.iload_n 2, 1) := by decide +kernel
theorem dX5_aligns_128 : decode cX5_aligns 128 = .ok (.iconst 0, 1) := by decide +kernel
theorem dX5_aligns_129 : decode cX5_aligns 129 = .ok (.iastore, 1) := by decide +kernel
theorem dX5_aligns_130 : decode cX5_aligns 130 = .ok (.iinc 2 1, 3) := by decide +kernel
theorem dX5_aligns_133 : decode cX5_aligns 133 = .ok (.goto (-80), 3) := by decide +kernel
theorem dX5_aligns_136 : decode cX5_aligns 136 = .ok (.aload_n 0, 1) := by decide +kernel
theorem dX5_aligns_137 : decode cX5_aligns 137 = .ok (.getfield 51, 3) := by decide +kernel
theorem dX5_aligns_140 : decode cX5_aligns 140 = .ok (.iload_n 1, 1) := by decide +kernel
theorem dX5_aligns_141 : decode cX5_aligns 141 = .ok (.aload_n 0, 1) := by decide +kernel
theorem dX5_aligns_142 : decode cX5_aligns 142 = .ok (.getfield 60, 3) := by decide +kernel
theorem dX5_aligns_145 : decode cX5_aligns 145 = .ok (.iastore, 1) := by decide +kernel
theorem dX5_aligns_146 : decode cX5_aligns 146 = .ok (.aload_n 0, 1) := by decide +kernel
theorem dX5_aligns_147 : decode cX5_aligns 147 = .ok (.invokevirtual 138, 3) := by decide +kernel
theorem dX5_aligns_150 : decode cX5_aligns 150 = .ok (.return_, 1) := by decide +kernel
set_option maxRecDepth 20000 in
theorem ggX5_completes_X5_copies : GoodIn wsX5_completes wsX5_copies := goodIn_r _ [14] (by decide +kernel) (by decide +kernel)
set_option maxRecDepth 20000 in
theorem gX5_completes_X5_copies : GoodIn wsX5_completes (va_wsS RX5 141 yX5_copies wsX5_copies) := goodIn_app (goodIn_of _ (by decide +kernel)) ggX5_completes_X5_copies
theorem dX5_completes_0 : decode cX5_completes 0 = .ok (.iconst 0, 1) := by decide +kernel
theorem dX5_completes_1 : decode cX5_completes 1 = .ok (.istore_n 1, 1) := by decide +kernel
theorem dX5_completes_2 : decode cX5_completes 2 = .ok (.iload_n 1, 1) := by decide +kernel
theorem dX5_completes_3 : decode cX5_completes 3 = .ok (.aload_n 0, 1) := by decide +kernel
theorem dX5_completes_4 : decode cX5_completes 4 = .ok (.getfield 7, 3) := by decide +kernel
theorem dX5_completes_7 : decode cX5_completes 7 = .ok (.if_icmp .ge 23, 3) := by decide +kernel
theorem dX5_completes_10 : decode cX5_completes 10 = .ok (.aload_n 0, 1) := by decide +kernel
theorem dX5_completes_11 : decode cX5_completes 11 = .ok (.getfield 51, 3) := by decide +kernel
theorem dX5_completes_14 : decode cX5_completes 14 = .ok (.iload_n 1, 1) := by decide +kernel
theorem dX5_completes_15 : decode cX5_completes 15 = .ok (.iaload, 1) := by decide +kernel
theorem dX5_completes_16 : decode cX5_completes 16 = .ok (.aload_n 0, 1) := by decide +kernel
theorem dX5_completes_17 : decode cX5_completes 17 = .ok (.getfield 60, 3) := by decide +kernel
theorem dX5_completes_20 : decode cX5_completes 20 = .ok (.if_icmp .eq 4, 3) := by decide +kernel
theorem dX5_completes_23 : decode cX5_completes 23 = .ok (.return_, 1) := by decide +kernel
theorem dX5_completes_24 : decode cX5_completes 24 = .ok (.iinc 1 1, 3) := by decide +kernel
theorem dX5_completes_27 : decode cX5_completes 27 = .ok (.goto (-25), 3) := by decide +kernel
theorem dX5_completes_30 : decode cX5_completes 30 = .ok (.aload_n 0, 1) := by decide +kernel
theorem dX5_completes_31 : decode cX5_completes 31 = .ok (.aload_n 0, 1) := by decide +kernel
theorem dX5_completes_32 : decode cX5_completes 32 = .ok (.getfield 60, 3) := by decide +kernel
theorem dX5_completes_35 : decode cX5_completes 35 = .ok (.putfield 63, 3) := by decide +kernel
theorem dX5_completes_38 : decode cX5_completes 38 = .ok (.aload_n 0, 1) := by decide +kernel
theorem dX5_completes_39 : decode cX5_completes 39 = .ok (.iconst (-1), 1) := by decide +kernel
theorem dX5_completes_40 : decode cX5_completes 40 = .ok (.putfield 60, 3) := by decide +kernel
theorem dX5_completes_43 : decode cX5_completes 43 = .ok (.aload_n 0, 1) := by decide +kernel
theorem dX5_completes_44 : decode cX5_completes 44 = .ok (.getfield 69, 3) := by decide +kernel
theorem dX5_completes_47 : decode cX5_completes 47 = .ok (.aload_n 0, 1) := by decide +kernel
theorem dX5_completes_48 : decode cX5_completes 48 = .ok (.getfield 78, 3) := by decide +kernel
theorem dX5_completes_51 : decode cX5_completes 51 = .ok (.invokestatic 141, 3) := by decide +kernel
theorem dX5_completes_54 : decode cX5_completes 54 = .ok (.aload_n 0, 1) := by decide +kernel
theorem dX5_completes_55 : decode cX5_completes 55 = .ok (.getfield 72, 3) := by decide +kernel
theorem dX5_completes_58 : decode cX5_completes 58 = .ok (.aload_n 0, 1) := by decide +kernel
theorem dX5_completes_59 : decode cX5_completes 59 = .ok (.getfield 81, 3) := by decide +kernel
theorem dX5_completes_62 : decode cX5_completes 62 = .ok (.invokestatic 141, 3) := by decide +kernel
theorem dX5_completes_65 : decode cX5_completes 65 = .ok (.aload_n 0, 1) := by decide +kernel
theorem dX5_completes_66 : decode cX5_completes 66 = .ok (.getfield 75, 3) := by decide +kernel
theorem dX5_completes_69 : decode cX5_completes 69 = .ok (.aload_n 0, 1) := by decide +kernel
theorem dX5_completes_70 : decode cX5_completes 70 = .ok (.getfield 84, 3) := by decide +kernel
theorem dX5_completes_73 : decode cX5_completes 73 = .ok (.invokestatic 141, 3) := by decide +kernel
theorem dX5_completes_76 : decode cX5_completes 76 = .ok (.return_, 1) := by decide +kernel
set_option maxRecDepth 20000 in
theorem ggX5_take_X5_isWorker : GoodIn wsX5_take wsX5_isWorker := goodIn_r _ [5, 6, 7, 8, 4, 9, 65, 66, 67, 68, 69, 70, 71, 72, 73, 74, 75, 76, 77, 78, 79, 80, 81, 82, 83, 84, 85, 86, 87, 88, 89, 90, 91] (by decide +kernel) (by decide +kernel)
set_option maxRecDepth 20000 in
theorem gX5_take_X5_isWorker : GoodIn wsX5_take (wsV RX5 145 RX5 yX5_isWorker wsX5_isWorker) := goodIn_app (goodIn_of _ (by decide +kernel)) ggX5_take_X5_isWorker
set_option maxRecDepth 20000 in
theorem ggX5_take_X5_isPartition : GoodIn wsX5_take wsX5_isPartition := goodIn_r _ [12, 7, 8, 4, 9] (by decide +kernel) (by decide +kernel)
set_option maxRecDepth 20000 in
theorem gX5_take_X5_isPartition : GoodIn wsX5_take (va_wsS RX5 101 yX5_isPartition wsX5_isPartition) := goodIn_app (goodIn_of _ (by decide +kernel)) ggX5_take_X5_isPartition
set_option maxRecDepth 20000 in
theorem ggX5_take_X5_canTake : GoodIn wsX5_take wsX5_canTake := goodIn_r _ [16, 17, 18, 19, 20, 4, 21, 65, 66, 67, 68, 69, 70, 71, 72, 73, 74, 75, 76, 77, 78, 79, 80, 81, 82, 83, 84, 85, 86, 87, 88, 89, 90, 91] (by decide +kernel) (by decide +kernel)
set_option maxRecDepth 20000 in
theorem gX5_take_X5_canTake : GoodIn wsX5_take (wsV RX5 148 RX5 yX5_canTake wsX5_canTake) := goodIn_app (goodIn_of _ (by decide +kernel)) ggX5_take_X5_canTake
set_option maxRecDepth 20000 in
theorem ggX5_take_X5_holds : GoodIn wsX5_take wsX5_holds := goodIn_r _ [25, 26, 65, 66, 67, 68, 69, 70, 71, 72, 73, 74, 75, 76, 77, 78, 79, 80, 81, 82, 83, 84, 85, 86, 87, 88, 89, 90, 91] (by decide +kernel) (by decide +kernel)
set_option maxRecDepth 20000 in
theorem gX5_take_X5_holds : GoodIn wsX5_take (wsV RX5 108 RX5 yX5_holds wsX5_holds) := goodIn_app (goodIn_of _ (by decide +kernel)) ggX5_take_X5_holds
set_option maxRecDepth 20000 in
theorem ggX5_take_X5_takes : GoodIn wsX5_take wsX5_takes := goodIn_r _ [30, 31, 17, 32, 33, 34, 35, 36, 18, 19, 20, 4, 21, 37, 38, 39, 40, 41, 42, 43, 44, 45, 46, 47, 48, 49, 6, 50, 51, 52, 53, 54, 55, 56, 57, 58, 59, 60, 61, 62, 63, 64, 65, 66, 67, 68, 69, 70, 71, 72, 73, 74, 75, 76, 77, 78, 79, 80, 81, 82, 83, 84, 85, 86, 87, 88, 89, 90, 91] (by decide +kernel) (by decide +kernel)
set_option maxRecDepth 20000 in
theorem gX5_take_X5_takes : GoodIn wsX5_take (wsV RX5 152 RX5 yX5_takes wsX5_takes) := goodIn_app (goodIn_of _ (by decide +kernel)) ggX5_take_X5_takes
theorem dX5_take_0 : decode cX5_take 0 = .ok (.aload_n 0, 1) := by decide +kernel
theorem dX5_take_1 : decode cX5_take 1 = .ok (.aload_n 0, 1) := by decide +kernel
theorem dX5_take_2 : decode cX5_take 2 = .ok (.iload_n 1, 1) := by decide +kernel
theorem dX5_take_3 : decode cX5_take 3 = .ok (.invokevirtual 145, 3) := by decide +kernel
theorem dX5_take_6 : decode cX5_take 6 = .ok (.ifCond .eq 10, 3) := by decide +kernel
theorem dX5_take_9 : decode cX5_take 9 = .ok (.iload_n 2, 1) := by decide +kernel
theorem dX5_take_10 : decode cX5_take 10 = .ok (.invokestatic 101, 3) := by decide +kernel
theorem dX5_take_13 : decode cX5_take 13 = .ok (.ifCond .ne 7, 3) := by decide +kernel
theorem dX5_take_16 : decode cX5_take 16 = .ok (.iconst 1, 1) := by decide +kernel
theorem dX5_take_17 : decode cX5_take 17 = .ok (.goto 17, 3) := by decide +kernel
theorem dX5_take_20 : decode cX5_take 20 = .ok (.aload_n 0, 1) := by decide +kernel
theorem dX5_take_21 : decode cX5_take 21 = .ok (.iload_n 1, 1) := by decide +kernel
theorem dX5_take_22 : decode cX5_take 22 = .ok (.iload_n 2, 1) := by decide +kernel
theorem dX5_take_23 : decode cX5_take 23 = .ok (.invokevirtual 148, 3) := by decide +kernel
theorem dX5_take_26 : decode cX5_take 26 = .ok (.ifCond .eq 7, 3) := by decide +kernel
theorem dX5_take_29 : decode cX5_take 29 = .ok (.iconst 0, 1) := by decide +kernel
theorem dX5_take_30 : decode cX5_take 30 = .ok (.goto 4, 3) := by decide +kernel
theorem dX5_take_33 : decode cX5_take 33 = .ok (.iconst 2, 1) := by decide +kernel
theorem dX5_take_34 : decode cX5_take 34 = .ok (.invokevirtual 108, 3) := by decide +kernel
theorem dX5_take_37 : decode cX5_take 37 = .ok (.ifCond .eq 12, 3) := by decide +kernel
theorem dX5_take_40 : decode cX5_take 40 = .ok (.aload_n 0, 1) := by decide +kernel
theorem dX5_take_41 : decode cX5_take 41 = .ok (.iload_n 1, 1) := by decide +kernel
theorem dX5_take_42 : decode cX5_take 42 = .ok (.iload_n 2, 1) := by decide +kernel
theorem dX5_take_43 : decode cX5_take 43 = .ok (.invokevirtual 152, 3) := by decide +kernel
theorem dX5_take_46 : decode cX5_take 46 = .ok (.goto 4, 3) := by decide +kernel
theorem dX5_take_49 : decode cX5_take 49 = .ok (.iconst 0, 1) := by decide +kernel
theorem dX5_take_50 : decode cX5_take 50 = .ok (.ireturn, 1) := by decide +kernel
set_option maxRecDepth 20000 in
theorem ggX5_pump_X5_in : GoodIn wsX5_pump wsX5_in := goodIn_r _ [5] (by decide +kernel) (by decide +kernel)
set_option maxRecDepth 20000 in
theorem gX5_pump_X5_in : GoodIn wsX5_pump (va_wsS RX5 93 yX5_in wsX5_in) := goodIn_app (goodIn_of _ (by decide +kernel)) ggX5_pump_X5_in
set_option maxRecDepth 20000 in
theorem ggX5_pump_X5_holds : GoodIn wsX5_pump wsX5_holds := goodIn_r _ [9, 10, 77, 78, 79, 80, 81, 82, 83, 84, 85, 86, 87, 88, 89, 90, 91, 92, 93, 94, 95, 96, 97, 98, 99, 100, 101, 102, 103] (by decide +kernel) (by decide +kernel)
set_option maxRecDepth 20000 in
theorem gX5_pump_X5_holds : GoodIn wsX5_pump (wsV RX5 108 RX5 yX5_holds wsX5_holds) := goodIn_app (goodIn_of _ (by decide +kernel)) ggX5_pump_X5_holds
set_option maxRecDepth 20000 in
theorem ggX5_pump_X5_canRead : GoodIn wsX5_pump wsX5_canRead := goodIn_r _ [14, 15, 16, 17, 18, 19, 20, 4, 21, 22, 23, 24, 25, 26, 1, 27, 28, 29, 30, 31, 32, 77, 78, 79, 80, 81, 82, 83, 84, 85, 86, 87, 88, 89, 90, 91, 92, 93, 94, 95, 96, 97, 98, 99, 100, 101, 102, 103] (by decide +kernel) (by decide +kernel)
set_option maxRecDepth 20000 in
theorem gX5_pump_X5_canRead : GoodIn wsX5_pump (wsV RX5 125 RX5 yX5_canRead wsX5_canRead) := goodIn_app (goodIn_of _ (by decide +kernel)) ggX5_pump_X5_canRead
set_option maxRecDepth 20000 in
theorem ggX5_pump_X5_reads : GoodIn wsX5_pump wsX5_reads := goodIn_r _ [36, 15, 18, 19, 20, 4, 21, 22, 23, 24, 25, 26, 1, 27, 28, 29, 30, 31, 32, 37, 38, 39, 40, 41, 17, 77, 78, 79, 80, 81, 82, 83, 84, 85, 86, 87, 88, 89, 90, 91, 92, 93, 94, 95, 96, 97, 98, 99, 100, 101, 102, 103] (by decide +kernel) (by decide +kernel)
set_option maxRecDepth 20000 in
theorem gX5_pump_X5_reads : GoodIn wsX5_pump (wsV RX5 128 RX5 yX5_reads wsX5_reads) := goodIn_app (goodIn_of _ (by decide +kernel)) ggX5_pump_X5_reads
set_option maxRecDepth 20000 in
theorem ggX5_pump_X5_canTake : GoodIn wsX5_pump wsX5_canTake := goodIn_r _ [45, 17, 46, 30, 31, 4, 32, 77, 78, 79, 80, 81, 82, 83, 84, 85, 86, 87, 88, 89, 90, 91, 92, 93, 94, 95, 96, 97, 98, 99, 100, 101, 102, 103] (by decide +kernel) (by decide +kernel)
set_option maxRecDepth 20000 in
theorem gX5_pump_X5_canTake : GoodIn wsX5_pump (wsV RX5 148 RX5 yX5_canTake wsX5_canTake) := goodIn_app (goodIn_of _ (by decide +kernel)) ggX5_pump_X5_canTake
set_option maxRecDepth 20000 in
theorem ggX5_pump_X5_takes : GoodIn wsX5_pump wsX5_takes := goodIn_r _ [50, 41, 17, 51, 52, 53, 54, 55, 46, 30, 31, 4, 32, 56, 57, 58, 59, 60, 61, 62, 63, 64, 23, 24, 25, 26, 1, 27, 28, 29, 65, 66, 67, 68, 69, 70, 71, 72, 73, 74, 75, 76, 77, 78, 79, 80, 81, 82, 83, 84, 85, 86, 87, 88, 89, 90, 91, 92, 93, 94, 95, 96, 97, 98, 99, 100, 101, 102, 103] (by decide +kernel) (by decide +kernel)
set_option maxRecDepth 20000 in
theorem gX5_pump_X5_takes : GoodIn wsX5_pump (wsV RX5 152 RX5 yX5_takes wsX5_takes) := goodIn_app (goodIn_of _ (by decide +kernel)) ggX5_pump_X5_takes
theorem dX5_pump_0 : decode cX5_pump 0 = .ok (.aload_n 0, 1) := by decide +kernel
theorem dX5_pump_1 : decode cX5_pump 1 = .ok (.iload_n 1, 1) := by decide +kernel
theorem dX5_pump_2 : decode cX5_pump 2 = .ok (.iconst 1, 1) := by decide +kernel
theorem dX5_pump_3 : decode cX5_pump 3 = .ok (.bipush 20, 2) := by decide +kernel
theorem dX5_pump_5 : decode cX5_pump 5 = .ok (.invokestatic 93, 3) := by decide +kernel
theorem dX5_pump_8 : decode cX5_pump 8 = .ok (.ifCond .eq 7, 3) := by decide +kernel
theorem dX5_pump_11 : decode cX5_pump 11 = .ok (.iconst 0, 1) := by decide +kernel
theorem dX5_pump_12 : decode cX5_pump 12 = .ok (.goto 4, 3) := by decide +kernel
theorem dX5_pump_15 : decode cX5_pump 15 = .ok (.iconst 1, 1) := by decide +kernel
theorem dX5_pump_16 : decode cX5_pump 16 = .ok (.invokevirtual 108, 3) := by decide +kernel
theorem dX5_pump_19 : decode cX5_pump 19 = .ok (.ifCond .ne 5, 3) := by decide +kernel
theorem dX5_pump_22 : decode cX5_pump 22 = .ok (.iconst 0, 1) := by decide +kernel
theorem dX5_pump_23 : decode cX5_pump 23 = .ok (.ireturn, 1) := by decide +kernel
theorem dX5_pump_24 : decode cX5_pump 24 = .ok (.iconst 0, 1) := by decide +kernel
theorem dX5_pump_25 : decode cX5_pump 25 = .ok (.istore_n 2, 1) := by decide +kernel
theorem dX5_pump_26 : decode cX5_pump 26 = .ok (.iconst 0, 1) := by decide +kernel
theorem dX5_pump_27 : decode cX5_pump 27 = .ok (.istore_n 3, 1) := by decide +kernel
theorem dX5_pump_28 : decode cX5_pump 28 = .ok (.iload_n 3, 1) := by decide +kernel
theorem dX5_pump_29 : decode cX5_pump 29 = .ok (.iload_n 1, 1) := by decide +kernel
theorem dX5_pump_30 : decode cX5_pump 30 = .ok (.iconst 4, 1) := by decide +kernel
theorem dX5_pump_31 : decode cX5_pump 31 = .ok (.imul, 1) := by decide +kernel
theorem dX5_pump_32 : decode cX5_pump 32 = .ok (.aload_n 0, 1) := by decide +kernel
theorem dX5_pump_33 : decode cX5_pump 33 = .ok (.getfield 7, 3) := by decide +kernel
theorem dX5_pump_36 : decode cX5_pump 36 = .ok (.iconst 1, 1) := by decide +kernel
theorem dX5_pump_37 : decode cX5_pump 37 = .ok (.iadd, 1) := by decide +kernel
theorem dX5_pump_38 : decode cX5_pump 38 = .ok (.imul, 1) := by decide +kernel
theorem dX5_pump_39 : decode cX5_pump 39 = .ok (.if_icmp .ge 85, 3) := by decide +kernel
theorem dX5_pump_42 : decode cX5_pump 42 = .ok (.iload_n 3, 1) := by decide +kernel
theorem dX5_pump_43 : decode cX5_pump 43 = .ok (.iconst 4, 1) := by decide +kernel
theorem dX5_pump_44 : decode cX5_pump 44 = .ok (.aload_n 0, 1) := by decide +kernel
theorem dX5_pump_45 : decode cX5_pump 45 = .ok (.getfield 7, 3) := by decide +kernel
theorem dX5_pump_48 : decode cX5_pump 48 = .ok (.iconst 1, 1) := by decide +kernel
theorem dX5_pump_49 : decode cX5_pump 49 = .ok (.iadd, 1) := by decide +kernel
theorem dX5_pump_50 : decode cX5_pump 50 = .ok (.imul, 1) := by decide +kernel
theorem dX5_pump_51 : decode cX5_pump 51 = .ok (.irem, 1) := by decide +kernel
theorem dX5_pump_52 : decode cX5_pump 52 = .ok (.istore 4, 2) := by decide +kernel
theorem dX5_pump_54 : decode cX5_pump 54 = .ok (.iload 4, 2) := by decide +kernel
theorem dX5_pump_56 : decode cX5_pump 56 = .ok (.iconst 4, 1) := by decide +kernel
theorem dX5_pump_57 : decode cX5_pump 57 = .ok (.idiv, 1) := by decide +kernel
theorem dX5_pump_58 : decode cX5_pump 58 = .ok (.iconst 1, 1) := by decide +kernel
theorem dX5_pump_59 : decode cX5_pump 59 = .ok (.isub, 1) := by decide +kernel
theorem dX5_pump_60 : decode cX5_pump 60 = .ok (.istore 5, 2) := by decide +kernel
theorem dX5_pump_62 : decode cX5_pump 62 = .ok (.iload 5, 2) := by decide +kernel
theorem dX5_pump_64 : decode cX5_pump 64 = .ok (.ifCond .ge 22, 3) := by decide +kernel
theorem dX5_pump_67 : decode cX5_pump 67 = .ok (.aload_n 0, 1) := by decide +kernel
theorem dX5_pump_68 : decode cX5_pump 68 = .ok (.iload 4, 2) := by decide +kernel
theorem dX5_pump_70 : decode cX5_pump 70 = .ok (.invokevirtual 125, 3) := by decide +kernel
theorem dX5_pump_73 : decode cX5_pump 73 = .ok (.ifCond .eq 13, 3) := by decide +kernel
theorem dX5_pump_76 : decode cX5_pump 76 = .ok (.aload_n 0, 1) := by decide +kernel
theorem dX5_pump_77 : decode cX5_pump 77 = .ok (.iload 4, 2) := by decide +kernel
theorem dX5_pump_79 : decode cX5_pump 79 = .ok (.invokevirtual 128, 3) := by decide +kernel
theorem dX5_pump_82 : decode cX5_pump 82 = .ok (.pop, 1) := by decide +kernel
theorem dX5_pump_83 : decode cX5_pump 83 = .ok (.iinc 2 1, 3) := by decide +kernel
theorem dX5_pump_86 : decode cX5_pump 86 = .ok (.iload 5, 2) := by decide +kernel
theorem dX5_pump_88 : decode cX5_pump 88 = .ok (.ifCond .lt 30, 3) := by decide +kernel
theorem dX5_pump_91 : decode cX5_pump 91 = .ok (.aload_n 0, 1) := by decide +kernel
theorem dX5_pump_92 : decode cX5_pump 92 = .ok (.iload 5, 2) := by decide +kernel
theorem dX5_pump_94 : decode cX5_pump 94 = .ok (.iload 4, 2) := by decide +kernel
theorem dX5_pump_96 : decode cX5_pump 96 = .ok (.iconst 4, 1) := by decide +kernel
theorem dX5_pump_97 : decode cX5_pump 97 = .ok (.irem, 1) := by decide +kernel
theorem dX5_pump_98 : decode cX5_pump 98 = .ok (.invokevirtual 148, 3) := by decide +kernel
theorem dX5_pump_101 : decode cX5_pump 101 = .ok (.ifCond .eq 17, 3) := by decide +kernel
theorem dX5_pump_104 : decode cX5_pump 104 = .ok (.aload_n 0, 1) := by decide +kernel
theorem dX5_pump_105 : decode cX5_pump 105 = .ok (.iload 5, 2) := by decide +kernel
theorem dX5_pump_107 : decode cX5_pump 107 = .ok (.iload 4, 2) := by decide +kernel
theorem dX5_pump_109 : decode cX5_pump 109 = .ok (.iconst 4, 1) := by decide +kernel
theorem dX5_pump_110 : decode cX5_pump 110 = .ok (.irem, 1) := by decide +kernel
theorem dX5_pump_111 : decode cX5_pump 111 = .ok (.invokevirtual 152, 3) := by decide +kernel
theorem dX5_pump_114 : decode cX5_pump 114 = .ok (.pop, 1) := by decide +kernel
theorem dX5_pump_115 : decode cX5_pump 115 = .ok (.iinc 2 1, 3) := by decide +kernel
theorem dX5_pump_118 : decode cX5_pump 118 = .ok (.iinc 3 1, 3) := by decide +kernel
theorem dX5_pump_121 : decode cX5_pump 121 = .ok (.goto (-93), 3) := by decide +kernel
theorem dX5_pump_124 : decode cX5_pump 124 = .ok (.iload_n 2, 1) := by decide +kernel
theorem dX5_pump_125 : decode cX5_pump 125 = .ok (.ireturn, 1) := by decide +kernel
set_option maxRecDepth 20000 in
theorem ggX5_commits_X5_workerOfKey : GoodIn wsX5_commits wsX5_workerOfKey := goodIn_r _ [10, 11, 12, 13, 9, 14, 15, 16, 17, 18, 19, 20, 21, 22, 23, 24, 25, 26, 27, 28, 29, 30, 31, 32, 33, 34, 35, 36, 37, 38, 39, 40, 41] (by decide +kernel) (by decide +kernel)
set_option maxRecDepth 20000 in
theorem gX5_commits_X5_workerOfKey : GoodIn wsX5_commits (wsV RX5 115 RX5 yX5_workerOfKey wsX5_workerOfKey) := goodIn_app (goodIn_of _ (by decide +kernel)) ggX5_commits_X5_workerOfKey
theorem dX5_commits_0 : decode cX5_commits 0 = .ok (.iconst 0, 1) := by decide +kernel
theorem dX5_commits_1 : decode cX5_commits 1 = .ok (.istore_n 2, 1) := by decide +kernel
theorem dX5_commits_2 : decode cX5_commits 2 = .ok (.iconst 0, 1) := by decide +kernel
theorem dX5_commits_3 : decode cX5_commits 3 = .ok (.istore_n 3, 1) := by decide +kernel
theorem dX5_commits_4 : decode cX5_commits 4 = .ok (.iload_n 3, 1) := by decide +kernel
theorem dX5_commits_5 : decode cX5_commits 5 = .ok (.bipush 32, 2) := by decide +kernel
theorem dX5_commits_7 : decode cX5_commits 7 = .ok (.if_icmp .ge 57, 3) := by decide +kernel
theorem dX5_commits_10 : decode cX5_commits 10 = .ok (.aload_n 0, 1) := by decide +kernel
theorem dX5_commits_11 : decode cX5_commits 11 = .ok (.iload_n 3, 1) := by decide +kernel
theorem dX5_commits_12 : decode cX5_commits 12 = .ok (.invokevirtual 115, 3) := by decide +kernel
theorem dX5_commits_15 : decode cX5_commits 15 = .ok (.iload_n 1, 1) := by decide +kernel
theorem dX5_commits_16 : decode cX5_commits 16 = .ok (.if_icmp .ne 42, 3) := by decide +kernel
theorem dX5_commits_19 : decode cX5_commits 19 = .ok (.iload_n 2, 1) := by decide +kernel
theorem dX5_commits_20 : decode cX5_commits 20 = .ok (.aload_n 0, 1) := by decide +kernel
theorem dX5_commits_21 : decode cX5_commits 21 = .ok (.getfield 45, 3) := by decide +kernel
theorem dX5_commits_24 : decode cX5_commits 24 = .ok (.iload_n 3, 1) := by decide +kernel
theorem dX5_commits_25 : decode cX5_commits 25 = .ok (.iaload, 1) := by decide +kernel
theorem dX5_commits_26 : decode cX5_commits 26 = .ok (.iadd, 1) := by decide +kernel
theorem dX5_commits_27 : decode cX5_commits 27 = .ok (.istore_n 2, 1) := by decide +kernel
theorem dX5_commits_28 : decode cX5_commits 28 = .ok (.aload_n 0, 1) := by decide +kernel
theorem dX5_commits_29 : decode cX5_commits 29 = .ok (.getfield 54, 3) := by decide +kernel
theorem dX5_commits_32 : decode cX5_commits 32 = .ok (.iload_n 3, 1) := by decide +kernel
theorem dX5_commits_33 : decode cX5_commits 33 = .ok (.dup2, 1) := by decide +kernel
theorem dX5_commits_34 : decode cX5_commits 34 = .ok (.iaload, 1) := by decide +kernel
theorem dX5_commits_35 : decode cX5_commits 35 = .ok (.aload_n 0, 1) := by decide +kernel
theorem dX5_commits_36 : decode cX5_commits 36 = .ok (.getfield 45, 3) := by decide +kernel
theorem dX5_commits_39 : decode cX5_commits 39 = .ok (.iload_n 3, 1) := by decide +kernel
theorem dX5_commits_40 : decode cX5_commits 40 = .ok (.iaload, 1) := by decide +kernel
theorem dX5_commits_41 : decode cX5_commits 41 = .ok (.iadd, 1) := by decide +kernel
theorem dX5_commits_42 : decode cX5_commits 42 = .ok (.iastore, 1) := by decide +kernel
theorem dX5_commits_43 : decode cX5_commits 43 = .ok (.aload_n 0, 1) := by decide +kernel
theorem dX5_commits_44 : decode cX5_commits 44 = .ok (.getfield 57, 3) := by decide +kernel
theorem dX5_commits_47 : decode cX5_commits 47 = .ok (.iload_n 3, 1) := by decide +kernel
theorem dX5_commits_48 : decode cX5_commits 48 = .ok (.dup2, 1) := by decide +kernel
theorem dX5_commits_49 : decode cX5_commits 49 = .ok (.iaload, 1) := by decide +kernel
theorem dX5_commits_50 : decode cX5_commits 50 = .ok (.aload_n 0, 1) := by decide +kernel
theorem dX5_commits_51 : decode cX5_commits 51 = .ok (.getfield 48, 3) := by decide +kernel
theorem dX5_commits_54 : decode cX5_commits 54 = .ok (.iload_n 3, 1) := by decide +kernel
theorem dX5_commits_55 : decode cX5_commits 55 = .ok (.iaload, 1) := by decide +kernel
theorem dX5_commits_56 : decode cX5_commits 56 = .ok (.iadd, 1) := by decide +kernel
theorem dX5_commits_57 : decode cX5_commits 57 = .ok (.iastore, 1) := by decide +kernel
theorem dX5_commits_58 : decode cX5_commits 58 = .ok (.iinc 3 1, 3) := by decide +kernel
theorem dX5_commits_61 : decode cX5_commits 61 = .ok (.goto (-57), 3) := by decide +kernel
theorem dX5_commits_64 : decode cX5_commits 64 = .ok (.aload_n 0, 1) := by decide +kernel
theorem dX5_commits_65 : decode cX5_commits 65 = .ok (.getfield 51, 3) := by decide +kernel
theorem dX5_commits_68 : decode cX5_commits 68 = .ok (.iload_n 1, 1) := by decide +kernel
theorem dX5_commits_69 : decode cX5_commits 69 = .ok (.iconst (-1), 1) := by decide +kernel
theorem dX5_commits_70 : decode cX5_commits 70 = .ok (.iastore, 1) := by decide +kernel
theorem dX5_commits_71 : decode cX5_commits 71 = .ok (.iload_n 2, 1) := by decide +kernel
theorem dX5_commits_72 : decode cX5_commits 72 = .ok (.ireturn, 1) := by decide +kernel
theorem dX5_mayCommit_0 : decode cX5_mayCommit 0 = .ok (.aload_n 0, 1) := by decide +kernel
theorem dX5_mayCommit_1 : decode cX5_mayCommit 1 = .ok (.getfield 51, 3) := by decide +kernel
theorem dX5_mayCommit_4 : decode cX5_mayCommit 4 = .ok (.iload_n 1, 1) := by decide +kernel
theorem dX5_mayCommit_5 : decode cX5_mayCommit 5 = .ok (.iaload, 1) := by decide +kernel
theorem dX5_mayCommit_6 : decode cX5_mayCommit 6 = .ok (.iconst (-1), 1) := by decide +kernel
theorem dX5_mayCommit_7 : decode cX5_mayCommit 7 = .ok (.if_icmp .eq 20, 3) := by decide +kernel
theorem dX5_mayCommit_10 : decode cX5_mayCommit 10 = .ok (.aload_n 0, 1) := by decide +kernel
theorem dX5_mayCommit_11 : decode cX5_mayCommit 11 = .ok (.getfield 51, 3) := by decide +kernel
theorem dX5_mayCommit_14 : decode cX5_mayCommit 14 = .ok (.iload_n 1, 1) := by decide +kernel
theorem dX5_mayCommit_15 : decode cX5_mayCommit 15 = .ok (.iaload, 1) := by decide +kernel
theorem dX5_mayCommit_16 : decode cX5_mayCommit 16 = .ok (.aload_n 0, 1) := by decide +kernel
theorem dX5_mayCommit_17 : decode cX5_mayCommit 17 = .ok (.getfield 60, 3) := by decide +kernel
theorem dX5_mayCommit_20 : decode cX5_mayCommit 20 = .ok (.if_icmp .eq 7, 3) := by decide +kernel
theorem dX5_mayCommit_23 : decode cX5_mayCommit 23 = .ok (.iconst 1, 1) := by decide +kernel
theorem dX5_mayCommit_24 : decode cX5_mayCommit 24 = .ok (.goto 4, 3) := by decide +kernel
theorem dX5_mayCommit_27 : decode cX5_mayCommit 27 = .ok (.iconst 0, 1) := by decide +kernel
theorem dX5_mayCommit_28 : decode cX5_mayCommit 28 = .ok (.ireturn, 1) := by decide +kernel
set_option maxRecDepth 20000 in
theorem ggX5_commit_X5_isWorker : GoodIn wsX5_commit wsX5_isWorker := goodIn_r _ [5, 6, 7, 8, 4, 9, 36, 37, 38, 39, 40, 41, 42, 43, 44, 45, 46, 47, 48, 49, 50, 51, 52, 53, 54, 55, 56, 57, 58, 59, 60, 61, 62] (by decide +kernel) (by decide +kernel)
set_option maxRecDepth 20000 in
theorem gX5_commit_X5_isWorker : GoodIn wsX5_commit (wsV RX5 145 RX5 yX5_isWorker wsX5_isWorker) := goodIn_app (goodIn_of _ (by decide +kernel)) ggX5_commit_X5_isWorker
set_option maxRecDepth 20000 in
theorem ggX5_commit_X5_mayCommit : GoodIn wsX5_commit wsX5_mayCommit := goodIn_r _ [13, 14, 15, 36, 37, 38, 39, 40, 41, 42, 43, 44, 45, 46, 47, 48, 49, 50, 51, 52, 53, 54, 55, 56, 57, 58, 59, 60, 61, 62] (by decide +kernel) (by decide +kernel)
set_option maxRecDepth 20000 in
theorem gX5_commit_X5_mayCommit : GoodIn wsX5_commit (wsV RX5 155 RX5 yX5_mayCommit wsX5_mayCommit) := goodIn_app (goodIn_of _ (by decide +kernel)) ggX5_commit_X5_mayCommit
set_option maxRecDepth 20000 in
theorem ggX5_commit_X5_holds : GoodIn wsX5_commit wsX5_holds := goodIn_r _ [19, 20, 36, 37, 38, 39, 40, 41, 42, 43, 44, 45, 46, 47, 48, 49, 50, 51, 52, 53, 54, 55, 56, 57, 58, 59, 60, 61, 62] (by decide +kernel) (by decide +kernel)
set_option maxRecDepth 20000 in
theorem gX5_commit_X5_holds : GoodIn wsX5_commit (wsV RX5 108 RX5 yX5_holds wsX5_holds) := goodIn_app (goodIn_of _ (by decide +kernel)) ggX5_commit_X5_holds
set_option maxRecDepth 20000 in
theorem ggX5_commit_X5_commits : GoodIn wsX5_commit wsX5_commits := goodIn_r _ [24, 25, 26, 27, 28, 14, 29, 30, 31, 4, 32, 6, 33, 34, 35, 36, 37, 38, 39, 40, 41, 42, 43, 44, 45, 46, 47, 48, 49, 50, 51, 52, 53, 54, 55, 56, 57, 58, 59, 60, 61, 62] (by decide +kernel) (by decide +kernel)
set_option maxRecDepth 20000 in
theorem gX5_commit_X5_commits : GoodIn wsX5_commit (wsV RX5 158 RX5 yX5_commits wsX5_commits) := goodIn_app (goodIn_of _ (by decide +kernel)) ggX5_commit_X5_commits
theorem dX5_commit_0 : decode cX5_commit 0 = .ok (.aload_n 0, 1) := by decide +kernel
theorem dX5_commit_1 : decode cX5_commit 1 = .ok (.aload_n 0, 1) := by decide +kernel
theorem dX5_commit_2 : decode cX5_commit 2 = .ok (.iload_n 1, 1) := by decide +kernel
theorem dX5_commit_3 : decode cX5_commit 3 = .ok (.invokevirtual 145, 3) := by decide +kernel
theorem dX5_commit_6 : decode cX5_commit 6 = .ok (.ifCond .ne 7, 3) := by decide +kernel
theorem dX5_commit_9 : decode cX5_commit 9 = .ok (.iconst 1, 1) := by decide +kernel
theorem dX5_commit_10 : decode cX5_commit 10 = .ok (.goto 16, 3) := by decide +kernel
theorem dX5_commit_13 : decode cX5_commit 13 = .ok (.aload_n 0, 1) := by decide +kernel
theorem dX5_commit_14 : decode cX5_commit 14 = .ok (.iload_n 1, 1) := by decide +kernel
theorem dX5_commit_15 : decode cX5_commit 15 = .ok (.invokevirtual 155, 3) := by decide +kernel
theorem dX5_commit_18 : decode cX5_commit 18 = .ok (.ifCond .eq 7, 3) := by decide +kernel
theorem dX5_commit_21 : decode cX5_commit 21 = .ok (.iconst 0, 1) := by decide +kernel
theorem dX5_commit_22 : decode cX5_commit 22 = .ok (.goto 4, 3) := by decide +kernel
theorem dX5_commit_25 : decode cX5_commit 25 = .ok (.iconst 2, 1) := by decide +kernel
theorem dX5_commit_26 : decode cX5_commit 26 = .ok (.invokevirtual 108, 3) := by decide +kernel
theorem dX5_commit_29 : decode cX5_commit 29 = .ok (.ifCond .eq 11, 3) := by decide +kernel
theorem dX5_commit_32 : decode cX5_commit 32 = .ok (.aload_n 0, 1) := by decide +kernel
theorem dX5_commit_33 : decode cX5_commit 33 = .ok (.iload_n 1, 1) := by decide +kernel
theorem dX5_commit_34 : decode cX5_commit 34 = .ok (.invokevirtual 158, 3) := by decide +kernel
theorem dX5_commit_37 : decode cX5_commit 37 = .ok (.goto 4, 3) := by decide +kernel
theorem dX5_commit_40 : decode cX5_commit 40 = .ok (.iconst 0, 1) := by decide +kernel
theorem dX5_commit_41 : decode cX5_commit 41 = .ok (.ireturn, 1) := by decide +kernel
theorem dX5_isAnySealed_0 : decode cX5_isAnySealed 0 = .ok (.aload_n 0, 1) := by decide +kernel
theorem dX5_isAnySealed_1 : decode cX5_isAnySealed 1 = .ok (.getfield 51, 3) := by decide +kernel
theorem dX5_isAnySealed_4 : decode cX5_isAnySealed 4 = .ok (.iconst 0, 1) := by decide +kernel
theorem dX5_isAnySealed_5 : decode cX5_isAnySealed 5 = .ok (.iaload, 1) := by decide +kernel
theorem dX5_isAnySealed_6 : decode cX5_isAnySealed 6 = .ok (.iconst (-1), 1) := by decide +kernel
theorem dX5_isAnySealed_7 : decode cX5_isAnySealed 7 = .ok (.if_icmp .ne 33, 3) := by decide +kernel
theorem dX5_isAnySealed_10 : decode cX5_isAnySealed 10 = .ok (.aload_n 0, 1) := by decide +kernel
theorem dX5_isAnySealed_11 : decode cX5_isAnySealed 11 = .ok (.getfield 51, 3) := by decide +kernel
theorem dX5_isAnySealed_14 : decode cX5_isAnySealed 14 = .ok (.iconst 1, 1) := by decide +kernel
theorem dX5_isAnySealed_15 : decode cX5_isAnySealed 15 = .ok (.iaload, 1) := by decide +kernel
theorem dX5_isAnySealed_16 : decode cX5_isAnySealed 16 = .ok (.iconst (-1), 1) := by decide +kernel
theorem dX5_isAnySealed_17 : decode cX5_isAnySealed 17 = .ok (.if_icmp .ne 23, 3) := by decide +kernel
theorem dX5_isAnySealed_20 : decode cX5_isAnySealed 20 = .ok (.aload_n 0, 1) := by decide +kernel
theorem dX5_isAnySealed_21 : decode cX5_isAnySealed 21 = .ok (.getfield 51, 3) := by decide +kernel
theorem dX5_isAnySealed_24 : decode cX5_isAnySealed 24 = .ok (.iconst 2, 1) := by decide +kernel
theorem dX5_isAnySealed_25 : decode cX5_isAnySealed 25 = .ok (.iaload, 1) := by decide +kernel
theorem dX5_isAnySealed_26 : decode cX5_isAnySealed 26 = .ok (.iconst (-1), 1) := by decide +kernel
theorem dX5_isAnySealed_27 : decode cX5_isAnySealed 27 = .ok (.if_icmp .ne 13, 3) := by decide +kernel
theorem dX5_isAnySealed_30 : decode cX5_isAnySealed 30 = .ok (.aload_n 0, 1) := by decide +kernel
theorem dX5_isAnySealed_31 : decode cX5_isAnySealed 31 = .ok (.getfield 51, 3) := by decide +kernel
theorem dX5_isAnySealed_34 : decode cX5_isAnySealed 34 = .ok (.iconst 3, 1) := by decide +kernel
theorem dX5_isAnySealed_35 : decode cX5_isAnySealed 35 = .ok (.iaload, 1) := by decide +kernel
theorem dX5_isAnySealed_36 : decode cX5_isAnySealed 36 = .ok (.iconst (-1), 1) := by decide +kernel
theorem dX5_isAnySealed_37 : decode cX5_isAnySealed 37 = .ok (.if_icmp .eq 7, 3) := by decide +kernel
theorem dX5_isAnySealed_40 : decode cX5_isAnySealed 40 = .ok (.iconst 1, 1) := by decide +kernel
theorem dX5_isAnySealed_41 : decode cX5_isAnySealed 41 = .ok (.goto 4, 3) := by decide +kernel
theorem dX5_isAnySealed_44 : decode cX5_isAnySealed 44 = .ok (.iconst 0, 1) := by decide +kernel
theorem dX5_isAnySealed_45 : decode cX5_isAnySealed 45 = .ok (.ireturn, 1) := by decide +kernel
theorem dX5_lifts_0 : decode cX5_lifts 0 = .ok (.iconst 0, 1) := by decide +kernel
theorem dX5_lifts_1 : decode cX5_lifts 1 = .ok (.istore_n 1, 1) := by decide +kernel
theorem dX5_lifts_2 : decode cX5_lifts 2 = .ok (.iload_n 1, 1) := by decide +kernel
theorem dX5_lifts_3 : decode cX5_lifts 3 = .ok (.bipush 16, 2) := by decide +kernel
theorem dX5_lifts_5 : decode cX5_lifts 5 = .ok (.if_icmp .ge 16, 3) := by decide +kernel
theorem dX5_lifts_8 : decode cX5_lifts 8 = .ok (.aload_n 0, 1) := by decide +kernel
theorem dX5_lifts_9 : decode cX5_lifts 9 = .ok (.getfield 29, 3) := by decide +kernel
theorem dX5_lifts_12 : decode cX5_lifts 12 = .ok (.iload_n 1, 1) := by decide +kernel
theorem dX5_lifts_13 : decode cX5_lifts 13 = .ok (.iconst 0, 1) := by decide +kernel
theorem dX5_lifts_14 : decode cX5_lifts 14 = .ok (.bastore, 1) := by decide +kernel
theorem dX5_lifts_15 : decode cX5_lifts 15 = .ok (.iinc 1 1, 3) := by decide +kernel
theorem dX5_lifts_18 : decode cX5_lifts 18 = .ok (.goto (-16), 3) := by decide +kernel
theorem dX5_lifts_21 : decode cX5_lifts 21 = .ok (.iconst 0, 1) := by decide +kernel
theorem dX5_lifts_22 : decode cX5_lifts 22 = .ok (.istore_n 1, 1) := by decide +kernel
theorem dX5_lifts_23 : decode cX5_lifts 23 = .ok (.iload_n 1, 1) := by decide +kernel
theorem dX5_lifts_24 : decode cX5_lifts 24 = .ok (.iconst 4, 1) := by decide +kernel
theorem dX5_lifts_25 : decode cX5_lifts 25 = .ok (.if_icmp .ge 16, 3) := by decide +kernel
theorem dX5_lifts_28 : decode cX5_lifts 28 = .ok (.aload_n 0, 1) := by decide +kernel
theorem dX5_lifts_29 : decode cX5_lifts 29 = .ok (.getfield 66, 3) := by decide +kernel
theorem dX5_lifts_32 : decode cX5_lifts 32 = .ok (.iload_n 1, 1) := by decide +kernel
theorem dX5_lifts_33 : decode cX5_lifts 33 = .ok (.iconst 0, 1) := by decide +kernel
theorem dX5_lifts_34 : decode cX5_lifts 34 = .ok (.bastore, 1) := by decide +kernel
theorem dX5_lifts_35 : decode cX5_lifts 35 = .ok (.iinc 1 1, 3) := by decide +kernel
theorem dX5_lifts_38 : decode cX5_lifts 38 = .ok (.goto (-15), 3) := by decide +kernel
theorem dX5_lifts_41 : decode cX5_lifts 41 = .ok (.return_, 1) := by decide +kernel
set_option maxRecDepth 20000 in
theorem ggX5_beginCheckpoint_X5_isAnySealed : GoodIn wsX5_beginCheckpoint wsX5_isAnySealed := goodIn_r _ [7, 8, 20, 21, 22, 23, 24, 25, 26, 27, 28, 29, 30, 31, 32, 33, 34, 35, 36, 37, 38, 39, 40, 41, 42, 43, 44, 45, 46] (by decide +kernel) (by decide +kernel)
set_option maxRecDepth 20000 in
theorem gX5_beginCheckpoint_X5_isAnySealed : GoodIn wsX5_beginCheckpoint (wsV RX5 161 RX5 yX5_isAnySealed wsX5_isAnySealed) := goodIn_app (goodIn_of _ (by decide +kernel)) ggX5_beginCheckpoint_X5_isAnySealed
set_option maxRecDepth 20000 in
theorem ggX5_beginCheckpoint_X5_holds : GoodIn wsX5_beginCheckpoint wsX5_holds := goodIn_r _ [12, 13, 20, 21, 22, 23, 24, 25, 26, 27, 28, 29, 30, 31, 32, 33, 34, 35, 36, 37, 38, 39, 40, 41, 42, 43, 44, 45, 46] (by decide +kernel) (by decide +kernel)
set_option maxRecDepth 20000 in
theorem gX5_beginCheckpoint_X5_holds : GoodIn wsX5_beginCheckpoint (wsV RX5 108 RX5 yX5_holds wsX5_holds) := goodIn_app (goodIn_of _ (by decide +kernel)) ggX5_beginCheckpoint_X5_holds
set_option maxRecDepth 20000 in
theorem ggX5_beginCheckpoint_X5_lifts : GoodIn wsX5_beginCheckpoint wsX5_lifts := goodIn_r _ [17, 18, 19, 20, 21, 22, 23, 24, 25, 26, 27, 28, 29, 30, 31, 32, 33, 34, 35, 36, 37, 38, 39, 40, 41, 42, 43, 44, 45, 46] (by decide +kernel) (by decide +kernel)
set_option maxRecDepth 20000 in
theorem gX5_beginCheckpoint_X5_lifts : GoodIn wsX5_beginCheckpoint (wsV RX5 168 RX5 yX5_lifts wsX5_lifts) := goodIn_app (goodIn_of _ (by decide +kernel)) ggX5_beginCheckpoint_X5_lifts
theorem dX5_beginCheckpoint_0 : decode cX5_beginCheckpoint 0 = .ok (.aload_n 0, 1) := by decide +kernel
theorem dX5_beginCheckpoint_1 : decode cX5_beginCheckpoint 1 = .ok (.aload_n 0, 1) := by decide +kernel
theorem dX5_beginCheckpoint_2 : decode cX5_beginCheckpoint 2 = .ok (.getfield 60, 3) := by decide +kernel
theorem dX5_beginCheckpoint_5 : decode cX5_beginCheckpoint 5 = .ok (.iconst (-1), 1) := by decide +kernel
theorem dX5_beginCheckpoint_6 : decode cX5_beginCheckpoint 6 = .ok (.if_icmp .ne 10, 3) := by decide +kernel
theorem dX5_beginCheckpoint_9 : decode cX5_beginCheckpoint 9 = .ok (.aload_n 0, 1) := by decide +kernel
theorem dX5_beginCheckpoint_10 : decode cX5_beginCheckpoint 10 = .ok (.invokevirtual 161, 3) := by decide +kernel
theorem dX5_beginCheckpoint_13 : decode cX5_beginCheckpoint 13 = .ok (.ifCond .eq 7, 3) := by decide +kernel
theorem dX5_beginCheckpoint_16 : decode cX5_beginCheckpoint 16 = .ok (.iconst 1, 1) := by decide +kernel
theorem dX5_beginCheckpoint_17 : decode cX5_beginCheckpoint 17 = .ok (.goto 4, 3) := by decide +kernel
theorem dX5_beginCheckpoint_20 : decode cX5_beginCheckpoint 20 = .ok (.iconst 0, 1) := by decide +kernel
theorem dX5_beginCheckpoint_21 : decode cX5_beginCheckpoint 21 = .ok (.invokevirtual 108, 3) := by decide +kernel
theorem dX5_beginCheckpoint_24 : decode cX5_beginCheckpoint 24 = .ok (.ifCond .ne 5, 3) := by decide +kernel
theorem dX5_beginCheckpoint_27 : decode cX5_beginCheckpoint 27 = .ok (.iconst 0, 1) := by decide +kernel
theorem dX5_beginCheckpoint_28 : decode cX5_beginCheckpoint 28 = .ok (.ireturn, 1) := by decide +kernel
theorem dX5_beginCheckpoint_29 : decode cX5_beginCheckpoint 29 = .ok (.aload_n 0, 1) := by decide +kernel
theorem dX5_beginCheckpoint_30 : decode cX5_beginCheckpoint 30 = .ok (.dup, 1) := by decide +kernel
theorem dX5_beginCheckpoint_31 : decode cX5_beginCheckpoint 31 = .ok (.getfield 165, 3) := by decide +kernel
theorem dX5_beginCheckpoint_34 : decode cX5_beginCheckpoint 34 = .ok (.iconst 1, 1) := by decide +kernel
theorem dX5_beginCheckpoint_35 : decode cX5_beginCheckpoint 35 = .ok (.iadd, 1) := by decide +kernel
theorem dX5_beginCheckpoint_36 : decode cX5_beginCheckpoint 36 = .ok (.putfield 165, 3) := by decide +kernel
theorem dX5_beginCheckpoint_39 : decode cX5_beginCheckpoint 39 = .ok (.aload_n 0, 1) := by decide +kernel
theorem dX5_beginCheckpoint_40 : decode cX5_beginCheckpoint 40 = .ok (.aload_n 0, 1) := by decide +kernel
theorem dX5_beginCheckpoint_41 : decode cX5_beginCheckpoint 41 = .ok (.getfield 165, 3) := by decide +kernel
theorem dX5_beginCheckpoint_44 : decode cX5_beginCheckpoint 44 = .ok (.putfield 60, 3) := by decide +kernel
theorem dX5_beginCheckpoint_47 : decode cX5_beginCheckpoint 47 = .ok (.aload_n 0, 1) := by decide +kernel
theorem dX5_beginCheckpoint_48 : decode cX5_beginCheckpoint 48 = .ok (.invokevirtual 168, 3) := by decide +kernel
theorem dX5_beginCheckpoint_51 : decode cX5_beginCheckpoint 51 = .ok (.aload_n 0, 1) := by decide +kernel
theorem dX5_beginCheckpoint_52 : decode cX5_beginCheckpoint 52 = .ok (.getfield 60, 3) := by decide +kernel
theorem dX5_beginCheckpoint_55 : decode cX5_beginCheckpoint 55 = .ok (.ireturn, 1) := by decide +kernel
set_option maxRecDepth 20000 in
theorem ggX5_abandon_X5_holds : GoodIn wsX5_abandon wsX5_holds := goodIn_r _ [11, 12, 31, 32, 33, 34, 35, 36, 37, 38, 39, 40, 41, 42, 43, 44, 45, 46, 47, 48, 49, 50, 51, 52, 53, 54, 55, 56, 57] (by decide +kernel) (by decide +kernel)
set_option maxRecDepth 20000 in
theorem gX5_abandon_X5_holds : GoodIn wsX5_abandon (wsV RX5 108 RX5 yX5_holds wsX5_holds) := goodIn_app (goodIn_of _ (by decide +kernel)) ggX5_abandon_X5_holds
set_option maxRecDepth 20000 in
theorem ggX5_abandon_X5_workerOfKey : GoodIn wsX5_abandon wsX5_workerOfKey := goodIn_r _ [16, 17, 18, 19, 10, 20, 31, 32, 33, 34, 35, 36, 37, 38, 39, 40, 41, 42, 43, 44, 45, 46, 47, 48, 49, 50, 51, 52, 53, 54, 55, 56, 57] (by decide +kernel) (by decide +kernel)
set_option maxRecDepth 20000 in
theorem gX5_abandon_X5_workerOfKey : GoodIn wsX5_abandon (wsV RX5 115 RX5 yX5_workerOfKey wsX5_workerOfKey) := goodIn_app (goodIn_of _ (by decide +kernel)) ggX5_abandon_X5_workerOfKey
set_option maxRecDepth 20000 in
theorem ggX5_abandon_X5_unseals : GoodIn wsX5_abandon wsX5_unseals := goodIn_r _ [24, 2, 31, 32, 33, 34, 35, 36, 37, 38, 39, 40, 41, 42, 43, 44, 45, 46, 47, 48, 49, 50, 51, 52, 53, 54, 55, 56, 57] (by decide +kernel) (by decide +kernel)
set_option maxRecDepth 20000 in
theorem gX5_abandon_X5_unseals : GoodIn wsX5_abandon (wsV RX5 87 RX5 yX5_unseals wsX5_unseals) := goodIn_app (goodIn_of _ (by decide +kernel)) ggX5_abandon_X5_unseals
set_option maxRecDepth 20000 in
theorem ggX5_abandon_X5_lifts : GoodIn wsX5_abandon wsX5_lifts := goodIn_r _ [28, 29, 30, 31, 32, 33, 34, 35, 36, 37, 38, 39, 40, 41, 42, 43, 44, 45, 46, 47, 48, 49, 50, 51, 52, 53, 54, 55, 56, 57] (by decide +kernel) (by decide +kernel)
set_option maxRecDepth 20000 in
theorem gX5_abandon_X5_lifts : GoodIn wsX5_abandon (wsV RX5 168 RX5 yX5_lifts wsX5_lifts) := goodIn_app (goodIn_of _ (by decide +kernel)) ggX5_abandon_X5_lifts
theorem dX5_abandon_0 : decode cX5_abandon 0 = .ok (.aload_n 0, 1) := by decide +kernel
theorem dX5_abandon_1 : decode cX5_abandon 1 = .ok (.aload_n 0, 1) := by decide +kernel
theorem dX5_abandon_2 : decode cX5_abandon 2 = .ok (.getfield 60, 3) := by decide +kernel
theorem dX5_abandon_5 : decode cX5_abandon 5 = .ok (.iconst (-1), 1) := by decide +kernel
theorem dX5_abandon_6 : decode cX5_abandon 6 = .ok (.if_icmp .ne 7, 3) := by decide +kernel
theorem dX5_abandon_9 : decode cX5_abandon 9 = .ok (.iconst 1, 1) := by decide +kernel
theorem dX5_abandon_10 : decode cX5_abandon 10 = .ok (.goto 4, 3) := by decide +kernel
theorem dX5_abandon_13 : decode cX5_abandon 13 = .ok (.iconst 0, 1) := by decide +kernel
theorem dX5_abandon_14 : decode cX5_abandon 14 = .ok (.invokevirtual 108, 3) := by decide +kernel
theorem dX5_abandon_17 : decode cX5_abandon 17 = .ok (.ifCond .ne 5, 3) := by decide +kernel
theorem dX5_abandon_20 : decode cX5_abandon 20 = .ok (.iconst 0, 1) := by decide +kernel
theorem dX5_abandon_21 : decode cX5_abandon 21 = .ok (.ireturn, 1) := by decide +kernel
theorem dX5_abandon_22 : decode cX5_abandon 22 = .ok (.iconst 0, 1) := by decide +kernel
theorem dX5_abandon_23 : decode cX5_abandon 23 = .ok (.istore_n 1, 1) := by decide +kernel
theorem dX5_abandon_24 : decode cX5_abandon 24 = .ok (.iload_n 1, 1) := by decide +kernel
theorem dX5_abandon_25 : decode cX5_abandon 25 = .ok (.bipush 32, 2) := by decide +kernel
theorem dX5_abandon_27 : decode cX5_abandon 27 = .ok (.if_icmp .ge 56, 3) := by decide +kernel
theorem dX5_abandon_30 : decode cX5_abandon 30 = .ok (.aload_n 0, 1) := by decide +kernel
theorem dX5_abandon_31 : decode cX5_abandon 31 = .ok (.getfield 51, 3) := by decide +kernel
theorem dX5_abandon_34 : decode cX5_abandon 34 = .ok (.aload_n 0, 1) := by decide +kernel
theorem dX5_abandon_35 : decode cX5_abandon 35 = .ok (.iload_n 1, 1) := by decide +kernel
theorem dX5_abandon_36 : decode cX5_abandon 36 = .ok (.invokevirtual 115, 3) := by decide +kernel
theorem dX5_abandon_39 : decode cX5_abandon 39 = .ok (.iaload, 1) := by decide +kernel
theorem dX5_abandon_40 : decode cX5_abandon 40 = .ok (.aload_n 0, 1) := by decide +kernel
theorem dX5_abandon_41 : decode cX5_abandon 41 = .ok (.getfield 60, 3) := by decide +kernel
theorem dX5_abandon_44 : decode cX5_abandon 44 = .ok (.if_icmp .ne 33, 3) := by decide +kernel
theorem dX5_abandon_47 : decode cX5_abandon 47 = .ok (.aload_n 0, 1) := by decide +kernel
theorem dX5_abandon_48 : decode cX5_abandon 48 = .ok (.getfield 39, 3) := by decide +kernel
theorem dX5_abandon_51 : decode cX5_abandon 51 = .ok (.iload_n 1, 1) := by decide +kernel
theorem dX5_abandon_52 : decode cX5_abandon 52 = .ok (.dup2, 1) := by decide +kernel
theorem dX5_abandon_53 : decode cX5_abandon 53 = .ok (.iaload, 1) := by decide +kernel
theorem dX5_abandon_54 : decode cX5_abandon 54 = .ok (.aload_n 0, 1) := by decide +kernel
theorem dX5_abandon_55 : decode cX5_abandon 55 = .ok (.getfield 45, 3) := by decide +kernel
theorem dX5_abandon_58 : decode cX5_abandon 58 = .ok (.iload_n 1, 1) := by decide +kernel
theorem dX5_abandon_59 : decode cX5_abandon 59 = .ok (.iaload, 1) := by decide +kernel
theorem dX5_abandon_60 : decode cX5_abandon 60 = .ok (.iadd, 1) := by decide +kernel
theorem dX5_abandon_61 : decode cX5_abandon 61 = .ok (.iastore, 1) := by decide +kernel
theorem dX5_abandon_62 : decode cX5_abandon 62 = .ok (.aload_n 0, 1) := by decide +kernel
theorem dX5_abandon_63 : decode cX5_abandon 63 = .ok (.getfield 42, 3) := by decide +kernel
theorem dX5_abandon_66 : decode cX5_abandon 66 = .ok (.iload_n 1, 1) := by decide +kernel
theorem dX5_abandon_67 : decode cX5_abandon 67 = .ok (.dup2, 1) := by decide +kernel
theorem dX5_abandon_68 : decode cX5_abandon 68 = .ok (.iaload, 1) := by decide +kernel
theorem dX5_abandon_69 : decode cX5_abandon 69 = .ok (.aload_n 0, 1) := by decide +kernel
theorem dX5_abandon_70 : decode cX5_abandon 70 = .ok (.getfield 48, 3) := by decide +kernel
theorem dX5_abandon_73 : decode cX5_abandon 73 = .ok (.iload_n 1, 1) := by decide +kernel
theorem dX5_abandon_74 : decode cX5_abandon 74 = .ok (.iaload, 1) := by decide +kernel
theorem dX5_abandon_75 : decode cX5_abandon 75 = .ok (.iadd, 1) := by decide +kernel
theorem dX5_abandon_76 : decode cX5_abandon 76 = .ok (.iastore, 1) := by decide +kernel
theorem dX5_abandon_77 : decode cX5_abandon 77 = .ok (.iinc 1 1, 3) := by decide +kernel
theorem dX5_abandon_80 : decode cX5_abandon 80 = .ok (.goto (-56), 3) := by decide +kernel
theorem dX5_abandon_83 : decode cX5_abandon 83 = .ok (.aload_n 0, 1) := by decide +kernel
theorem dX5_abandon_84 : decode cX5_abandon 84 = .ok (.getfield 60, 3) := by decide +kernel
theorem dX5_abandon_87 : decode cX5_abandon 87 = .ok (.istore_n 1, 1) := by decide +kernel
theorem dX5_abandon_88 : decode cX5_abandon 88 = .ok (.aload_n 0, 1) := by decide +kernel
theorem dX5_abandon_89 : decode cX5_abandon 89 = .ok (.invokevirtual 87, 3) := by decide +kernel
theorem dX5_abandon_92 : decode cX5_abandon 92 = .ok (.aload_n 0, 1) := by decide +kernel
theorem dX5_abandon_93 : decode cX5_abandon 93 = .ok (.invokevirtual 168, 3) := by decide +kernel
theorem dX5_abandon_96 : decode cX5_abandon 96 = .ok (.aload_n 0, 1) := by decide +kernel
theorem dX5_abandon_97 : decode cX5_abandon 97 = .ok (.iconst (-1), 1) := by decide +kernel
theorem dX5_abandon_98 : decode cX5_abandon 98 = .ok (.putfield 60, 3) := by decide +kernel
theorem dX5_abandon_101 : decode cX5_abandon 101 = .ok (.iload_n 1, 1) := by decide +kernel
theorem dX5_abandon_102 : decode cX5_abandon 102 = .ok (.ireturn, 1) := by decide +kernel
set_option maxRecDepth 20000 in
theorem ggX5_startsAgain_X5_mayCommit : GoodIn wsX5_startsAgain wsX5_mayCommit := goodIn_r _ [16, 17, 2, 49, 50, 51, 52, 53, 54, 55, 56, 57, 58, 59, 60, 61, 62, 63, 64, 65, 66, 67, 68, 69, 70, 71, 72, 73, 74, 75] (by decide +kernel) (by decide +kernel)
set_option maxRecDepth 20000 in
theorem gX5_startsAgain_X5_mayCommit : GoodIn wsX5_startsAgain (wsV RX5 155 RX5 yX5_mayCommit wsX5_mayCommit) := goodIn_app (goodIn_of _ (by decide +kernel)) ggX5_startsAgain_X5_mayCommit
set_option maxRecDepth 20000 in
theorem ggX5_startsAgain_X5_commits : GoodIn wsX5_startsAgain wsX5_commits := goodIn_r _ [21, 22, 23, 24, 25, 17, 26, 27, 28, 15, 29, 1, 30, 31, 32, 49, 50, 51, 52, 53, 54, 55, 56, 57, 58, 59, 60, 61, 62, 63, 64, 65, 66, 67, 68, 69, 70, 71, 72, 73, 74, 75] (by decide +kernel) (by decide +kernel)
set_option maxRecDepth 20000 in
theorem gX5_startsAgain_X5_commits : GoodIn wsX5_startsAgain (wsV RX5 158 RX5 yX5_commits wsX5_commits) := goodIn_app (goodIn_of _ (by decide +kernel)) ggX5_startsAgain_X5_commits
set_option maxRecDepth 20000 in
theorem ggX5_startsAgain_X5_unseals : GoodIn wsX5_startsAgain wsX5_unseals := goodIn_r _ [36, 17, 49, 50, 51, 52, 53, 54, 55, 56, 57, 58, 59, 60, 61, 62, 63, 64, 65, 66, 67, 68, 69, 70, 71, 72, 73, 74, 75] (by decide +kernel) (by decide +kernel)
set_option maxRecDepth 20000 in
theorem gX5_startsAgain_X5_unseals : GoodIn wsX5_startsAgain (wsV RX5 87 RX5 yX5_unseals wsX5_unseals) := goodIn_app (goodIn_of _ (by decide +kernel)) ggX5_startsAgain_X5_unseals
set_option maxRecDepth 20000 in
theorem ggX5_startsAgain_X5_lifts : GoodIn wsX5_startsAgain wsX5_lifts := goodIn_r _ [40, 41, 42, 49, 50, 51, 52, 53, 54, 55, 56, 57, 58, 59, 60, 61, 62, 63, 64, 65, 66, 67, 68, 69, 70, 71, 72, 73, 74, 75] (by decide +kernel) (by decide +kernel)
set_option maxRecDepth 20000 in
theorem gX5_startsAgain_X5_lifts : GoodIn wsX5_startsAgain (wsV RX5 168 RX5 yX5_lifts wsX5_lifts) := goodIn_app (goodIn_of _ (by decide +kernel)) ggX5_startsAgain_X5_lifts
set_option maxRecDepth 20000 in
theorem ggX5_startsAgain_X5_clears : GoodIn wsX5_startsAgain wsX5_clears := goodIn_r _ [45] (by decide +kernel) (by decide +kernel)
set_option maxRecDepth 20000 in
theorem gX5_startsAgain_X5_clears : GoodIn wsX5_startsAgain (va_wsS RX5 171 yX5_clears wsX5_clears) := goodIn_app (goodIn_of _ (by decide +kernel)) ggX5_startsAgain_X5_clears
set_option maxRecDepth 20000 in
theorem ggX5_startsAgain_X5_copies : GoodIn wsX5_startsAgain wsX5_copies := goodIn_r _ [48] (by decide +kernel) (by decide +kernel)
set_option maxRecDepth 20000 in
theorem gX5_startsAgain_X5_copies : GoodIn wsX5_startsAgain (va_wsS RX5 141 yX5_copies wsX5_copies) := goodIn_app (goodIn_of _ (by decide +kernel)) ggX5_startsAgain_X5_copies
theorem dX5_startsAgain_0 : decode cX5_startsAgain 0 = .ok (.iconst 0, 1) := by decide +kernel
theorem dX5_startsAgain_1 : decode cX5_startsAgain 1 = .ok (.istore_n 2, 1) := by decide +kernel
theorem dX5_startsAgain_2 : decode cX5_startsAgain 2 = .ok (.iload_n 2, 1) := by decide +kernel
theorem dX5_startsAgain_3 : decode cX5_startsAgain 3 = .ok (.aload_n 0, 1) := by decide +kernel
theorem dX5_startsAgain_4 : decode cX5_startsAgain 4 = .ok (.getfield 7, 3) := by decide +kernel
theorem dX5_startsAgain_7 : decode cX5_startsAgain 7 = .ok (.if_icmp .ge 23, 3) := by decide +kernel
theorem dX5_startsAgain_10 : decode cX5_startsAgain 10 = .ok (.aload_n 0, 1) := by decide +kernel
theorem dX5_startsAgain_11 : decode cX5_startsAgain 11 = .ok (.iload_n 2, 1) := by decide +kernel
theorem dX5_startsAgain_12 : decode cX5_startsAgain 12 = .ok (.invokevirtual 155, 3) := by decide +kernel
theorem dX5_startsAgain_15 : decode cX5_startsAgain 15 = .ok (.ifCond .eq 9, 3) := by decide +kernel
theorem dX5_startsAgain_18 : decode cX5_startsAgain 18 = .ok (.aload_n 0, 1) := by decide +kernel
theorem dX5_startsAgain_19 : decode cX5_startsAgain 19 = .ok (.iload_n 2, 1) := by decide +kernel
theorem dX5_startsAgain_20 : decode cX5_startsAgain 20 = .ok (.invokevirtual 158, 3) := by decide +kernel
theorem dX5_startsAgain_23 : decode cX5_startsAgain 23 = .ok (.pop, 1) := by decide +kernel
theorem dX5_startsAgain_24 : decode cX5_startsAgain 24 = .ok (.iinc 2 1, 3) := by decide +kernel
theorem dX5_startsAgain_27 : decode cX5_startsAgain 27 = .ok (.goto (-25), 3) := by decide +kernel
theorem dX5_startsAgain_30 : decode cX5_startsAgain 30 = .ok (.aload_n 0, 1) := by decide +kernel
theorem dX5_startsAgain_31 : decode cX5_startsAgain 31 = .ok (.invokevirtual 87, 3) := by decide +kernel
theorem dX5_startsAgain_34 : decode cX5_startsAgain 34 = .ok (.aload_n 0, 1) := by decide +kernel
theorem dX5_startsAgain_35 : decode cX5_startsAgain 35 = .ok (.invokevirtual 168, 3) := by decide +kernel
theorem dX5_startsAgain_38 : decode cX5_startsAgain 38 = .ok (.aload_n 0, 1) := by decide +kernel
theorem dX5_startsAgain_39 : decode cX5_startsAgain 39 = .ok (.iconst (-1), 1) := by decide +kernel
theorem dX5_startsAgain_40 : decode cX5_startsAgain 40 = .ok (.putfield 60, 3) := by decide +kernel
theorem dX5_startsAgain_43 : decode cX5_startsAgain 43 = .ok (.aload_n 0, 1) := by decide +kernel
theorem dX5_startsAgain_44 : decode cX5_startsAgain 44 = .ok (.iload_n 1, 1) := by decide +kernel
theorem dX5_startsAgain_45 : decode cX5_startsAgain 45 = .ok (.putfield 7, 3) := by decide +kernel
theorem dX5_startsAgain_48 : decode cX5_startsAgain 48 = .ok (.aload_n 0, 1) := by decide +kernel
theorem dX5_startsAgain_49 : decode cX5_startsAgain 49 = .ok (.getfield 26, 3) := by decide +kernel
theorem dX5_startsAgain_52 : decode cX5_startsAgain 52 = .ok (.invokestatic 171, 3) := by decide +kernel
theorem dX5_startsAgain_55 : decode cX5_startsAgain 55 = .ok (.aload_n 0, 1) := by decide +kernel
theorem dX5_startsAgain_56 : decode cX5_startsAgain 56 = .ok (.getfield 39, 3) := by decide +kernel
theorem dX5_startsAgain_59 : decode cX5_startsAgain 59 = .ok (.invokestatic 171, 3) := by decide +kernel
theorem dX5_startsAgain_62 : decode cX5_startsAgain 62 = .ok (.aload_n 0, 1) := by decide +kernel
theorem dX5_startsAgain_63 : decode cX5_startsAgain 63 = .ok (.getfield 42, 3) := by decide +kernel
theorem dX5_startsAgain_66 : decode cX5_startsAgain 66 = .ok (.invokestatic 171, 3) := by decide +kernel
theorem dX5_startsAgain_69 : decode cX5_startsAgain 69 = .ok (.aload_n 0, 1) := by decide +kernel
theorem dX5_startsAgain_70 : decode cX5_startsAgain 70 = .ok (.getfield 78, 3) := by decide +kernel
theorem dX5_startsAgain_73 : decode cX5_startsAgain 73 = .ok (.aload_n 0, 1) := by decide +kernel
theorem dX5_startsAgain_74 : decode cX5_startsAgain 74 = .ok (.getfield 17, 3) := by decide +kernel
theorem dX5_startsAgain_77 : decode cX5_startsAgain 77 = .ok (.invokestatic 141, 3) := by decide +kernel
theorem dX5_startsAgain_80 : decode cX5_startsAgain 80 = .ok (.aload_n 0, 1) := by decide +kernel
theorem dX5_startsAgain_81 : decode cX5_startsAgain 81 = .ok (.getfield 81, 3) := by decide +kernel
theorem dX5_startsAgain_84 : decode cX5_startsAgain 84 = .ok (.aload_n 0, 1) := by decide +kernel
theorem dX5_startsAgain_85 : decode cX5_startsAgain 85 = .ok (.getfield 33, 3) := by decide +kernel
theorem dX5_startsAgain_88 : decode cX5_startsAgain 88 = .ok (.invokestatic 141, 3) := by decide +kernel
theorem dX5_startsAgain_91 : decode cX5_startsAgain 91 = .ok (.aload_n 0, 1) := by decide +kernel
theorem dX5_startsAgain_92 : decode cX5_startsAgain 92 = .ok (.getfield 84, 3) := by decide +kernel
theorem dX5_startsAgain_95 : decode cX5_startsAgain 95 = .ok (.aload_n 0, 1) := by decide +kernel
theorem dX5_startsAgain_96 : decode cX5_startsAgain 96 = .ok (.getfield 36, 3) := by decide +kernel
theorem dX5_startsAgain_99 : decode cX5_startsAgain 99 = .ok (.invokestatic 141, 3) := by decide +kernel
theorem dX5_startsAgain_102 : decode cX5_startsAgain 102 = .ok (.return_, 1) := by decide +kernel
set_option maxRecDepth 20000 in
theorem ggX5_crash_X5_startsAgain : GoodIn wsX5_crash wsX5_startsAgain := goodIn_r _ [8, 2, 9, 10, 11, 12, 13, 14, 15, 16, 17, 18, 19, 20, 21, 7, 22, 23, 24, 25, 26, 27, 28, 29, 30, 31, 32, 33, 34, 35, 36, 37, 38, 39, 40, 41, 42, 43, 44, 45, 46, 47, 48, 49, 50, 51, 52, 53, 54, 55, 56, 57, 58, 59, 60, 61, 62, 63, 64, 65, 66, 67, 68, 69, 70, 71, 72, 73, 74, 75, 76, 77, 78, 79, 80, 81] (by decide +kernel) (by decide +kernel)
set_option maxRecDepth 20000 in
theorem gX5_crash_X5_startsAgain : GoodIn wsX5_crash (wsV RX5 175 RX5 yX5_startsAgain wsX5_startsAgain) := goodIn_app (goodIn_of _ (by decide +kernel)) ggX5_crash_X5_startsAgain
theorem dX5_crash_0 : decode cX5_crash 0 = .ok (.aload_n 0, 1) := by decide +kernel
theorem dX5_crash_1 : decode cX5_crash 1 = .ok (.iconst 0, 1) := by decide +kernel
theorem dX5_crash_2 : decode cX5_crash 2 = .ok (.putfield 90, 3) := by decide +kernel
theorem dX5_crash_5 : decode cX5_crash 5 = .ok (.aload_n 0, 1) := by decide +kernel
theorem dX5_crash_6 : decode cX5_crash 6 = .ok (.aload_n 0, 1) := by decide +kernel
theorem dX5_crash_7 : decode cX5_crash 7 = .ok (.getfield 7, 3) := by decide +kernel
theorem dX5_crash_10 : decode cX5_crash 10 = .ok (.invokevirtual 175, 3) := by decide +kernel
theorem dX5_crash_13 : decode cX5_crash 13 = .ok (.aload_n 0, 1) := by decide +kernel
theorem dX5_crash_14 : decode cX5_crash 14 = .ok (.getfield 63, 3) := by decide +kernel
theorem dX5_crash_17 : decode cX5_crash 17 = .ok (.iconst (-1), 1) := by decide +kernel
theorem dX5_crash_18 : decode cX5_crash 18 = .ok (.if_icmp .ne 7, 3) := by decide +kernel
theorem dX5_crash_21 : decode cX5_crash 21 = .ok (.iconst 0, 1) := by decide +kernel
theorem dX5_crash_22 : decode cX5_crash 22 = .ok (.goto 7, 3) := by decide +kernel
theorem dX5_crash_25 : decode cX5_crash 25 = .ok (.aload_n 0, 1) := by decide +kernel
theorem dX5_crash_26 : decode cX5_crash 26 = .ok (.getfield 63, 3) := by decide +kernel
theorem dX5_crash_29 : decode cX5_crash 29 = .ok (.ireturn, 1) := by decide +kernel
set_option maxRecDepth 20000 in
theorem ggX5_rescale_X5_in : GoodIn wsX5_rescale wsX5_in := goodIn_r _ [5] (by decide +kernel) (by decide +kernel)
set_option maxRecDepth 20000 in
theorem gX5_rescale_X5_in : GoodIn wsX5_rescale (va_wsS RX5 93 yX5_in wsX5_in) := goodIn_app (goodIn_of _ (by decide +kernel)) ggX5_rescale_X5_in
set_option maxRecDepth 20000 in
theorem ggX5_rescale_X5_holds : GoodIn wsX5_rescale wsX5_holds := goodIn_r _ [9, 10, 61, 62, 63, 64, 65, 66, 67, 68, 69, 70, 71, 72, 73, 74, 75, 76, 77, 78, 79, 80, 81, 82, 83, 84, 85, 86, 87] (by decide +kernel) (by decide +kernel)
set_option maxRecDepth 20000 in
theorem gX5_rescale_X5_holds : GoodIn wsX5_rescale (wsV RX5 108 RX5 yX5_holds wsX5_holds) := goodIn_app (goodIn_of _ (by decide +kernel)) ggX5_rescale_X5_holds
set_option maxRecDepth 20000 in
theorem ggX5_rescale_X5_workerOfGroup : GoodIn wsX5_rescale wsX5_workerOfGroup := goodIn_r _ [13] (by decide +kernel) (by decide +kernel)
set_option maxRecDepth 20000 in
theorem gX5_rescale_X5_workerOfGroup : GoodIn wsX5_rescale (va_wsS RX5 97 yX5_workerOfGroup wsX5_workerOfGroup) := goodIn_app (goodIn_of _ (by decide +kernel)) ggX5_rescale_X5_workerOfGroup
set_option maxRecDepth 20000 in
theorem ggX5_rescale_X5_startsAgain : GoodIn wsX5_rescale wsX5_startsAgain := goodIn_r _ [17, 1, 18, 19, 20, 21, 22, 23, 24, 25, 26, 27, 28, 29, 30, 4, 31, 32, 33, 34, 35, 36, 37, 38, 39, 40, 41, 42, 43, 44, 11, 12, 13, 45, 46, 47, 48, 49, 50, 51, 52, 53, 54, 55, 56, 57, 58, 59, 60, 61, 62, 63, 64, 65, 66, 67, 68, 69, 70, 71, 72, 73, 74, 75, 76, 77, 78, 79, 80, 81, 82, 83, 84, 85, 86, 87] (by decide +kernel) (by decide +kernel)
set_option maxRecDepth 20000 in
theorem gX5_rescale_X5_startsAgain : GoodIn wsX5_rescale (wsV RX5 175 RX5 yX5_startsAgain wsX5_startsAgain) := goodIn_app (goodIn_of _ (by decide +kernel)) ggX5_rescale_X5_startsAgain
theorem dX5_rescale_0 : decode cX5_rescale 0 = .ok (.aload_n 0, 1) := by decide +kernel
theorem dX5_rescale_1 : decode cX5_rescale 1 = .ok (.iload_n 1, 1) := by decide +kernel
theorem dX5_rescale_2 : decode cX5_rescale 2 = .ok (.iconst 1, 1) := by decide +kernel
theorem dX5_rescale_3 : decode cX5_rescale 3 = .ok (.iconst 4, 1) := by decide +kernel
theorem dX5_rescale_4 : decode cX5_rescale 4 = .ok (.invokestatic 93, 3) := by decide +kernel
theorem dX5_rescale_7 : decode cX5_rescale 7 = .ok (.ifCond .eq 7, 3) := by decide +kernel
theorem dX5_rescale_10 : decode cX5_rescale 10 = .ok (.iconst 0, 1) := by decide +kernel
theorem dX5_rescale_11 : decode cX5_rescale 11 = .ok (.goto 4, 3) := by decide +kernel
theorem dX5_rescale_14 : decode cX5_rescale 14 = .ok (.iconst 1, 1) := by decide +kernel
theorem dX5_rescale_15 : decode cX5_rescale 15 = .ok (.invokevirtual 108, 3) := by decide +kernel
theorem dX5_rescale_18 : decode cX5_rescale 18 = .ok (.ifCond .ne 5, 3) := by decide +kernel
theorem dX5_rescale_21 : decode cX5_rescale 21 = .ok (.iconst 0, 1) := by decide +kernel
theorem dX5_rescale_22 : decode cX5_rescale 22 = .ok (.ireturn, 1) := by decide +kernel
theorem dX5_rescale_23 : decode cX5_rescale 23 = .ok (.iconst 0, 1) := by decide +kernel
theorem dX5_rescale_24 : decode cX5_rescale 24 = .ok (.istore_n 2, 1) := by decide +kernel
theorem dX5_rescale_25 : decode cX5_rescale 25 = .ok (.iconst 0, 1) := by decide +kernel
theorem dX5_rescale_26 : decode cX5_rescale 26 = .ok (.istore_n 3, 1) := by decide +kernel
theorem dX5_rescale_27 : decode cX5_rescale 27 = .ok (.iload_n 3, 1) := by decide +kernel
theorem dX5_rescale_28 : decode cX5_rescale 28 = .ok (.bipush 8, 2) := by decide +kernel
theorem dX5_rescale_30 : decode cX5_rescale 30 = .ok (.if_icmp .ge 33, 3) := by decide +kernel
theorem dX5_rescale_33 : decode cX5_rescale 33 = .ok (.iload_n 2, 1) := by decide +kernel
theorem dX5_rescale_34 : decode cX5_rescale 34 = .ok (.iload_n 3, 1) := by decide +kernel
theorem dX5_rescale_35 : decode cX5_rescale 35 = .ok (.iload_n 1, 1) := by decide +kernel
theorem dX5_rescale_36 : decode cX5_rescale 36 = .ok (.invokestatic 97, 3) := by decide +kernel
theorem dX5_rescale_39 : decode cX5_rescale 39 = .ok (.iload_n 3, 1) := by decide +kernel
theorem dX5_rescale_40 : decode cX5_rescale 40 = .ok (.aload_n 0, 1) := by decide +kernel
theorem dX5_rescale_41 : decode cX5_rescale 41 = .ok (.getfield 7, 3) := by decide +kernel
theorem dX5_rescale_44 : decode cX5_rescale 44 = .ok (.invokestatic 97, 3) := by decide +kernel
theorem dX5_rescale_47 : decode cX5_rescale 47 = .ok (.if_icmp .ne 7, 3) := by decide +kernel
theorem dX5_rescale_50 : decode cX5_rescale 50 = .ok (.iconst 0, 1) := by decide +kernel
theorem dX5_rescale_51 : decode cX5_rescale 51 = .ok (.goto 4, 3) := by decide +kernel
theorem dX5_rescale_54 : decode cX5_rescale 54 = .ok (.iconst 1, 1) := by decide +kernel
theorem dX5_rescale_55 : decode cX5_rescale 55 = .ok (.iadd, 1) := by decide +kernel
theorem dX5_rescale_56 : decode cX5_rescale 56 = .ok (.istore_n 2, 1) := by decide +kernel
theorem dX5_rescale_57 : decode cX5_rescale 57 = .ok (.iinc 3 1, 3) := by decide +kernel
theorem dX5_rescale_60 : decode cX5_rescale 60 = .ok (.goto (-33), 3) := by decide +kernel
theorem dX5_rescale_63 : decode cX5_rescale 63 = .ok (.aload_n 0, 1) := by decide +kernel
theorem dX5_rescale_64 : decode cX5_rescale 64 = .ok (.iload_n 1, 1) := by decide +kernel
theorem dX5_rescale_65 : decode cX5_rescale 65 = .ok (.invokevirtual 175, 3) := by decide +kernel
theorem dX5_rescale_68 : decode cX5_rescale 68 = .ok (.iload_n 2, 1) := by decide +kernel
theorem dX5_rescale_69 : decode cX5_rescale 69 = .ok (.ireturn, 1) := by decide +kernel
set_option maxRecDepth 20000 in
theorem ggX5_events_X5_isPartition : GoodIn wsX5_events wsX5_isPartition := goodIn_r _ [5, 6, 7, 4, 8] (by decide +kernel) (by decide +kernel)
set_option maxRecDepth 20000 in
theorem gX5_events_X5_isPartition : GoodIn wsX5_events (va_wsS RX5 101 yX5_isPartition wsX5_isPartition) := goodIn_app (goodIn_of _ (by decide +kernel)) ggX5_events_X5_isPartition
set_option maxRecDepth 20000 in
theorem ggX5_events_X5_holds : GoodIn wsX5_events wsX5_holds := goodIn_r _ [12, 13, 14, 15, 16, 17, 18, 19, 20, 21, 22, 23, 24, 25, 26, 27, 28, 29, 30, 31, 32, 33, 34, 35, 36, 37, 38, 39, 40] (by decide +kernel) (by decide +kernel)
set_option maxRecDepth 20000 in
theorem gX5_events_X5_holds : GoodIn wsX5_events (wsV RX5 108 RX5 yX5_holds wsX5_holds) := goodIn_app (goodIn_of _ (by decide +kernel)) ggX5_events_X5_holds
theorem dX5_events_0 : decode cX5_events 0 = .ok (.aload_n 0, 1) := by decide +kernel
theorem dX5_events_1 : decode cX5_events 1 = .ok (.iload_n 1, 1) := by decide +kernel
theorem dX5_events_2 : decode cX5_events 2 = .ok (.invokestatic 101, 3) := by decide +kernel
theorem dX5_events_5 : decode cX5_events 5 = .ok (.ifCond .eq 7, 3) := by decide +kernel
theorem dX5_events_8 : decode cX5_events 8 = .ok (.iconst 0, 1) := by decide +kernel
theorem dX5_events_9 : decode cX5_events 9 = .ok (.goto 4, 3) := by decide +kernel
theorem dX5_events_12 : decode cX5_events 12 = .ok (.iconst 1, 1) := by decide +kernel
theorem dX5_events_13 : decode cX5_events 13 = .ok (.invokevirtual 108, 3) := by decide +kernel
theorem dX5_events_16 : decode cX5_events 16 = .ok (.ifCond .eq 12, 3) := by decide +kernel
theorem dX5_events_19 : decode cX5_events 19 = .ok (.aload_n 0, 1) := by decide +kernel
theorem dX5_events_20 : decode cX5_events 20 = .ok (.getfield 13, 3) := by decide +kernel
theorem dX5_events_23 : decode cX5_events 23 = .ok (.iload_n 1, 1) := by decide +kernel
theorem dX5_events_24 : decode cX5_events 24 = .ok (.iaload, 1) := by decide +kernel
theorem dX5_events_25 : decode cX5_events 25 = .ok (.goto 4, 3) := by decide +kernel
theorem dX5_events_28 : decode cX5_events 28 = .ok (.iconst 0, 1) := by decide +kernel
theorem dX5_events_29 : decode cX5_events 29 = .ok (.ireturn, 1) := by decide +kernel
set_option maxRecDepth 20000 in
theorem ggX5_offset_X5_isPartition : GoodIn wsX5_offset wsX5_isPartition := goodIn_r _ [5, 6, 7, 4, 8] (by decide +kernel) (by decide +kernel)
set_option maxRecDepth 20000 in
theorem gX5_offset_X5_isPartition : GoodIn wsX5_offset (va_wsS RX5 101 yX5_isPartition wsX5_isPartition) := goodIn_app (goodIn_of _ (by decide +kernel)) ggX5_offset_X5_isPartition
set_option maxRecDepth 20000 in
theorem ggX5_offset_X5_holds : GoodIn wsX5_offset wsX5_holds := goodIn_r _ [12, 13, 14, 15, 16, 17, 18, 19, 20, 21, 22, 23, 24, 25, 26, 27, 28, 29, 30, 31, 32, 33, 34, 35, 36, 37, 38, 39, 40] (by decide +kernel) (by decide +kernel)
set_option maxRecDepth 20000 in
theorem gX5_offset_X5_holds : GoodIn wsX5_offset (wsV RX5 108 RX5 yX5_holds wsX5_holds) := goodIn_app (goodIn_of _ (by decide +kernel)) ggX5_offset_X5_holds
theorem dX5_offset_0 : decode cX5_offset 0 = .ok (.aload_n 0, 1) := by decide +kernel
theorem dX5_offset_1 : decode cX5_offset 1 = .ok (.iload_n 1, 1) := by decide +kernel
theorem dX5_offset_2 : decode cX5_offset 2 = .ok (.invokestatic 101, 3) := by decide +kernel
theorem dX5_offset_5 : decode cX5_offset 5 = .ok (.ifCond .eq 7, 3) := by decide +kernel
theorem dX5_offset_8 : decode cX5_offset 8 = .ok (.iconst 0, 1) := by decide +kernel
theorem dX5_offset_9 : decode cX5_offset 9 = .ok (.goto 4, 3) := by decide +kernel
theorem dX5_offset_12 : decode cX5_offset 12 = .ok (.iconst 1, 1) := by decide +kernel
theorem dX5_offset_13 : decode cX5_offset 13 = .ok (.invokevirtual 108, 3) := by decide +kernel
theorem dX5_offset_16 : decode cX5_offset 16 = .ok (.ifCond .eq 12, 3) := by decide +kernel
theorem dX5_offset_19 : decode cX5_offset 19 = .ok (.aload_n 0, 1) := by decide +kernel
theorem dX5_offset_20 : decode cX5_offset 20 = .ok (.getfield 17, 3) := by decide +kernel
theorem dX5_offset_23 : decode cX5_offset 23 = .ok (.iload_n 1, 1) := by decide +kernel
theorem dX5_offset_24 : decode cX5_offset 24 = .ok (.iaload, 1) := by decide +kernel
theorem dX5_offset_25 : decode cX5_offset 25 = .ok (.goto 4, 3) := by decide +kernel
theorem dX5_offset_28 : decode cX5_offset 28 = .ok (.iconst 0, 1) := by decide +kernel
theorem dX5_offset_29 : decode cX5_offset 29 = .ok (.ireturn, 1) := by decide +kernel
set_option maxRecDepth 20000 in
theorem ggX5_eventAt_X5_isPartition : GoodIn wsX5_eventAt wsX5_isPartition := goodIn_r _ [6, 7, 8, 5, 9] (by decide +kernel) (by decide +kernel)
set_option maxRecDepth 20000 in
theorem gX5_eventAt_X5_isPartition : GoodIn wsX5_eventAt (va_wsS RX5 101 yX5_isPartition wsX5_isPartition) := goodIn_app (goodIn_of _ (by decide +kernel)) ggX5_eventAt_X5_isPartition
set_option maxRecDepth 20000 in
theorem ggX5_eventAt_X5_in : GoodIn wsX5_eventAt wsX5_in := goodIn_r _ [9] (by decide +kernel) (by decide +kernel)
set_option maxRecDepth 20000 in
theorem gX5_eventAt_X5_in : GoodIn wsX5_eventAt (va_wsS RX5 93 yX5_in wsX5_in) := goodIn_app (goodIn_of _ (by decide +kernel)) ggX5_eventAt_X5_in
set_option maxRecDepth 20000 in
theorem ggX5_eventAt_X5_holds : GoodIn wsX5_eventAt wsX5_holds := goodIn_r _ [13, 14, 15, 16, 17, 18, 19, 20, 21, 22, 23, 24, 25, 26, 27, 28, 29, 30, 31, 32, 33, 34, 35, 36, 37, 38, 39, 40, 41] (by decide +kernel) (by decide +kernel)
set_option maxRecDepth 20000 in
theorem gX5_eventAt_X5_holds : GoodIn wsX5_eventAt (wsV RX5 108 RX5 yX5_holds wsX5_holds) := goodIn_app (goodIn_of _ (by decide +kernel)) ggX5_eventAt_X5_holds
theorem dX5_eventAt_0 : decode cX5_eventAt 0 = .ok (.aload_n 0, 1) := by decide +kernel
theorem dX5_eventAt_1 : decode cX5_eventAt 1 = .ok (.iload_n 1, 1) := by decide +kernel
theorem dX5_eventAt_2 : decode cX5_eventAt 2 = .ok (.invokestatic 101, 3) := by decide +kernel
theorem dX5_eventAt_5 : decode cX5_eventAt 5 = .ok (.ifCond .eq 23, 3) := by decide +kernel
theorem dX5_eventAt_8 : decode cX5_eventAt 8 = .ok (.iload_n 2, 1) := by decide +kernel
theorem dX5_eventAt_9 : decode cX5_eventAt 9 = .ok (.iconst 0, 1) := by decide +kernel
theorem dX5_eventAt_10 : decode cX5_eventAt 10 = .ok (.aload_n 0, 1) := by decide +kernel
theorem dX5_eventAt_11 : decode cX5_eventAt 11 = .ok (.getfield 13, 3) := by decide +kernel
theorem dX5_eventAt_14 : decode cX5_eventAt 14 = .ok (.iload_n 1, 1) := by decide +kernel
theorem dX5_eventAt_15 : decode cX5_eventAt 15 = .ok (.iaload, 1) := by decide +kernel
theorem dX5_eventAt_16 : decode cX5_eventAt 16 = .ok (.iconst 1, 1) := by decide +kernel
theorem dX5_eventAt_17 : decode cX5_eventAt 17 = .ok (.isub, 1) := by decide +kernel
theorem dX5_eventAt_18 : decode cX5_eventAt 18 = .ok (.invokestatic 93, 3) := by decide +kernel
theorem dX5_eventAt_21 : decode cX5_eventAt 21 = .ok (.ifCond .eq 7, 3) := by decide +kernel
theorem dX5_eventAt_24 : decode cX5_eventAt 24 = .ok (.iconst 0, 1) := by decide +kernel
theorem dX5_eventAt_25 : decode cX5_eventAt 25 = .ok (.goto 4, 3) := by decide +kernel
theorem dX5_eventAt_28 : decode cX5_eventAt 28 = .ok (.iconst 1, 1) := by decide +kernel
theorem dX5_eventAt_29 : decode cX5_eventAt 29 = .ok (.invokevirtual 108, 3) := by decide +kernel
theorem dX5_eventAt_32 : decode cX5_eventAt 32 = .ok (.ifCond .eq 17, 3) := by decide +kernel
theorem dX5_eventAt_35 : decode cX5_eventAt 35 = .ok (.aload_n 0, 1) := by decide +kernel
theorem dX5_eventAt_36 : decode cX5_eventAt 36 = .ok (.getfield 20, 3) := by decide +kernel
theorem dX5_eventAt_39 : decode cX5_eventAt 39 = .ok (.bipush 60, 2) := by decide +kernel
theorem dX5_eventAt_41 : decode cX5_eventAt 41 = .ok (.iload_n 1, 1) := by decide +kernel
theorem dX5_eventAt_42 : decode cX5_eventAt 42 = .ok (.imul, 1) := by decide +kernel
theorem dX5_eventAt_43 : decode cX5_eventAt 43 = .ok (.iload_n 2, 1) := by decide +kernel
theorem dX5_eventAt_44 : decode cX5_eventAt 44 = .ok (.iadd, 1) := by decide +kernel
theorem dX5_eventAt_45 : decode cX5_eventAt 45 = .ok (.iaload, 1) := by decide +kernel
theorem dX5_eventAt_46 : decode cX5_eventAt 46 = .ok (.goto 4, 3) := by decide +kernel
theorem dX5_eventAt_49 : decode cX5_eventAt 49 = .ok (.iconst 0, 1) := by decide +kernel
theorem dX5_eventAt_50 : decode cX5_eventAt 50 = .ok (.ireturn, 1) := by decide +kernel
set_option maxRecDepth 20000 in
theorem ggX5_isChannel_X5_isPartition : GoodIn wsX5_isChannel wsX5_isPartition := goodIn_r _ [4, 5, 6, 3, 7] (by decide +kernel) (by decide +kernel)
set_option maxRecDepth 20000 in
theorem gX5_isChannel_X5_isPartition : GoodIn wsX5_isChannel (va_wsS RX5 101 yX5_isPartition wsX5_isPartition) := goodIn_app (goodIn_of _ (by decide +kernel)) ggX5_isChannel_X5_isPartition
set_option maxRecDepth 20000 in
theorem ggX5_isChannel_X5_isWorker : GoodIn wsX5_isChannel wsX5_isWorker := goodIn_r _ [11, 12, 5, 6, 3, 7, 13, 14, 15, 16, 17, 18, 19, 20, 21, 22, 23, 24, 25, 26, 27, 28, 29, 30, 31, 32, 33, 34, 35, 36, 37, 38, 39] (by decide +kernel) (by decide +kernel)
set_option maxRecDepth 20000 in
theorem gX5_isChannel_X5_isWorker : GoodIn wsX5_isChannel (wsV RX5 145 RX5 yX5_isWorker wsX5_isWorker) := goodIn_app (goodIn_of _ (by decide +kernel)) ggX5_isChannel_X5_isWorker
theorem dX5_isChannel_0 : decode cX5_isChannel 0 = .ok (.iload_n 1, 1) := by decide +kernel
theorem dX5_isChannel_1 : decode cX5_isChannel 1 = .ok (.invokestatic 101, 3) := by decide +kernel
theorem dX5_isChannel_4 : decode cX5_isChannel 4 = .ok (.ifCond .eq 15, 3) := by decide +kernel
theorem dX5_isChannel_7 : decode cX5_isChannel 7 = .ok (.aload_n 0, 1) := by decide +kernel
theorem dX5_isChannel_8 : decode cX5_isChannel 8 = .ok (.iload_n 2, 1) := by decide +kernel
theorem dX5_isChannel_9 : decode cX5_isChannel 9 = .ok (.invokevirtual 145, 3) := by decide +kernel
theorem dX5_isChannel_12 : decode cX5_isChannel 12 = .ok (.ifCond .eq 7, 3) := by decide +kernel
theorem dX5_isChannel_15 : decode cX5_isChannel 15 = .ok (.iconst 1, 1) := by decide +kernel
theorem dX5_isChannel_16 : decode cX5_isChannel 16 = .ok (.goto 4, 3) := by decide +kernel
theorem dX5_isChannel_19 : decode cX5_isChannel 19 = .ok (.iconst 0, 1) := by decide +kernel
theorem dX5_isChannel_20 : decode cX5_isChannel 20 = .ok (.ireturn, 1) := by decide +kernel
set_option maxRecDepth 20000 in
theorem ggX5_queued_X5_isChannel : GoodIn wsX5_queued wsX5_isChannel := goodIn_r _ [6, 7, 8, 5, 9, 10, 11, 12, 13, 14, 15, 16, 17, 26, 27, 28, 29, 30, 31, 32, 33, 34, 35, 36, 37, 38, 39, 40, 41, 42, 43, 44, 45, 46, 47, 48, 49, 50, 51, 52] (by decide +kernel) (by decide +kernel)
set_option maxRecDepth 20000 in
theorem gX5_queued_X5_isChannel : GoodIn wsX5_queued (wsV RX5 178 RX5 yX5_isChannel wsX5_isChannel) := goodIn_app (goodIn_of _ (by decide +kernel)) ggX5_queued_X5_isChannel
set_option maxRecDepth 20000 in
theorem ggX5_queued_X5_holds : GoodIn wsX5_queued wsX5_holds := goodIn_r _ [21, 22, 26, 27, 28, 29, 30, 31, 32, 33, 34, 35, 36, 37, 38, 39, 40, 41, 42, 43, 44, 45, 46, 47, 48, 49, 50, 51, 52] (by decide +kernel) (by decide +kernel)
set_option maxRecDepth 20000 in
theorem gX5_queued_X5_holds : GoodIn wsX5_queued (wsV RX5 108 RX5 yX5_holds wsX5_holds) := goodIn_app (goodIn_of _ (by decide +kernel)) ggX5_queued_X5_holds
set_option maxRecDepth 20000 in
theorem ggX5_queued_X5_channel : GoodIn wsX5_queued wsX5_channel := goodIn_r _ [25] (by decide +kernel) (by decide +kernel)
set_option maxRecDepth 20000 in
theorem gX5_queued_X5_channel : GoodIn wsX5_queued (va_wsS RX5 118 yX5_channel wsX5_channel) := goodIn_app (goodIn_of _ (by decide +kernel)) ggX5_queued_X5_channel
theorem dX5_queued_0 : decode cX5_queued 0 = .ok (.aload_n 0, 1) := by decide +kernel
theorem dX5_queued_1 : decode cX5_queued 1 = .ok (.aload_n 0, 1) := by decide +kernel
theorem dX5_queued_2 : decode cX5_queued 2 = .ok (.iload_n 1, 1) := by decide +kernel
theorem dX5_queued_3 : decode cX5_queued 3 = .ok (.iload_n 2, 1) := by decide +kernel
theorem dX5_queued_4 : decode cX5_queued 4 = .ok (.invokevirtual 178, 3) := by decide +kernel
theorem dX5_queued_7 : decode cX5_queued 7 = .ok (.ifCond .eq 7, 3) := by decide +kernel
theorem dX5_queued_10 : decode cX5_queued 10 = .ok (.iconst 0, 1) := by decide +kernel
theorem dX5_queued_11 : decode cX5_queued 11 = .ok (.goto 4, 3) := by decide +kernel
theorem dX5_queued_14 : decode cX5_queued 14 = .ok (.iconst 1, 1) := by decide +kernel
theorem dX5_queued_15 : decode cX5_queued 15 = .ok (.invokevirtual 108, 3) := by decide +kernel
theorem dX5_queued_18 : decode cX5_queued 18 = .ok (.ifCond .eq 16, 3) := by decide +kernel
theorem dX5_queued_21 : decode cX5_queued 21 = .ok (.aload_n 0, 1) := by decide +kernel
theorem dX5_queued_22 : decode cX5_queued 22 = .ok (.getfield 26, 3) := by decide +kernel
theorem dX5_queued_25 : decode cX5_queued 25 = .ok (.iload_n 1, 1) := by decide +kernel
theorem dX5_queued_26 : decode cX5_queued 26 = .ok (.iload_n 2, 1) := by decide +kernel
theorem dX5_queued_27 : decode cX5_queued 27 = .ok (.invokestatic 118, 3) := by decide +kernel
theorem dX5_queued_30 : decode cX5_queued 30 = .ok (.iaload, 1) := by decide +kernel
theorem dX5_queued_31 : decode cX5_queued 31 = .ok (.goto 4, 3) := by decide +kernel
theorem dX5_queued_34 : decode cX5_queued 34 = .ok (.iconst 0, 1) := by decide +kernel
theorem dX5_queued_35 : decode cX5_queued 35 = .ok (.ireturn, 1) := by decide +kernel
set_option maxRecDepth 20000 in
theorem ggX5_itemAt_X5_isChannel : GoodIn wsX5_itemAt wsX5_isChannel := goodIn_r _ [7, 8, 9, 6, 10, 11, 12, 13, 14, 15, 16, 17, 18, 27, 28, 29, 30, 31, 32, 33, 34, 35, 36, 37, 38, 39, 40, 41, 42, 43, 44, 45, 46, 47, 48, 49, 50, 51, 52, 53] (by decide +kernel) (by decide +kernel)
set_option maxRecDepth 20000 in
theorem gX5_itemAt_X5_isChannel : GoodIn wsX5_itemAt (wsV RX5 178 RX5 yX5_isChannel wsX5_isChannel) := goodIn_app (goodIn_of _ (by decide +kernel)) ggX5_itemAt_X5_isChannel
set_option maxRecDepth 20000 in
theorem ggX5_itemAt_X5_channel : GoodIn wsX5_itemAt wsX5_channel := goodIn_r _ [21] (by decide +kernel) (by decide +kernel)
set_option maxRecDepth 20000 in
theorem gX5_itemAt_X5_channel : GoodIn wsX5_itemAt (va_wsS RX5 118 yX5_channel wsX5_channel) := goodIn_app (goodIn_of _ (by decide +kernel)) ggX5_itemAt_X5_channel
set_option maxRecDepth 20000 in
theorem ggX5_itemAt_X5_in : GoodIn wsX5_itemAt wsX5_in := goodIn_r _ [13] (by decide +kernel) (by decide +kernel)
set_option maxRecDepth 20000 in
theorem gX5_itemAt_X5_in : GoodIn wsX5_itemAt (va_wsS RX5 93 yX5_in wsX5_in) := goodIn_app (goodIn_of _ (by decide +kernel)) ggX5_itemAt_X5_in
set_option maxRecDepth 20000 in
theorem ggX5_itemAt_X5_holds : GoodIn wsX5_itemAt wsX5_holds := goodIn_r _ [25, 26, 27, 28, 29, 30, 31, 32, 33, 34, 35, 36, 37, 38, 39, 40, 41, 42, 43, 44, 45, 46, 47, 48, 49, 50, 51, 52, 53] (by decide +kernel) (by decide +kernel)
set_option maxRecDepth 20000 in
theorem gX5_itemAt_X5_holds : GoodIn wsX5_itemAt (wsV RX5 108 RX5 yX5_holds wsX5_holds) := goodIn_app (goodIn_of _ (by decide +kernel)) ggX5_itemAt_X5_holds
theorem dX5_itemAt_0 : decode cX5_itemAt 0 = .ok (.aload_n 0, 1) := by decide +kernel
theorem dX5_itemAt_1 : decode cX5_itemAt 1 = .ok (.iload_n 1, 1) := by decide +kernel
theorem dX5_itemAt_2 : decode cX5_itemAt 2 = .ok (.iload_n 2, 1) := by decide +kernel
theorem dX5_itemAt_3 : decode cX5_itemAt 3 = .ok (.invokevirtual 178, 3) := by decide +kernel
theorem dX5_itemAt_6 : decode cX5_itemAt 6 = .ok (.ifCond .eq 27, 3) := by decide +kernel
theorem dX5_itemAt_9 : decode cX5_itemAt 9 = .ok (.iload_n 3, 1) := by decide +kernel
theorem dX5_itemAt_10 : decode cX5_itemAt 10 = .ok (.iconst 0, 1) := by decide +kernel
theorem dX5_itemAt_11 : decode cX5_itemAt 11 = .ok (.aload_n 0, 1) := by decide +kernel
theorem dX5_itemAt_12 : decode cX5_itemAt 12 = .ok (.getfield 26, 3) := by decide +kernel
theorem dX5_itemAt_15 : decode cX5_itemAt 15 = .ok (.iload_n 1, 1) := by decide +kernel
theorem dX5_itemAt_16 : decode cX5_itemAt 16 = .ok (.iload_n 2, 1) := by decide +kernel
theorem dX5_itemAt_17 : decode cX5_itemAt 17 = .ok (.invokestatic 118, 3) := by decide +kernel
theorem dX5_itemAt_20 : decode cX5_itemAt 20 = .ok (.iaload, 1) := by decide +kernel
theorem dX5_itemAt_21 : decode cX5_itemAt 21 = .ok (.iconst 1, 1) := by decide +kernel
theorem dX5_itemAt_22 : decode cX5_itemAt 22 = .ok (.isub, 1) := by decide +kernel
theorem dX5_itemAt_23 : decode cX5_itemAt 23 = .ok (.invokestatic 93, 3) := by decide +kernel
theorem dX5_itemAt_26 : decode cX5_itemAt 26 = .ok (.ifCond .eq 7, 3) := by decide +kernel
theorem dX5_itemAt_29 : decode cX5_itemAt 29 = .ok (.iconst 1, 1) := by decide +kernel
theorem dX5_itemAt_30 : decode cX5_itemAt 30 = .ok (.goto 4, 3) := by decide +kernel
theorem dX5_itemAt_33 : decode cX5_itemAt 33 = .ok (.iconst 0, 1) := by decide +kernel
theorem dX5_itemAt_34 : decode cX5_itemAt 34 = .ok (.istore 4, 2) := by decide +kernel
theorem dX5_itemAt_36 : decode cX5_itemAt 36 = .ok (.aload_n 0, 1) := by decide +kernel
theorem dX5_itemAt_37 : decode cX5_itemAt 37 = .ok (.iload 4, 2) := by decide +kernel
theorem dX5_itemAt_39 : decode cX5_itemAt 39 = .ok (.ifCond .eq 7, 3) := by decide +kernel
theorem dX5_itemAt_42 : decode cX5_itemAt 42 = .ok (.iconst 0, 1) := by decide +kernel
theorem dX5_itemAt_43 : decode cX5_itemAt 43 = .ok (.goto 4, 3) := by decide +kernel
theorem dX5_itemAt_46 : decode cX5_itemAt 46 = .ok (.iconst 1, 1) := by decide +kernel
theorem dX5_itemAt_47 : decode cX5_itemAt 47 = .ok (.invokevirtual 108, 3) := by decide +kernel
theorem dX5_itemAt_50 : decode cX5_itemAt 50 = .ok (.ifCond .eq 21, 3) := by decide +kernel
theorem dX5_itemAt_53 : decode cX5_itemAt 53 = .ok (.aload_n 0, 1) := by decide +kernel
theorem dX5_itemAt_54 : decode cX5_itemAt 54 = .ok (.getfield 23, 3) := by decide +kernel
theorem dX5_itemAt_57 : decode cX5_itemAt 57 = .ok (.bipush 8, 2) := by decide +kernel
theorem dX5_itemAt_59 : decode cX5_itemAt 59 = .ok (.iload_n 1, 1) := by decide +kernel
theorem dX5_itemAt_60 : decode cX5_itemAt 60 = .ok (.iload_n 2, 1) := by decide +kernel
theorem dX5_itemAt_61 : decode cX5_itemAt 61 = .ok (.invokestatic 118, 3) := by decide +kernel
theorem dX5_itemAt_64 : decode cX5_itemAt 64 = .ok (.imul, 1) := by decide +kernel
theorem dX5_itemAt_65 : decode cX5_itemAt 65 = .ok (.iload_n 3, 1) := by decide +kernel
theorem dX5_itemAt_66 : decode cX5_itemAt 66 = .ok (.iadd, 1) := by decide +kernel
theorem dX5_itemAt_67 : decode cX5_itemAt 67 = .ok (.iaload, 1) := by decide +kernel
theorem dX5_itemAt_68 : decode cX5_itemAt 68 = .ok (.goto 4, 3) := by decide +kernel
theorem dX5_itemAt_71 : decode cX5_itemAt 71 = .ok (.iconst 0, 1) := by decide +kernel
theorem dX5_itemAt_72 : decode cX5_itemAt 72 = .ok (.ireturn, 1) := by decide +kernel
set_option maxRecDepth 20000 in
theorem ggX5_isBlocked_X5_isChannel : GoodIn wsX5_isBlocked wsX5_isChannel := goodIn_r _ [6, 7, 8, 5, 9, 10, 11, 12, 13, 14, 15, 16, 17, 26, 27, 28, 29, 30, 31, 32, 33, 34, 35, 36, 37, 38, 39, 40, 41, 42, 43, 44, 45, 46, 47, 48, 49, 50, 51, 52] (by decide +kernel) (by decide +kernel)
set_option maxRecDepth 20000 in
theorem gX5_isBlocked_X5_isChannel : GoodIn wsX5_isBlocked (wsV RX5 178 RX5 yX5_isChannel wsX5_isChannel) := goodIn_app (goodIn_of _ (by decide +kernel)) ggX5_isBlocked_X5_isChannel
set_option maxRecDepth 20000 in
theorem ggX5_isBlocked_X5_holds : GoodIn wsX5_isBlocked wsX5_holds := goodIn_r _ [21, 22, 26, 27, 28, 29, 30, 31, 32, 33, 34, 35, 36, 37, 38, 39, 40, 41, 42, 43, 44, 45, 46, 47, 48, 49, 50, 51, 52] (by decide +kernel) (by decide +kernel)
set_option maxRecDepth 20000 in
theorem gX5_isBlocked_X5_holds : GoodIn wsX5_isBlocked (wsV RX5 108 RX5 yX5_holds wsX5_holds) := goodIn_app (goodIn_of _ (by decide +kernel)) ggX5_isBlocked_X5_holds
set_option maxRecDepth 20000 in
theorem ggX5_isBlocked_X5_channel : GoodIn wsX5_isBlocked wsX5_channel := goodIn_r _ [25] (by decide +kernel) (by decide +kernel)
set_option maxRecDepth 20000 in
theorem gX5_isBlocked_X5_channel : GoodIn wsX5_isBlocked (va_wsS RX5 118 yX5_channel wsX5_channel) := goodIn_app (goodIn_of _ (by decide +kernel)) ggX5_isBlocked_X5_channel
theorem dX5_isBlocked_0 : decode cX5_isBlocked 0 = .ok (.aload_n 0, 1) := by decide +kernel
theorem dX5_isBlocked_1 : decode cX5_isBlocked 1 = .ok (.aload_n 0, 1) := by decide +kernel
theorem dX5_isBlocked_2 : decode cX5_isBlocked 2 = .ok (.iload_n 1, 1) := by decide +kernel
theorem dX5_isBlocked_3 : decode cX5_isBlocked 3 = .ok (.iload_n 2, 1) := by decide +kernel
theorem dX5_isBlocked_4 : decode cX5_isBlocked 4 = .ok (.invokevirtual 178, 3) := by decide +kernel
theorem dX5_isBlocked_7 : decode cX5_isBlocked 7 = .ok (.ifCond .eq 7, 3) := by decide +kernel
theorem dX5_isBlocked_10 : decode cX5_isBlocked 10 = .ok (.iconst 0, 1) := by decide +kernel
theorem dX5_isBlocked_11 : decode cX5_isBlocked 11 = .ok (.goto 4, 3) := by decide +kernel
theorem dX5_isBlocked_14 : decode cX5_isBlocked 14 = .ok (.iconst 1, 1) := by decide +kernel
theorem dX5_isBlocked_15 : decode cX5_isBlocked 15 = .ok (.invokevirtual 108, 3) := by decide +kernel
theorem dX5_isBlocked_18 : decode cX5_isBlocked 18 = .ok (.ifCond .eq 20, 3) := by decide +kernel
theorem dX5_isBlocked_21 : decode cX5_isBlocked 21 = .ok (.aload_n 0, 1) := by decide +kernel
theorem dX5_isBlocked_22 : decode cX5_isBlocked 22 = .ok (.getfield 29, 3) := by decide +kernel
theorem dX5_isBlocked_25 : decode cX5_isBlocked 25 = .ok (.iload_n 1, 1) := by decide +kernel
theorem dX5_isBlocked_26 : decode cX5_isBlocked 26 = .ok (.iload_n 2, 1) := by decide +kernel
theorem dX5_isBlocked_27 : decode cX5_isBlocked 27 = .ok (.invokestatic 118, 3) := by decide +kernel
theorem dX5_isBlocked_30 : decode cX5_isBlocked 30 = .ok (.baload, 1) := by decide +kernel
theorem dX5_isBlocked_31 : decode cX5_isBlocked 31 = .ok (.ifCond .eq 7, 3) := by decide +kernel
theorem dX5_isBlocked_34 : decode cX5_isBlocked 34 = .ok (.iconst 1, 1) := by decide +kernel
theorem dX5_isBlocked_35 : decode cX5_isBlocked 35 = .ok (.goto 4, 3) := by decide +kernel
theorem dX5_isBlocked_38 : decode cX5_isBlocked 38 = .ok (.iconst 0, 1) := by decide +kernel
theorem dX5_isBlocked_39 : decode cX5_isBlocked 39 = .ok (.ireturn, 1) := by decide +kernel
theorem dX5_workers_0 : decode cX5_workers 0 = .ok (.aload_n 0, 1) := by decide +kernel
theorem dX5_workers_1 : decode cX5_workers 1 = .ok (.iconst 0, 1) := by decide +kernel
theorem dX5_workers_2 : decode cX5_workers 2 = .ok (.putfield 90, 3) := by decide +kernel
theorem dX5_workers_5 : decode cX5_workers 5 = .ok (.aload_n 0, 1) := by decide +kernel
theorem dX5_workers_6 : decode cX5_workers 6 = .ok (.getfield 7, 3) := by decide +kernel
theorem dX5_workers_9 : decode cX5_workers 9 = .ok (.ireturn, 1) := by decide +kernel
set_option maxRecDepth 20000 in
theorem ggX5_workerOf_X5_isKey : GoodIn wsX5_workerOf wsX5_isKey := goodIn_r _ [4, 5, 6, 3, 7] (by decide +kernel) (by decide +kernel)
set_option maxRecDepth 20000 in
theorem gX5_workerOf_X5_isKey : GoodIn wsX5_workerOf (va_wsS RX5 105 yX5_isKey wsX5_isKey) := goodIn_app (goodIn_of _ (by decide +kernel)) ggX5_workerOf_X5_isKey
set_option maxRecDepth 20000 in
theorem ggX5_workerOf_X5_holds : GoodIn wsX5_workerOf wsX5_holds := goodIn_r _ [11, 12, 21, 22, 23, 24, 25, 26, 27, 28, 29, 30, 31, 32, 33, 34, 35, 36, 37, 38, 39, 40, 41, 42, 43, 44, 45, 46, 47] (by decide +kernel) (by decide +kernel)
set_option maxRecDepth 20000 in
theorem gX5_workerOf_X5_holds : GoodIn wsX5_workerOf (wsV RX5 108 RX5 yX5_holds wsX5_holds) := goodIn_app (goodIn_of _ (by decide +kernel)) ggX5_workerOf_X5_holds
set_option maxRecDepth 20000 in
theorem ggX5_workerOf_X5_workerOfKey : GoodIn wsX5_workerOf wsX5_workerOfKey := goodIn_r _ [16, 17, 18, 19, 3, 20, 21, 22, 23, 24, 25, 26, 27, 28, 29, 30, 31, 32, 33, 34, 35, 36, 37, 38, 39, 40, 41, 42, 43, 44, 45, 46, 47] (by decide +kernel) (by decide +kernel)
set_option maxRecDepth 20000 in
theorem gX5_workerOf_X5_workerOfKey : GoodIn wsX5_workerOf (wsV RX5 115 RX5 yX5_workerOfKey wsX5_workerOfKey) := goodIn_app (goodIn_of _ (by decide +kernel)) ggX5_workerOf_X5_workerOfKey
theorem dX5_workerOf_0 : decode cX5_workerOf 0 = .ok (.aload_n 0, 1) := by decide +kernel
theorem dX5_workerOf_1 : decode cX5_workerOf 1 = .ok (.iload_n 1, 1) := by decide +kernel
theorem dX5_workerOf_2 : decode cX5_workerOf 2 = .ok (.invokestatic 105, 3) := by decide +kernel
theorem dX5_workerOf_5 : decode cX5_workerOf 5 = .ok (.ifCond .eq 7, 3) := by decide +kernel
theorem dX5_workerOf_8 : decode cX5_workerOf 8 = .ok (.iconst 0, 1) := by decide +kernel
theorem dX5_workerOf_9 : decode cX5_workerOf 9 = .ok (.goto 4, 3) := by decide +kernel
theorem dX5_workerOf_12 : decode cX5_workerOf 12 = .ok (.iconst 1, 1) := by decide +kernel
theorem dX5_workerOf_13 : decode cX5_workerOf 13 = .ok (.invokevirtual 108, 3) := by decide +kernel
theorem dX5_workerOf_16 : decode cX5_workerOf 16 = .ok (.ifCond .eq 11, 3) := by decide +kernel
theorem dX5_workerOf_19 : decode cX5_workerOf 19 = .ok (.aload_n 0, 1) := by decide +kernel
theorem dX5_workerOf_20 : decode cX5_workerOf 20 = .ok (.iload_n 1, 1) := by decide +kernel
theorem dX5_workerOf_21 : decode cX5_workerOf 21 = .ok (.invokevirtual 115, 3) := by decide +kernel
theorem dX5_workerOf_24 : decode cX5_workerOf 24 = .ok (.goto 4, 3) := by decide +kernel
theorem dX5_workerOf_27 : decode cX5_workerOf 27 = .ok (.iconst 0, 1) := by decide +kernel
theorem dX5_workerOf_28 : decode cX5_workerOf 28 = .ok (.ireturn, 1) := by decide +kernel
set_option maxRecDepth 20000 in
theorem ggX5_groupsOf_X5_isWorker : GoodIn wsX5_groupsOf wsX5_isWorker := goodIn_r _ [6, 1, 7, 8, 5, 9, 18, 19, 20, 21, 22, 23, 24, 25, 26, 27, 28, 29, 30, 31, 32, 33, 34, 35, 36, 37, 38, 39, 40, 41, 42, 43, 44] (by decide +kernel) (by decide +kernel)
set_option maxRecDepth 20000 in
theorem gX5_groupsOf_X5_isWorker : GoodIn wsX5_groupsOf (wsV RX5 145 RX5 yX5_isWorker wsX5_isWorker) := goodIn_app (goodIn_of _ (by decide +kernel)) ggX5_groupsOf_X5_isWorker
set_option maxRecDepth 20000 in
theorem ggX5_groupsOf_X5_holds : GoodIn wsX5_groupsOf wsX5_holds := goodIn_r _ [13, 14, 18, 19, 20, 21, 22, 23, 24, 25, 26, 27, 28, 29, 30, 31, 32, 33, 34, 35, 36, 37, 38, 39, 40, 41, 42, 43, 44] (by decide +kernel) (by decide +kernel)
set_option maxRecDepth 20000 in
theorem gX5_groupsOf_X5_holds : GoodIn wsX5_groupsOf (wsV RX5 108 RX5 yX5_holds wsX5_holds) := goodIn_app (goodIn_of _ (by decide +kernel)) ggX5_groupsOf_X5_holds
set_option maxRecDepth 20000 in
theorem ggX5_groupsOf_X5_workerOfGroup : GoodIn wsX5_groupsOf wsX5_workerOfGroup := goodIn_r _ [17] (by decide +kernel) (by decide +kernel)
set_option maxRecDepth 20000 in
theorem gX5_groupsOf_X5_workerOfGroup : GoodIn wsX5_groupsOf (va_wsS RX5 97 yX5_workerOfGroup wsX5_workerOfGroup) := goodIn_app (goodIn_of _ (by decide +kernel)) ggX5_groupsOf_X5_workerOfGroup
theorem dX5_groupsOf_0 : decode cX5_groupsOf 0 = .ok (.aload_n 0, 1) := by decide +kernel
theorem dX5_groupsOf_1 : decode cX5_groupsOf 1 = .ok (.aload_n 0, 1) := by decide +kernel
theorem dX5_groupsOf_2 : decode cX5_groupsOf 2 = .ok (.iload_n 1, 1) := by decide +kernel
theorem dX5_groupsOf_3 : decode cX5_groupsOf 3 = .ok (.invokevirtual 145, 3) := by decide +kernel
theorem dX5_groupsOf_6 : decode cX5_groupsOf 6 = .ok (.ifCond .eq 7, 3) := by decide +kernel
theorem dX5_groupsOf_9 : decode cX5_groupsOf 9 = .ok (.iconst 0, 1) := by decide +kernel
theorem dX5_groupsOf_10 : decode cX5_groupsOf 10 = .ok (.goto 4, 3) := by decide +kernel
theorem dX5_groupsOf_13 : decode cX5_groupsOf 13 = .ok (.iconst 1, 1) := by decide +kernel
theorem dX5_groupsOf_14 : decode cX5_groupsOf 14 = .ok (.invokevirtual 108, 3) := by decide +kernel
theorem dX5_groupsOf_17 : decode cX5_groupsOf 17 = .ok (.ifCond .ne 5, 3) := by decide +kernel
theorem dX5_groupsOf_20 : decode cX5_groupsOf 20 = .ok (.iconst 0, 1) := by decide +kernel
theorem dX5_groupsOf_21 : decode cX5_groupsOf 21 = .ok (.ireturn, 1) := by decide +kernel
theorem dX5_groupsOf_22 : decode cX5_groupsOf 22 = .ok (.iconst 0, 1) := by decide +kernel
theorem dX5_groupsOf_23 : decode cX5_groupsOf 23 = .ok (.istore_n 2, 1) := by decide +kernel
theorem dX5_groupsOf_24 : decode cX5_groupsOf 24 = .ok (.bipush 7, 2) := by decide +kernel
theorem dX5_groupsOf_26 : decode cX5_groupsOf 26 = .ok (.istore_n 3, 1) := by decide +kernel
theorem dX5_groupsOf_27 : decode cX5_groupsOf 27 = .ok (.iload_n 3, 1) := by decide +kernel
theorem dX5_groupsOf_28 : decode cX5_groupsOf 28 = .ok (.ifCond .lt 37, 3) := by decide +kernel
theorem dX5_groupsOf_31 : decode cX5_groupsOf 31 = .ok (.iload_n 3, 1) := by decide +kernel
theorem dX5_groupsOf_32 : decode cX5_groupsOf 32 = .ok (.aload_n 0, 1) := by decide +kernel
theorem dX5_groupsOf_33 : decode cX5_groupsOf 33 = .ok (.getfield 7, 3) := by decide +kernel
theorem dX5_groupsOf_36 : decode cX5_groupsOf 36 = .ok (.invokestatic 97, 3) := by decide +kernel
theorem dX5_groupsOf_39 : decode cX5_groupsOf 39 = .ok (.iload_n 1, 1) := by decide +kernel
theorem dX5_groupsOf_40 : decode cX5_groupsOf 40 = .ok (.if_icmp .ne 17, 3) := by decide +kernel
theorem dX5_groupsOf_43 : decode cX5_groupsOf 43 = .ok (.bipush 10, 2) := by decide +kernel
theorem dX5_groupsOf_45 : decode cX5_groupsOf 45 = .ok (.iload_n 3, 1) := by decide +kernel
theorem dX5_groupsOf_46 : decode cX5_groupsOf 46 = .ok (.imul, 1) := by decide +kernel
theorem dX5_groupsOf_47 : decode cX5_groupsOf 47 = .ok (.iload_n 2, 1) := by decide +kernel
theorem dX5_groupsOf_48 : decode cX5_groupsOf 48 = .ok (.bipush 10, 2) := by decide +kernel
theorem dX5_groupsOf_50 : decode cX5_groupsOf 50 = .ok (.irem, 1) := by decide +kernel
theorem dX5_groupsOf_51 : decode cX5_groupsOf 51 = .ok (.iadd, 1) := by decide +kernel
theorem dX5_groupsOf_52 : decode cX5_groupsOf 52 = .ok (.iconst 1, 1) := by decide +kernel
theorem dX5_groupsOf_53 : decode cX5_groupsOf 53 = .ok (.iadd, 1) := by decide +kernel
theorem dX5_groupsOf_54 : decode cX5_groupsOf 54 = .ok (.goto 4, 3) := by decide +kernel
theorem dX5_groupsOf_57 : decode cX5_groupsOf 57 = .ok (.iload_n 2, 1) := by decide +kernel
theorem dX5_groupsOf_58 : decode cX5_groupsOf 58 = .ok (.istore_n 2, 1) := by decide +kernel
theorem dX5_groupsOf_59 : decode cX5_groupsOf 59 = .ok (.iinc 3 (-1), 3) := by decide +kernel
theorem dX5_groupsOf_62 : decode cX5_groupsOf 62 = .ok (.goto (-35), 3) := by decide +kernel
theorem dX5_groupsOf_65 : decode cX5_groupsOf 65 = .ok (.iload_n 2, 1) := by decide +kernel
theorem dX5_groupsOf_66 : decode cX5_groupsOf 66 = .ok (.ireturn, 1) := by decide +kernel
set_option maxRecDepth 20000 in
theorem ggX5_ofKey_X5_isKey : GoodIn wsX5_ofKey wsX5_isKey := goodIn_r _ [4, 5, 6, 3, 7] (by decide +kernel) (by decide +kernel)
set_option maxRecDepth 20000 in
theorem gX5_ofKey_X5_isKey : GoodIn wsX5_ofKey (va_wsS RX5 105 yX5_isKey wsX5_isKey) := goodIn_app (goodIn_of _ (by decide +kernel)) ggX5_ofKey_X5_isKey
set_option maxRecDepth 20000 in
theorem ggX5_ofKey_X5_holds : GoodIn wsX5_ofKey wsX5_holds := goodIn_r _ [11, 12, 13, 14, 15, 16, 17, 18, 19, 20, 21, 22, 23, 24, 25, 26, 27, 28, 29, 30, 31, 32, 33, 34, 35, 36, 37, 38, 39] (by decide +kernel) (by decide +kernel)
set_option maxRecDepth 20000 in
theorem gX5_ofKey_X5_holds : GoodIn wsX5_ofKey (wsV RX5 108 RX5 yX5_holds wsX5_holds) := goodIn_app (goodIn_of _ (by decide +kernel)) ggX5_ofKey_X5_holds
theorem dX5_ofKey_0 : decode cX5_ofKey 0 = .ok (.aload_n 0, 1) := by decide +kernel
theorem dX5_ofKey_1 : decode cX5_ofKey 1 = .ok (.iload_n 2, 1) := by decide +kernel
theorem dX5_ofKey_2 : decode cX5_ofKey 2 = .ok (.invokestatic 105, 3) := by decide +kernel
theorem dX5_ofKey_5 : decode cX5_ofKey 5 = .ok (.ifCond .eq 7, 3) := by decide +kernel
theorem dX5_ofKey_8 : decode cX5_ofKey 8 = .ok (.iconst 0, 1) := by decide +kernel
theorem dX5_ofKey_9 : decode cX5_ofKey 9 = .ok (.goto 4, 3) := by decide +kernel
theorem dX5_ofKey_12 : decode cX5_ofKey 12 = .ok (.iconst 1, 1) := by decide +kernel
theorem dX5_ofKey_13 : decode cX5_ofKey 13 = .ok (.invokevirtual 108, 3) := by decide +kernel
theorem dX5_ofKey_16 : decode cX5_ofKey 16 = .ok (.ifCond .eq 9, 3) := by decide +kernel
theorem dX5_ofKey_19 : decode cX5_ofKey 19 = .ok (.aload_n 1, 1) := by decide +kernel
theorem dX5_ofKey_20 : decode cX5_ofKey 20 = .ok (.iload_n 2, 1) := by decide +kernel
theorem dX5_ofKey_21 : decode cX5_ofKey 21 = .ok (.iaload, 1) := by decide +kernel
theorem dX5_ofKey_22 : decode cX5_ofKey 22 = .ok (.goto 4, 3) := by decide +kernel
theorem dX5_ofKey_25 : decode cX5_ofKey 25 = .ok (.iconst 0, 1) := by decide +kernel
theorem dX5_ofKey_26 : decode cX5_ofKey 26 = .ok (.ireturn, 1) := by decide +kernel
set_option maxRecDepth 20000 in
theorem ggX5_count_X5_ofKey : GoodIn wsX5_count wsX5_ofKey := goodIn_r _ [6, 7, 8, 5, 9, 10, 11, 12, 13, 14, 15, 16, 17, 18, 19, 20, 21, 22, 23, 24, 25, 26, 27, 28, 29, 30, 31, 32, 33, 34, 35, 36, 37, 38, 39, 40, 41, 42, 43, 44] (by decide +kernel) (by decide +kernel)
set_option maxRecDepth 20000 in
theorem gX5_count_X5_ofKey : GoodIn wsX5_count (wsV RX5 181 RX5 yX5_ofKey wsX5_ofKey) := goodIn_app (goodIn_of _ (by decide +kernel)) ggX5_count_X5_ofKey
theorem dX5_count_0 : decode cX5_count 0 = .ok (.aload_n 0, 1) := by decide +kernel
theorem dX5_count_1 : decode cX5_count 1 = .ok (.aload_n 0, 1) := by decide +kernel
theorem dX5_count_2 : decode cX5_count 2 = .ok (.getfield 33, 3) := by decide +kernel
theorem dX5_count_5 : decode cX5_count 5 = .ok (.iload_n 1, 1) := by decide +kernel
theorem dX5_count_6 : decode cX5_count 6 = .ok (.invokevirtual 181, 3) := by decide +kernel
theorem dX5_count_9 : decode cX5_count 9 = .ok (.ireturn, 1) := by decide +kernel
set_option maxRecDepth 20000 in
theorem ggX5_sum_X5_ofKey : GoodIn wsX5_sum wsX5_ofKey := goodIn_r _ [6, 7, 8, 5, 9, 10, 11, 12, 13, 14, 15, 16, 17, 18, 19, 20, 21, 22, 23, 24, 25, 26, 27, 28, 29, 30, 31, 32, 33, 34, 35, 36, 37, 38, 39, 40, 41, 42, 43, 44] (by decide +kernel) (by decide +kernel)
set_option maxRecDepth 20000 in
theorem gX5_sum_X5_ofKey : GoodIn wsX5_sum (wsV RX5 181 RX5 yX5_ofKey wsX5_ofKey) := goodIn_app (goodIn_of _ (by decide +kernel)) ggX5_sum_X5_ofKey
theorem dX5_sum_0 : decode cX5_sum 0 = .ok (.aload_n 0, 1) := by decide +kernel
theorem dX5_sum_1 : decode cX5_sum 1 = .ok (.aload_n 0, 1) := by decide +kernel
theorem dX5_sum_2 : decode cX5_sum 2 = .ok (.getfield 36, 3) := by decide +kernel
theorem dX5_sum_5 : decode cX5_sum 5 = .ok (.iload_n 1, 1) := by decide +kernel
theorem dX5_sum_6 : decode cX5_sum 6 = .ok (.invokevirtual 181, 3) := by decide +kernel
theorem dX5_sum_9 : decode cX5_sum 9 = .ok (.ireturn, 1) := by decide +kernel
set_option maxRecDepth 20000 in
theorem ggX5_open_X5_isWorker : GoodIn wsX5_open wsX5_isWorker := goodIn_r _ [6, 7, 8, 9, 5, 10, 23, 24, 25, 26, 27, 28, 29, 30, 31, 32, 33, 34, 35, 36, 37, 38, 39, 40, 41, 42, 43, 44, 45, 46, 47, 48, 49] (by decide +kernel) (by decide +kernel)
set_option maxRecDepth 20000 in
theorem gX5_open_X5_isWorker : GoodIn wsX5_open (wsV RX5 145 RX5 yX5_isWorker wsX5_isWorker) := goodIn_app (goodIn_of _ (by decide +kernel)) ggX5_open_X5_isWorker
set_option maxRecDepth 20000 in
theorem ggX5_open_X5_holds : GoodIn wsX5_open wsX5_holds := goodIn_r _ [14, 15, 23, 24, 25, 26, 27, 28, 29, 30, 31, 32, 33, 34, 35, 36, 37, 38, 39, 40, 41, 42, 43, 44, 45, 46, 47, 48, 49] (by decide +kernel) (by decide +kernel)
set_option maxRecDepth 20000 in
theorem gX5_open_X5_holds : GoodIn wsX5_open (wsV RX5 108 RX5 yX5_holds wsX5_holds) := goodIn_app (goodIn_of _ (by decide +kernel)) ggX5_open_X5_holds
set_option maxRecDepth 20000 in
theorem ggX5_open_X5_workerOfKey : GoodIn wsX5_open wsX5_workerOfKey := goodIn_r _ [19, 7, 20, 21, 5, 22, 23, 24, 25, 26, 27, 28, 29, 30, 31, 32, 33, 34, 35, 36, 37, 38, 39, 40, 41, 42, 43, 44, 45, 46, 47, 48, 49] (by decide +kernel) (by decide +kernel)
set_option maxRecDepth 20000 in
theorem gX5_open_X5_workerOfKey : GoodIn wsX5_open (wsV RX5 115 RX5 yX5_workerOfKey wsX5_workerOfKey) := goodIn_app (goodIn_of _ (by decide +kernel)) ggX5_open_X5_workerOfKey
theorem dX5_open_0 : decode cX5_open 0 = .ok (.aload_n 0, 1) := by decide +kernel
theorem dX5_open_1 : decode cX5_open 1 = .ok (.aload_n 0, 1) := by decide +kernel
theorem dX5_open_2 : decode cX5_open 2 = .ok (.iload_n 1, 1) := by decide +kernel
theorem dX5_open_3 : decode cX5_open 3 = .ok (.invokevirtual 145, 3) := by decide +kernel
theorem dX5_open_6 : decode cX5_open 6 = .ok (.ifCond .eq 7, 3) := by decide +kernel
theorem dX5_open_9 : decode cX5_open 9 = .ok (.iconst 0, 1) := by decide +kernel
theorem dX5_open_10 : decode cX5_open 10 = .ok (.goto 4, 3) := by decide +kernel
theorem dX5_open_13 : decode cX5_open 13 = .ok (.iconst 1, 1) := by decide +kernel
theorem dX5_open_14 : decode cX5_open 14 = .ok (.invokevirtual 108, 3) := by decide +kernel
theorem dX5_open_17 : decode cX5_open 17 = .ok (.ifCond .ne 5, 3) := by decide +kernel
theorem dX5_open_20 : decode cX5_open 20 = .ok (.iconst 0, 1) := by decide +kernel
theorem dX5_open_21 : decode cX5_open 21 = .ok (.ireturn, 1) := by decide +kernel
theorem dX5_open_22 : decode cX5_open 22 = .ok (.iconst 0, 1) := by decide +kernel
theorem dX5_open_23 : decode cX5_open 23 = .ok (.istore_n 2, 1) := by decide +kernel
theorem dX5_open_24 : decode cX5_open 24 = .ok (.iconst 0, 1) := by decide +kernel
theorem dX5_open_25 : decode cX5_open 25 = .ok (.istore_n 3, 1) := by decide +kernel
theorem dX5_open_26 : decode cX5_open 26 = .ok (.iload_n 3, 1) := by decide +kernel
theorem dX5_open_27 : decode cX5_open 27 = .ok (.bipush 32, 2) := by decide +kernel
theorem dX5_open_29 : decode cX5_open 29 = .ok (.if_icmp .ge 31, 3) := by decide +kernel
theorem dX5_open_32 : decode cX5_open 32 = .ok (.iload_n 2, 1) := by decide +kernel
theorem dX5_open_33 : decode cX5_open 33 = .ok (.aload_n 0, 1) := by decide +kernel
theorem dX5_open_34 : decode cX5_open 34 = .ok (.iload_n 3, 1) := by decide +kernel
theorem dX5_open_35 : decode cX5_open 35 = .ok (.invokevirtual 115, 3) := by decide +kernel
theorem dX5_open_38 : decode cX5_open 38 = .ok (.iload_n 1, 1) := by decide +kernel
theorem dX5_open_39 : decode cX5_open 39 = .ok (.if_icmp .ne 12, 3) := by decide +kernel
theorem dX5_open_42 : decode cX5_open 42 = .ok (.aload_n 0, 1) := by decide +kernel
theorem dX5_open_43 : decode cX5_open 43 = .ok (.getfield 39, 3) := by decide +kernel
theorem dX5_open_46 : decode cX5_open 46 = .ok (.iload_n 3, 1) := by decide +kernel
theorem dX5_open_47 : decode cX5_open 47 = .ok (.iaload, 1) := by decide +kernel
theorem dX5_open_48 : decode cX5_open 48 = .ok (.goto 4, 3) := by decide +kernel
theorem dX5_open_51 : decode cX5_open 51 = .ok (.iconst 0, 1) := by decide +kernel
theorem dX5_open_52 : decode cX5_open 52 = .ok (.iadd, 1) := by decide +kernel
theorem dX5_open_53 : decode cX5_open 53 = .ok (.istore_n 2, 1) := by decide +kernel
theorem dX5_open_54 : decode cX5_open 54 = .ok (.iinc 3 1, 3) := by decide +kernel
theorem dX5_open_57 : decode cX5_open 57 = .ok (.goto (-31), 3) := by decide +kernel
theorem dX5_open_60 : decode cX5_open 60 = .ok (.iload_n 2, 1) := by decide +kernel
theorem dX5_open_61 : decode cX5_open 61 = .ok (.ireturn, 1) := by decide +kernel
set_option maxRecDepth 20000 in
theorem ggX5_sealed_X5_isWorker : GoodIn wsX5_sealed wsX5_isWorker := goodIn_r _ [6, 7, 8, 9, 5, 10, 16, 17, 18, 19, 20, 21, 22, 23, 24, 25, 26, 27, 28, 29, 30, 31, 32, 33, 34, 35, 36, 37, 38, 39, 40, 41, 42] (by decide +kernel) (by decide +kernel)
set_option maxRecDepth 20000 in
theorem gX5_sealed_X5_isWorker : GoodIn wsX5_sealed (wsV RX5 145 RX5 yX5_isWorker wsX5_isWorker) := goodIn_app (goodIn_of _ (by decide +kernel)) ggX5_sealed_X5_isWorker
set_option maxRecDepth 20000 in
theorem ggX5_sealed_X5_holds : GoodIn wsX5_sealed wsX5_holds := goodIn_r _ [14, 15, 16, 17, 18, 19, 20, 21, 22, 23, 24, 25, 26, 27, 28, 29, 30, 31, 32, 33, 34, 35, 36, 37, 38, 39, 40, 41, 42] (by decide +kernel) (by decide +kernel)
set_option maxRecDepth 20000 in
theorem gX5_sealed_X5_holds : GoodIn wsX5_sealed (wsV RX5 108 RX5 yX5_holds wsX5_holds) := goodIn_app (goodIn_of _ (by decide +kernel)) ggX5_sealed_X5_holds
theorem dX5_sealed_0 : decode cX5_sealed 0 = .ok (.aload_n 0, 1) := by decide +kernel
theorem dX5_sealed_1 : decode cX5_sealed 1 = .ok (.aload_n 0, 1) := by decide +kernel
theorem dX5_sealed_2 : decode cX5_sealed 2 = .ok (.iload_n 1, 1) := by decide +kernel
theorem dX5_sealed_3 : decode cX5_sealed 3 = .ok (.invokevirtual 145, 3) := by decide +kernel
theorem dX5_sealed_6 : decode cX5_sealed 6 = .ok (.ifCond .eq 7, 3) := by decide +kernel
theorem dX5_sealed_9 : decode cX5_sealed 9 = .ok (.iconst 0, 1) := by decide +kernel
theorem dX5_sealed_10 : decode cX5_sealed 10 = .ok (.goto 4, 3) := by decide +kernel
theorem dX5_sealed_13 : decode cX5_sealed 13 = .ok (.iconst 1, 1) := by decide +kernel
theorem dX5_sealed_14 : decode cX5_sealed 14 = .ok (.invokevirtual 108, 3) := by decide +kernel
theorem dX5_sealed_17 : decode cX5_sealed 17 = .ok (.ifCond .eq 12, 3) := by decide +kernel
theorem dX5_sealed_20 : decode cX5_sealed 20 = .ok (.aload_n 0, 1) := by decide +kernel
theorem dX5_sealed_21 : decode cX5_sealed 21 = .ok (.getfield 51, 3) := by decide +kernel
theorem dX5_sealed_24 : decode cX5_sealed 24 = .ok (.iload_n 1, 1) := by decide +kernel
theorem dX5_sealed_25 : decode cX5_sealed 25 = .ok (.iaload, 1) := by decide +kernel
theorem dX5_sealed_26 : decode cX5_sealed 26 = .ok (.goto 4, 3) := by decide +kernel
theorem dX5_sealed_29 : decode cX5_sealed 29 = .ok (.iconst 0, 1) := by decide +kernel
theorem dX5_sealed_30 : decode cX5_sealed 30 = .ok (.ireturn, 1) := by decide +kernel
theorem dX5_underWay_0 : decode cX5_underWay 0 = .ok (.aload_n 0, 1) := by decide +kernel
theorem dX5_underWay_1 : decode cX5_underWay 1 = .ok (.iconst 0, 1) := by decide +kernel
theorem dX5_underWay_2 : decode cX5_underWay 2 = .ok (.putfield 90, 3) := by decide +kernel
theorem dX5_underWay_5 : decode cX5_underWay 5 = .ok (.aload_n 0, 1) := by decide +kernel
theorem dX5_underWay_6 : decode cX5_underWay 6 = .ok (.getfield 60, 3) := by decide +kernel
theorem dX5_underWay_9 : decode cX5_underWay 9 = .ok (.ireturn, 1) := by decide +kernel
theorem dX5_complete_0 : decode cX5_complete 0 = .ok (.aload_n 0, 1) := by decide +kernel
theorem dX5_complete_1 : decode cX5_complete 1 = .ok (.iconst 0, 1) := by decide +kernel
theorem dX5_complete_2 : decode cX5_complete 2 = .ok (.putfield 90, 3) := by decide +kernel
theorem dX5_complete_5 : decode cX5_complete 5 = .ok (.aload_n 0, 1) := by decide +kernel
theorem dX5_complete_6 : decode cX5_complete 6 = .ok (.getfield 63, 3) := by decide +kernel
theorem dX5_complete_9 : decode cX5_complete 9 = .ok (.ireturn, 1) := by decide +kernel
set_option maxRecDepth 20000 in
theorem ggX5_hasSent_X5_isPartition : GoodIn wsX5_hasSent wsX5_isPartition := goodIn_r _ [6, 7, 8, 5, 9] (by decide +kernel) (by decide +kernel)
set_option maxRecDepth 20000 in
theorem gX5_hasSent_X5_isPartition : GoodIn wsX5_hasSent (va_wsS RX5 101 yX5_isPartition wsX5_isPartition) := goodIn_app (goodIn_of _ (by decide +kernel)) ggX5_hasSent_X5_isPartition
set_option maxRecDepth 20000 in
theorem ggX5_hasSent_X5_holds : GoodIn wsX5_hasSent wsX5_holds := goodIn_r _ [13, 14, 15, 16, 17, 18, 19, 20, 21, 22, 23, 24, 25, 26, 27, 28, 29, 30, 31, 32, 33, 34, 35, 36, 37, 38, 39, 40, 41] (by decide +kernel) (by decide +kernel)
set_option maxRecDepth 20000 in
theorem gX5_hasSent_X5_holds : GoodIn wsX5_hasSent (wsV RX5 108 RX5 yX5_holds wsX5_holds) := goodIn_app (goodIn_of _ (by decide +kernel)) ggX5_hasSent_X5_holds
theorem dX5_hasSent_0 : decode cX5_hasSent 0 = .ok (.aload_n 0, 1) := by decide +kernel
theorem dX5_hasSent_1 : decode cX5_hasSent 1 = .ok (.iload_n 1, 1) := by decide +kernel
theorem dX5_hasSent_2 : decode cX5_hasSent 2 = .ok (.invokestatic 101, 3) := by decide +kernel
theorem dX5_hasSent_5 : decode cX5_hasSent 5 = .ok (.ifCond .eq 7, 3) := by decide +kernel
theorem dX5_hasSent_8 : decode cX5_hasSent 8 = .ok (.iconst 0, 1) := by decide +kernel
theorem dX5_hasSent_9 : decode cX5_hasSent 9 = .ok (.goto 4, 3) := by decide +kernel
theorem dX5_hasSent_12 : decode cX5_hasSent 12 = .ok (.iconst 1, 1) := by decide +kernel
theorem dX5_hasSent_13 : decode cX5_hasSent 13 = .ok (.invokevirtual 108, 3) := by decide +kernel
theorem dX5_hasSent_16 : decode cX5_hasSent 16 = .ok (.ifCond .eq 24, 3) := by decide +kernel
theorem dX5_hasSent_19 : decode cX5_hasSent 19 = .ok (.aload_n 0, 1) := by decide +kernel
theorem dX5_hasSent_20 : decode cX5_hasSent 20 = .ok (.getfield 60, 3) := by decide +kernel
theorem dX5_hasSent_23 : decode cX5_hasSent 23 = .ok (.iconst (-1), 1) := by decide +kernel
theorem dX5_hasSent_24 : decode cX5_hasSent 24 = .ok (.if_icmp .eq 16, 3) := by decide +kernel
theorem dX5_hasSent_27 : decode cX5_hasSent 27 = .ok (.aload_n 0, 1) := by decide +kernel
theorem dX5_hasSent_28 : decode cX5_hasSent 28 = .ok (.getfield 66, 3) := by decide +kernel
theorem dX5_hasSent_31 : decode cX5_hasSent 31 = .ok (.iload_n 1, 1) := by decide +kernel
theorem dX5_hasSent_32 : decode cX5_hasSent 32 = .ok (.baload, 1) := by decide +kernel
theorem dX5_hasSent_33 : decode cX5_hasSent 33 = .ok (.ifCond .eq 7, 3) := by decide +kernel
theorem dX5_hasSent_36 : decode cX5_hasSent 36 = .ok (.iconst 1, 1) := by decide +kernel
theorem dX5_hasSent_37 : decode cX5_hasSent 37 = .ok (.goto 4, 3) := by decide +kernel
theorem dX5_hasSent_40 : decode cX5_hasSent 40 = .ok (.iconst 0, 1) := by decide +kernel
theorem dX5_hasSent_41 : decode cX5_hasSent 41 = .ok (.ireturn, 1) := by decide +kernel
set_option maxRecDepth 20000 in
theorem ggX5_keptOffset_X5_isPartition : GoodIn wsX5_keptOffset wsX5_isPartition := goodIn_r _ [5, 6, 7, 4, 8] (by decide +kernel) (by decide +kernel)
set_option maxRecDepth 20000 in
theorem gX5_keptOffset_X5_isPartition : GoodIn wsX5_keptOffset (va_wsS RX5 101 yX5_isPartition wsX5_isPartition) := goodIn_app (goodIn_of _ (by decide +kernel)) ggX5_keptOffset_X5_isPartition
set_option maxRecDepth 20000 in
theorem ggX5_keptOffset_X5_holds : GoodIn wsX5_keptOffset wsX5_holds := goodIn_r _ [12, 13, 14, 15, 16, 17, 18, 19, 20, 21, 22, 23, 24, 25, 26, 27, 28, 29, 30, 31, 32, 33, 34, 35, 36, 37, 38, 39, 40] (by decide +kernel) (by decide +kernel)
set_option maxRecDepth 20000 in
theorem gX5_keptOffset_X5_holds : GoodIn wsX5_keptOffset (wsV RX5 108 RX5 yX5_holds wsX5_holds) := goodIn_app (goodIn_of _ (by decide +kernel)) ggX5_keptOffset_X5_holds
theorem dX5_keptOffset_0 : decode cX5_keptOffset 0 = .ok (.aload_n 0, 1) := by decide +kernel
theorem dX5_keptOffset_1 : decode cX5_keptOffset 1 = .ok (.iload_n 1, 1) := by decide +kernel
theorem dX5_keptOffset_2 : decode cX5_keptOffset 2 = .ok (.invokestatic 101, 3) := by decide +kernel
theorem dX5_keptOffset_5 : decode cX5_keptOffset 5 = .ok (.ifCond .eq 7, 3) := by decide +kernel
theorem dX5_keptOffset_8 : decode cX5_keptOffset 8 = .ok (.iconst 0, 1) := by decide +kernel
theorem dX5_keptOffset_9 : decode cX5_keptOffset 9 = .ok (.goto 4, 3) := by decide +kernel
theorem dX5_keptOffset_12 : decode cX5_keptOffset 12 = .ok (.iconst 1, 1) := by decide +kernel
theorem dX5_keptOffset_13 : decode cX5_keptOffset 13 = .ok (.invokevirtual 108, 3) := by decide +kernel
theorem dX5_keptOffset_16 : decode cX5_keptOffset 16 = .ok (.ifCond .eq 12, 3) := by decide +kernel
theorem dX5_keptOffset_19 : decode cX5_keptOffset 19 = .ok (.aload_n 0, 1) := by decide +kernel
theorem dX5_keptOffset_20 : decode cX5_keptOffset 20 = .ok (.getfield 78, 3) := by decide +kernel
theorem dX5_keptOffset_23 : decode cX5_keptOffset 23 = .ok (.iload_n 1, 1) := by decide +kernel
theorem dX5_keptOffset_24 : decode cX5_keptOffset 24 = .ok (.iaload, 1) := by decide +kernel
theorem dX5_keptOffset_25 : decode cX5_keptOffset 25 = .ok (.goto 4, 3) := by decide +kernel
theorem dX5_keptOffset_28 : decode cX5_keptOffset 28 = .ok (.iconst 0, 1) := by decide +kernel
theorem dX5_keptOffset_29 : decode cX5_keptOffset 29 = .ok (.ireturn, 1) := by decide +kernel
set_option maxRecDepth 20000 in
theorem ggX5_keptSum_X5_ofKey : GoodIn wsX5_keptSum wsX5_ofKey := goodIn_r _ [6, 7, 8, 5, 9, 10, 11, 12, 13, 14, 15, 16, 17, 18, 19, 20, 21, 22, 23, 24, 25, 26, 27, 28, 29, 30, 31, 32, 33, 34, 35, 36, 37, 38, 39, 40, 41, 42, 43, 44] (by decide +kernel) (by decide +kernel)
set_option maxRecDepth 20000 in
theorem gX5_keptSum_X5_ofKey : GoodIn wsX5_keptSum (wsV RX5 181 RX5 yX5_ofKey wsX5_ofKey) := goodIn_app (goodIn_of _ (by decide +kernel)) ggX5_keptSum_X5_ofKey
theorem dX5_keptSum_0 : decode cX5_keptSum 0 = .ok (.aload_n 0, 1) := by decide +kernel
theorem dX5_keptSum_1 : decode cX5_keptSum 1 = .ok (.aload_n 0, 1) := by decide +kernel
theorem dX5_keptSum_2 : decode cX5_keptSum 2 = .ok (.getfield 84, 3) := by decide +kernel
theorem dX5_keptSum_5 : decode cX5_keptSum 5 = .ok (.iload_n 1, 1) := by decide +kernel
theorem dX5_keptSum_6 : decode cX5_keptSum 6 = .ok (.invokevirtual 181, 3) := by decide +kernel
theorem dX5_keptSum_9 : decode cX5_keptSum 9 = .ok (.ireturn, 1) := by decide +kernel
set_option maxRecDepth 20000 in
theorem ggX5_committedCount_X5_ofKey : GoodIn wsX5_committedCount wsX5_ofKey := goodIn_r _ [6, 7, 8, 5, 9, 10, 11, 12, 13, 14, 15, 16, 17, 18, 19, 20, 21, 22, 23, 24, 25, 26, 27, 28, 29, 30, 31, 32, 33, 34, 35, 36, 37, 38, 39, 40, 41, 42, 43, 44] (by decide +kernel) (by decide +kernel)
set_option maxRecDepth 20000 in
theorem gX5_committedCount_X5_ofKey : GoodIn wsX5_committedCount (wsV RX5 181 RX5 yX5_ofKey wsX5_ofKey) := goodIn_app (goodIn_of _ (by decide +kernel)) ggX5_committedCount_X5_ofKey
theorem dX5_committedCount_0 : decode cX5_committedCount 0 = .ok (.aload_n 0, 1) := by decide +kernel
theorem dX5_committedCount_1 : decode cX5_committedCount 1 = .ok (.aload_n 0, 1) := by decide +kernel
theorem dX5_committedCount_2 : decode cX5_committedCount 2 = .ok (.getfield 54, 3) := by decide +kernel
theorem dX5_committedCount_5 : decode cX5_committedCount 5 = .ok (.iload_n 1, 1) := by decide +kernel
theorem dX5_committedCount_6 : decode cX5_committedCount 6 = .ok (.invokevirtual 181, 3) := by decide +kernel
theorem dX5_committedCount_9 : decode cX5_committedCount 9 = .ok (.ireturn, 1) := by decide +kernel
set_option maxRecDepth 20000 in
theorem ggX5_committedSum_X5_ofKey : GoodIn wsX5_committedSum wsX5_ofKey := goodIn_r _ [6, 7, 8, 5, 9, 10, 11, 12, 13, 14, 15, 16, 17, 18, 19, 20, 21, 22, 23, 24, 25, 26, 27, 28, 29, 30, 31, 32, 33, 34, 35, 36, 37, 38, 39, 40, 41, 42, 43, 44] (by decide +kernel) (by decide +kernel)
set_option maxRecDepth 20000 in
theorem gX5_committedSum_X5_ofKey : GoodIn wsX5_committedSum (wsV RX5 181 RX5 yX5_ofKey wsX5_ofKey) := goodIn_app (goodIn_of _ (by decide +kernel)) ggX5_committedSum_X5_ofKey
theorem dX5_committedSum_0 : decode cX5_committedSum 0 = .ok (.aload_n 0, 1) := by decide +kernel
theorem dX5_committedSum_1 : decode cX5_committedSum 1 = .ok (.aload_n 0, 1) := by decide +kernel
theorem dX5_committedSum_2 : decode cX5_committedSum 2 = .ok (.getfield 57, 3) := by decide +kernel
theorem dX5_committedSum_5 : decode cX5_committedSum 5 = .ok (.iload_n 1, 1) := by decide +kernel
theorem dX5_committedSum_6 : decode cX5_committedSum 6 = .ok (.invokevirtual 181, 3) := by decide +kernel
theorem dX5_committedSum_9 : decode cX5_committedSum 9 = .ok (.ireturn, 1) := by decide +kernel
theorem dX5_committed_0 : decode cX5_committed 0 = .ok (.aload_n 0, 1) := by decide +kernel
theorem dX5_committed_1 : decode cX5_committed 1 = .ok (.iconst 0, 1) := by decide +kernel
theorem dX5_committed_2 : decode cX5_committed 2 = .ok (.putfield 90, 3) := by decide +kernel
theorem dX5_committed_5 : decode cX5_committed 5 = .ok (.iconst 0, 1) := by decide +kernel
theorem dX5_committed_6 : decode cX5_committed 6 = .ok (.istore_n 1, 1) := by decide +kernel
theorem dX5_committed_7 : decode cX5_committed 7 = .ok (.iconst 0, 1) := by decide +kernel
theorem dX5_committed_8 : decode cX5_committed 8 = .ok (.istore_n 2, 1) := by decide +kernel
theorem dX5_committed_9 : decode cX5_committed 9 = .ok (.iload_n 2, 1) := by decide +kernel
theorem dX5_committed_10 : decode cX5_committed 10 = .ok (.bipush 32, 2) := by decide +kernel
theorem dX5_committed_12 : decode cX5_committed 12 = .ok (.if_icmp .ge 18, 3) := by decide +kernel
theorem dX5_committed_15 : decode cX5_committed 15 = .ok (.iload_n 1, 1) := by decide +kernel
theorem dX5_committed_16 : decode cX5_committed 16 = .ok (.aload_n 0, 1) := by decide +kernel
theorem dX5_committed_17 : decode cX5_committed 17 = .ok (.getfield 54, 3) := by decide +kernel
theorem dX5_committed_20 : decode cX5_committed 20 = .ok (.iload_n 2, 1) := by decide +kernel
theorem dX5_committed_21 : decode cX5_committed 21 = .ok (.iaload, 1) := by decide +kernel
theorem dX5_committed_22 : decode cX5_committed 22 = .ok (.iadd, 1) := by decide +kernel
theorem dX5_committed_23 : decode cX5_committed 23 = .ok (.istore_n 1, 1) := by decide +kernel
theorem dX5_committed_24 : decode cX5_committed 24 = .ok (.iinc 2 1, 3) := by decide +kernel
theorem dX5_committed_27 : decode cX5_committed 27 = .ok (.goto (-18), 3) := by decide +kernel
theorem dX5_committed_30 : decode cX5_committed 30 = .ok (.iload_n 1, 1) := by decide +kernel
theorem dX5_committed_31 : decode cX5_committed 31 = .ok (.ireturn, 1) := by decide +kernel
set_option maxRecDepth 20000 in
theorem ggX5_readSum_X5_isKey : GoodIn wsX5_readSum wsX5_isKey := goodIn_r _ [6, 7, 8, 5, 9] (by decide +kernel) (by decide +kernel)
set_option maxRecDepth 20000 in
theorem gX5_readSum_X5_isKey : GoodIn wsX5_readSum (va_wsS RX5 105 yX5_isKey wsX5_isKey) := goodIn_app (goodIn_of _ (by decide +kernel)) ggX5_readSum_X5_isKey
set_option maxRecDepth 20000 in
theorem ggX5_readSum_X5_holds : GoodIn wsX5_readSum wsX5_holds := goodIn_r _ [13, 14, 15, 16, 17, 18, 19, 20, 21, 22, 23, 24, 25, 26, 27, 28, 29, 30, 31, 32, 33, 34, 35, 36, 37, 38, 39, 40, 41] (by decide +kernel) (by decide +kernel)
set_option maxRecDepth 20000 in
theorem gX5_readSum_X5_holds : GoodIn wsX5_readSum (wsV RX5 108 RX5 yX5_holds wsX5_holds) := goodIn_app (goodIn_of _ (by decide +kernel)) ggX5_readSum_X5_holds
theorem dX5_readSum_0 : decode cX5_readSum 0 = .ok (.aload_n 0, 1) := by decide +kernel
theorem dX5_readSum_1 : decode cX5_readSum 1 = .ok (.iload_n 1, 1) := by decide +kernel
theorem dX5_readSum_2 : decode cX5_readSum 2 = .ok (.invokestatic 105, 3) := by decide +kernel
theorem dX5_readSum_5 : decode cX5_readSum 5 = .ok (.ifCond .eq 7, 3) := by decide +kernel
theorem dX5_readSum_8 : decode cX5_readSum 8 = .ok (.iconst 0, 1) := by decide +kernel
theorem dX5_readSum_9 : decode cX5_readSum 9 = .ok (.goto 4, 3) := by decide +kernel
theorem dX5_readSum_12 : decode cX5_readSum 12 = .ok (.iconst 1, 1) := by decide +kernel
theorem dX5_readSum_13 : decode cX5_readSum 13 = .ok (.invokevirtual 108, 3) := by decide +kernel
theorem dX5_readSum_16 : decode cX5_readSum 16 = .ok (.ifCond .ne 5, 3) := by decide +kernel
theorem dX5_readSum_19 : decode cX5_readSum 19 = .ok (.iconst 0, 1) := by decide +kernel
theorem dX5_readSum_20 : decode cX5_readSum 20 = .ok (.ireturn, 1) := by decide +kernel
theorem dX5_readSum_21 : decode cX5_readSum 21 = .ok (.iconst 0, 1) := by decide +kernel
theorem dX5_readSum_22 : decode cX5_readSum 22 = .ok (.istore_n 2, 1) := by decide +kernel
theorem dX5_readSum_23 : decode cX5_readSum 23 = .ok (.iconst 0, 1) := by decide +kernel
theorem dX5_readSum_24 : decode cX5_readSum 24 = .ok (.istore_n 3, 1) := by decide +kernel
theorem dX5_readSum_25 : decode cX5_readSum 25 = .ok (.iload_n 3, 1) := by decide +kernel
theorem dX5_readSum_26 : decode cX5_readSum 26 = .ok (.iconst 4, 1) := by decide +kernel
theorem dX5_readSum_27 : decode cX5_readSum 27 = .ok (.if_icmp .ge 66, 3) := by decide +kernel
theorem dX5_readSum_30 : decode cX5_readSum 30 = .ok (.iconst 0, 1) := by decide +kernel
theorem dX5_readSum_31 : decode cX5_readSum 31 = .ok (.istore 4, 2) := by decide +kernel
theorem dX5_readSum_33 : decode cX5_readSum 33 = .ok (.iload 4, 2) := by decide +kernel
theorem dX5_readSum_35 : decode cX5_readSum 35 = .ok (.aload_n 0, 1) := by decide +kernel
theorem dX5_readSum_36 : decode cX5_readSum 36 = .ok (.getfield 17, 3) := by decide +kernel
theorem dX5_readSum_39 : decode cX5_readSum 39 = .ok (.iload_n 3, 1) := by decide +kernel
theorem dX5_readSum_40 : decode cX5_readSum 40 = .ok (.iaload, 1) := by decide +kernel
theorem dX5_readSum_41 : decode cX5_readSum 41 = .ok (.if_icmp .ge 46, 3) := by decide +kernel
theorem dX5_readSum_44 : decode cX5_readSum 44 = .ok (.aload_n 0, 1) := by decide +kernel
theorem dX5_readSum_45 : decode cX5_readSum 45 = .ok (.getfield 20, 3) := by decide +kernel
theorem dX5_readSum_48 : decode cX5_readSum 48 = .ok (.bipush 60, 2) := by decide +kernel
theorem dX5_readSum_50 : decode cX5_readSum 50 = .ok (.iload_n 3, 1) := by decide +kernel
theorem dX5_readSum_51 : decode cX5_readSum 51 = .ok (.imul, 1) := by decide +kernel
theorem dX5_readSum_52 : decode cX5_readSum 52 = .ok (.iload 4, 2) := by decide +kernel
theorem dX5_readSum_54 : decode cX5_readSum 54 = .ok (.iadd, 1) := by decide +kernel
theorem dX5_readSum_55 : decode cX5_readSum 55 = .ok (.iaload, 1) := by decide +kernel
theorem dX5_readSum_56 : decode cX5_readSum 56 = .ok (.istore 5, 2) := by decide +kernel
theorem dX5_readSum_58 : decode cX5_readSum 58 = .ok (.iload_n 2, 1) := by decide +kernel
theorem dX5_readSum_59 : decode cX5_readSum 59 = .ok (.iload 5, 2) := by decide +kernel
theorem dX5_readSum_61 : decode cX5_readSum 61 = .ok (.sipush 1000, 3) := by decide +kernel
theorem dX5_readSum_64 : decode cX5_readSum 64 = .ok (.idiv, 1) := by decide +kernel
theorem dX5_readSum_65 : decode cX5_readSum 65 = .ok (.iload_n 1, 1) := by decide +kernel
theorem dX5_readSum_66 : decode cX5_readSum 66 = .ok (.if_icmp .ne 12, 3) := by decide +kernel
theorem dX5_readSum_69 : decode cX5_readSum 69 = .ok (.iload 5, 2) := by decide +kernel
theorem dX5_readSum_71 : decode cX5_readSum 71 = .ok (.sipush 1000, 3) := by decide +kernel
theorem dX5_readSum_74 : decode cX5_readSum 74 = .ok (.irem, 1) := by decide +kernel
theorem dX5_readSum_75 : decode cX5_readSum 75 = .ok (.goto 4, 3) := by decide +kernel
theorem dX5_readSum_78 : decode cX5_readSum 78 = .ok (.iconst 0, 1) := by decide +kernel
theorem dX5_readSum_79 : decode cX5_readSum 79 = .ok (.iadd, 1) := by decide +kernel
theorem dX5_readSum_80 : decode cX5_readSum 80 = .ok (.istore_n 2, 1) := by decide +kernel
theorem dX5_readSum_81 : decode cX5_readSum 81 = .ok (.iinc 4 1, 3) := by decide +kernel
theorem dX5_readSum_84 : decode cX5_readSum 84 = .ok (.goto (-51), 3) := by decide +kernel
theorem dX5_readSum_87 : decode cX5_readSum 87 = .ok (.iinc 3 1, 3) := by decide +kernel
theorem dX5_readSum_90 : decode cX5_readSum 90 = .ok (.goto (-65), 3) := by decide +kernel
theorem dX5_readSum_93 : decode cX5_readSum 93 = .ok (.iload_n 2, 1) := by decide +kernel
theorem dX5_readSum_94 : decode cX5_readSum 94 = .ok (.ireturn, 1) := by decide +kernel
set_option maxRecDepth 20000 in
theorem ggX5_sumInChannels_X5_isKey : GoodIn wsX5_sumInChannels wsX5_isKey := goodIn_r _ [6, 7, 8, 5, 9] (by decide +kernel) (by decide +kernel)
set_option maxRecDepth 20000 in
theorem gX5_sumInChannels_X5_isKey : GoodIn wsX5_sumInChannels (va_wsS RX5 105 yX5_isKey wsX5_isKey) := goodIn_app (goodIn_of _ (by decide +kernel)) ggX5_sumInChannels_X5_isKey
set_option maxRecDepth 20000 in
theorem ggX5_sumInChannels_X5_holds : GoodIn wsX5_sumInChannels wsX5_holds := goodIn_r _ [13, 14, 15, 16, 17, 18, 19, 20, 21, 22, 23, 24, 25, 26, 27, 28, 29, 30, 31, 32, 33, 34, 35, 36, 37, 38, 39, 40, 41] (by decide +kernel) (by decide +kernel)
set_option maxRecDepth 20000 in
theorem gX5_sumInChannels_X5_holds : GoodIn wsX5_sumInChannels (wsV RX5 108 RX5 yX5_holds wsX5_holds) := goodIn_app (goodIn_of _ (by decide +kernel)) ggX5_sumInChannels_X5_holds
theorem dX5_sumInChannels_0 : decode cX5_sumInChannels 0 = .ok (.aload_n 0, 1) := by decide +kernel
theorem dX5_sumInChannels_1 : decode cX5_sumInChannels 1 = .ok (.iload_n 1, 1) := by decide +kernel
theorem dX5_sumInChannels_2 : decode cX5_sumInChannels 2 = .ok (.invokestatic 105, 3) := by decide +kernel
theorem dX5_sumInChannels_5 : decode cX5_sumInChannels 5 = .ok (.ifCond .eq 7, 3) := by decide +kernel
theorem dX5_sumInChannels_8 : decode cX5_sumInChannels 8 = .ok (.iconst 0, 1) := by decide +kernel
theorem dX5_sumInChannels_9 : decode cX5_sumInChannels 9 = .ok (.goto 4, 3) := by decide +kernel
theorem dX5_sumInChannels_12 : decode cX5_sumInChannels 12 = .ok (.iconst 1, 1) := by decide +kernel
theorem dX5_sumInChannels_13 : decode cX5_sumInChannels 13 = .ok (.invokevirtual 108, 3) := by decide +kernel
theorem dX5_sumInChannels_16 : decode cX5_sumInChannels 16 = .ok (.ifCond .ne 5, 3) := by decide +kernel
theorem dX5_sumInChannels_19 : decode cX5_sumInChannels 19 = .ok (.iconst 0, 1) := by decide +kernel
theorem dX5_sumInChannels_20 : decode cX5_sumInChannels 20 = .ok (.ireturn, 1) := by decide +kernel
theorem dX5_sumInChannels_21 : decode cX5_sumInChannels 21 = .ok (.iconst 0, 1) := by decide +kernel
theorem dX5_sumInChannels_22 : decode cX5_sumInChannels 22 = .ok (.istore_n 2, 1) := by decide +kernel
theorem dX5_sumInChannels_23 : decode cX5_sumInChannels 23 = .ok (.iconst 0, 1) := by decide +kernel
theorem dX5_sumInChannels_24 : decode cX5_sumInChannels 24 = .ok (.istore_n 3, 1) := by decide +kernel
theorem dX5_sumInChannels_25 : decode cX5_sumInChannels 25 = .ok (.iload_n 3, 1) := by decide +kernel
theorem dX5_sumInChannels_26 : decode cX5_sumInChannels 26 = .ok (.bipush 16, 2) := by decide +kernel
theorem dX5_sumInChannels_28 : decode cX5_sumInChannels 28 = .ok (.if_icmp .ge 71, 3) := by decide +kernel
theorem dX5_sumInChannels_31 : decode cX5_sumInChannels 31 = .ok (.iconst 0, 1) := by decide +kernel
theorem dX5_sumInChannels_32 : decode cX5_sumInChannels 32 = .ok (.istore 4, 2) := by decide +kernel
theorem dX5_sumInChannels_34 : decode cX5_sumInChannels 34 = .ok (.iload 4, 2) := by decide +kernel
theorem dX5_sumInChannels_36 : decode cX5_sumInChannels 36 = .ok (.aload_n 0, 1) := by decide +kernel
theorem dX5_sumInChannels_37 : decode cX5_sumInChannels 37 = .ok (.getfield 26, 3) := by decide +kernel
theorem dX5_sumInChannels_40 : decode cX5_sumInChannels 40 = .ok (.iload_n 3, 1) := by decide +kernel
theorem dX5_sumInChannels_41 : decode cX5_sumInChannels 41 = .ok (.iaload, 1) := by decide +kernel
theorem dX5_sumInChannels_42 : decode cX5_sumInChannels 42 = .ok (.if_icmp .ge 51, 3) := by decide +kernel
theorem dX5_sumInChannels_45 : decode cX5_sumInChannels 45 = .ok (.aload_n 0, 1) := by decide +kernel
theorem dX5_sumInChannels_46 : decode cX5_sumInChannels 46 = .ok (.getfield 23, 3) := by decide +kernel
theorem dX5_sumInChannels_49 : decode cX5_sumInChannels 49 = .ok (.bipush 8, 2) := by decide +kernel
theorem dX5_sumInChannels_51 : decode cX5_sumInChannels 51 = .ok (.iload_n 3, 1) := by decide +kernel
theorem dX5_sumInChannels_52 : decode cX5_sumInChannels 52 = .ok (.imul, 1) := by decide +kernel
theorem dX5_sumInChannels_53 : decode cX5_sumInChannels 53 = .ok (.iload 4, 2) := by decide +kernel
theorem dX5_sumInChannels_55 : decode cX5_sumInChannels 55 = .ok (.iadd, 1) := by decide +kernel
theorem dX5_sumInChannels_56 : decode cX5_sumInChannels 56 = .ok (.iaload, 1) := by decide +kernel
theorem dX5_sumInChannels_57 : decode cX5_sumInChannels 57 = .ok (.istore 5, 2) := by decide +kernel
theorem dX5_sumInChannels_59 : decode cX5_sumInChannels 59 = .ok (.iload_n 2, 1) := by decide +kernel
theorem dX5_sumInChannels_60 : decode cX5_sumInChannels 60 = .ok (.iload 5, 2) := by decide +kernel
theorem dX5_sumInChannels_62 : decode cX5_sumInChannels 62 = .ok (.ifCond .le 22, 3) := by decide +kernel
theorem dX5_sumInChannels_65 : decode cX5_sumInChannels 65 = .ok (.iload 5, 2) := by decide +kernel
theorem dX5_sumInChannels_67 : decode cX5_sumInChannels 67 = .ok (.sipush 1000, 3) := by decide +kernel
theorem dX5_sumInChannels_70 : decode cX5_sumInChannels 70 = .ok (.idiv, 1) := by decide +kernel
theorem dX5_sumInChannels_71 : decode cX5_sumInChannels 71 = .ok (.iload_n 1, 1) := by decide +kernel
theorem dX5_sumInChannels_72 : decode cX5_sumInChannels 72 = .ok (.if_icmp .ne 12, 3) := by decide +kernel
theorem dX5_sumInChannels_75 : decode cX5_sumInChannels 75 = .ok (.iload 5, 2) := by decide +kernel
theorem dX5_sumInChannels_77 : decode cX5_sumInChannels 77 = .ok (.sipush 1000, 3) := by decide +kernel
theorem dX5_sumInChannels_80 : decode cX5_sumInChannels 80 = .ok (.irem, 1) := by decide +kernel
theorem dX5_sumInChannels_81 : decode cX5_sumInChannels 81 = .ok (.goto 4, 3) := by decide +kernel
theorem dX5_sumInChannels_84 : decode cX5_sumInChannels 84 = .ok (.iconst 0, 1) := by decide +kernel
theorem dX5_sumInChannels_85 : decode cX5_sumInChannels 85 = .ok (.iadd, 1) := by decide +kernel
theorem dX5_sumInChannels_86 : decode cX5_sumInChannels 86 = .ok (.istore_n 2, 1) := by decide +kernel
theorem dX5_sumInChannels_87 : decode cX5_sumInChannels 87 = .ok (.iinc 4 1, 3) := by decide +kernel
theorem dX5_sumInChannels_90 : decode cX5_sumInChannels 90 = .ok (.goto (-56), 3) := by decide +kernel
theorem dX5_sumInChannels_93 : decode cX5_sumInChannels 93 = .ok (.iinc 3 1, 3) := by decide +kernel
theorem dX5_sumInChannels_96 : decode cX5_sumInChannels 96 = .ok (.goto (-71), 3) := by decide +kernel
theorem dX5_sumInChannels_99 : decode cX5_sumInChannels 99 = .ok (.iload_n 2, 1) := by decide +kernel
theorem dX5_sumInChannels_100 : decode cX5_sumInChannels 100 = .ok (.ireturn, 1) := by decide +kernel
end
section
set_option maxRecDepth 20000 in
theorem ggL_append_X4_append : GoodIn wsL_append wsX4_append := goodIn_ca (goodIn_ca (goodIn_ca (goodIn_r _ [8, 9, 10, 11, 12, 13, 14, 15, 16, 7, 17, 18, 19, 20, 21, 22, 23, 24, 25, 26, 27, 28, 29, 30, 31, 32, 33, 34, 35, 36, 37, 38, 39, 40, 41, 42, 43, 44, 45] (by decide +kernel) (by decide +kernel)) (goodIn_sub (fun _ h => List.mem_cons_of_mem _ (List.mem_append_left _ (List.mem_append_left _ (List.mem_append_right _ h)))) (by decide +kernel))) (goodIn_sub (fun _ h => List.mem_cons_of_mem _ (List.mem_append_left _ (List.mem_append_right _ h))) (by decide +kernel))) (goodIn_sub (fun _ h => List.mem_cons_of_mem _ (List.mem_append_right _ h)) (by decide +kernel))
set_option maxRecDepth 20000 in
theorem gL_append_X4_append : GoodIn wsL_append (wsV RL 7 RX4 yX4_append wsX4_append) := goodIn_app (goodIn_of _ (by decide +kernel)) ggL_append_X4_append
theorem dL_append_0 : decode cL_append 0 = .ok (.aload 4, 2) := by decide +kernel
theorem dL_append_2 : decode cL_append 2 = .ok (.iconst 0, 1) := by decide +kernel
theorem dL_append_3 : decode cL_append 3 = .ok (.aload_n 0, 1) := by decide +kernel
theorem dL_append_4 : decode cL_append 4 = .ok (.iload_n 1, 1) := by decide +kernel
theorem dL_append_5 : decode cL_append 5 = .ok (.iload_n 2, 1) := by decide +kernel
theorem dL_append_6 : decode cL_append 6 = .ok (.iload_n 3, 1) := by decide +kernel
theorem dL_append_7 : decode cL_append 7 = .ok (.invokevirtual 7, 3) := by decide +kernel
theorem dL_append_10 : decode cL_append 10 = .ok (.i2l, 1) := by decide +kernel
theorem dL_append_11 : decode cL_append 11 = .ok (.lastore, 1) := by decide +kernel
theorem dL_append_12 : decode cL_append 12 = .ok (.goto 15, 3) := by decide +kernel
theorem dL_append_15 : decode cL_append 15 = .ok (.astore 5, 2) := by decide +kernel
theorem dL_append_17 : decode cL_append 17 = .ok (.iconst 1, 1) := by decide +kernel
theorem dL_append_18 : decode cL_append 18 = .ok (.ireturn, 1) := by decide +kernel
theorem dL_append_19 : decode cL_append 19 = .ok (.astore 5, 2) := by decide +kernel
theorem dL_append_21 : decode cL_append 21 = .ok (.iconst 2, 1) := by decide +kernel
theorem dL_append_22 : decode cL_append 22 = .ok (.ireturn, 1) := by decide +kernel
theorem dL_append_23 : decode cL_append 23 = .ok (.astore 5, 2) := by decide +kernel
theorem dL_append_25 : decode cL_append 25 = .ok (.iconst 3, 1) := by decide +kernel
theorem dL_append_26 : decode cL_append 26 = .ok (.ireturn, 1) := by decide +kernel
theorem dL_append_27 : decode cL_append 27 = .ok (.iconst 0, 1) := by decide +kernel
theorem dL_append_28 : decode cL_append 28 = .ok (.ireturn, 1) := by decide +kernel
set_option maxRecDepth 20000 in
theorem ggL_read_X4_read : GoodIn wsL_read wsX4_read := goodIn_ca (goodIn_ca (goodIn_r _ [7, 8, 9, 10, 11, 6, 12, 13, 14, 15, 16, 17, 18, 19, 20, 21, 22, 23, 24, 25, 26, 27, 28, 29, 30, 31, 32, 33, 34, 35, 36, 37, 38, 39, 40, 41, 42, 43, 44, 45, 46, 47, 48, 49, 50, 51, 52, 53, 54, 55, 56, 57, 58, 59, 60, 61, 62, 63, 64, 65, 66, 67, 68, 69, 70, 71, 72, 73, 74, 75, 76, 77, 78, 79, 80, 81, 82, 83, 84, 85] (by decide +kernel) (by decide +kernel)) (goodIn_sub (fun _ h => List.mem_cons_of_mem _ (List.mem_append_left _ (List.mem_append_right _ h))) (by decide +kernel))) (goodIn_sub (fun _ h => List.mem_cons_of_mem _ (List.mem_append_right _ h)) (by decide +kernel))
set_option maxRecDepth 20000 in
theorem gL_read_X4_read : GoodIn wsL_read (wsV RL 19 RX4 yX4_read wsX4_read) := goodIn_app (goodIn_of _ (by decide +kernel)) ggL_read_X4_read
theorem dL_read_0 : decode cL_read 0 = .ok (.aload_n 2, 1) := by decide +kernel
theorem dL_read_1 : decode cL_read 1 = .ok (.iconst 0, 1) := by decide +kernel
theorem dL_read_2 : decode cL_read 2 = .ok (.aload_n 0, 1) := by decide +kernel
theorem dL_read_3 : decode cL_read 3 = .ok (.iload_n 1, 1) := by decide +kernel
theorem dL_read_4 : decode cL_read 4 = .ok (.invokevirtual 19, 3) := by decide +kernel
theorem dL_read_7 : decode cL_read 7 = .ok (.i2l, 1) := by decide +kernel
theorem dL_read_8 : decode cL_read 8 = .ok (.lastore, 1) := by decide +kernel
theorem dL_read_9 : decode cL_read 9 = .ok (.goto 9, 3) := by decide +kernel
theorem dL_read_12 : decode cL_read 12 = .ok (.astore_n 3, 1) := by decide +kernel
theorem dL_read_13 : decode cL_read 13 = .ok (.iconst 1, 1) := by decide +kernel
theorem dL_read_14 : decode cL_read 14 = .ok (.ireturn, 1) := by decide +kernel
theorem dL_read_15 : decode cL_read 15 = .ok (.astore_n 3, 1) := by decide +kernel
theorem dL_read_16 : decode cL_read 16 = .ok (.iconst 2, 1) := by decide +kernel
theorem dL_read_17 : decode cL_read 17 = .ok (.ireturn, 1) := by decide +kernel
theorem dL_read_18 : decode cL_read 18 = .ok (.iconst 0, 1) := by decide +kernel
theorem dL_read_19 : decode cL_read 19 = .ok (.ireturn, 1) := by decide +kernel
set_option maxRecDepth 20000 in
theorem ggL_sendBarrier_X4_sendBarrier : GoodIn wsL_sendBarrier wsX4_sendBarrier := goodIn_ca (goodIn_ca (goodIn_r _ [7, 8, 9, 10, 11, 12, 13, 14, 15, 16, 6, 17, 18, 19, 20, 21, 22, 23, 24, 25, 26, 27, 28, 29, 30, 31, 32, 33, 34, 35, 36, 37, 38, 39, 40, 41, 42, 43, 44, 45, 46, 47, 48, 49, 50, 51, 52, 53, 54, 55, 56, 57, 58, 59, 60, 61, 62, 63, 64, 65, 66, 67, 68, 69, 70] (by decide +kernel) (by decide +kernel)) (goodIn_sub (fun _ h => List.mem_cons_of_mem _ (List.mem_append_left _ (List.mem_append_right _ h))) (by decide +kernel))) (goodIn_sub (fun _ h => List.mem_cons_of_mem _ (List.mem_append_right _ h)) (by decide +kernel))
set_option maxRecDepth 20000 in
theorem gL_sendBarrier_X4_sendBarrier : GoodIn wsL_sendBarrier (wsV RL 23 RX4 yX4_sendBarrier wsX4_sendBarrier) := goodIn_app (goodIn_of _ (by decide +kernel)) ggL_sendBarrier_X4_sendBarrier
theorem dL_sendBarrier_0 : decode cL_sendBarrier 0 = .ok (.aload_n 2, 1) := by decide +kernel
theorem dL_sendBarrier_1 : decode cL_sendBarrier 1 = .ok (.iconst 0, 1) := by decide +kernel
theorem dL_sendBarrier_2 : decode cL_sendBarrier 2 = .ok (.aload_n 0, 1) := by decide +kernel
theorem dL_sendBarrier_3 : decode cL_sendBarrier 3 = .ok (.iload_n 1, 1) := by decide +kernel
theorem dL_sendBarrier_4 : decode cL_sendBarrier 4 = .ok (.invokevirtual 23, 3) := by decide +kernel
theorem dL_sendBarrier_7 : decode cL_sendBarrier 7 = .ok (.i2l, 1) := by decide +kernel
theorem dL_sendBarrier_8 : decode cL_sendBarrier 8 = .ok (.lastore, 1) := by decide +kernel
theorem dL_sendBarrier_9 : decode cL_sendBarrier 9 = .ok (.goto 9, 3) := by decide +kernel
theorem dL_sendBarrier_12 : decode cL_sendBarrier 12 = .ok (.astore_n 3, 1) := by decide +kernel
theorem dL_sendBarrier_13 : decode cL_sendBarrier 13 = .ok (.iconst 1, 1) := by decide +kernel
theorem dL_sendBarrier_14 : decode cL_sendBarrier 14 = .ok (.ireturn, 1) := by decide +kernel
theorem dL_sendBarrier_15 : decode cL_sendBarrier 15 = .ok (.astore_n 3, 1) := by decide +kernel
theorem dL_sendBarrier_16 : decode cL_sendBarrier 16 = .ok (.iconst 2, 1) := by decide +kernel
theorem dL_sendBarrier_17 : decode cL_sendBarrier 17 = .ok (.ireturn, 1) := by decide +kernel
theorem dL_sendBarrier_18 : decode cL_sendBarrier 18 = .ok (.iconst 0, 1) := by decide +kernel
theorem dL_sendBarrier_19 : decode cL_sendBarrier 19 = .ok (.ireturn, 1) := by decide +kernel
set_option maxRecDepth 20000 in
theorem ggL_take_X4_take : GoodIn wsL_take wsX4_take := goodIn_ca (goodIn_ca (goodIn_r _ [7, 8, 9, 10, 11, 12, 13, 6, 14, 15, 16, 17, 18, 19, 20, 21, 22, 23, 24, 25, 26, 27, 28, 29, 30, 31, 32, 33, 34, 35, 36, 37, 38, 39, 40, 41, 42, 43, 44, 45, 46, 47, 48, 49, 50, 51, 52, 53, 54, 55, 56, 57, 58, 59, 60, 61, 62, 63, 64, 65, 66, 67, 68, 69, 70, 71, 72, 73, 74, 75, 76, 77, 78, 79, 80, 81, 82, 83, 84, 85, 86, 87, 88, 89, 90, 91, 92, 93, 94, 95, 96, 97, 98, 99, 100, 101, 102, 103, 104, 105, 106, 107, 108, 109, 110, 111, 112, 113, 114, 115, 116, 117, 118, 119, 120, 121, 122, 123, 124, 125, 126, 127, 128, 129, 130, 131, 132, 133, 134, 135, 136, 137, 138, 139, 140, 141, 142, 143, 144, 145, 146, 147, 148, 149, 150, 151, 152, 153, 154, 155, 156] (by decide +kernel) (by decide +kernel)) (goodIn_sub (fun _ h => List.mem_cons_of_mem _ (List.mem_append_left _ (List.mem_append_right _ h))) (by decide +kernel))) (goodIn_sub (fun _ h => List.mem_cons_of_mem _ (List.mem_append_right _ h)) (by decide +kernel))
set_option maxRecDepth 20000 in
theorem gL_take_X4_take : GoodIn wsL_take (wsV RL 26 RX4 yX4_take wsX4_take) := goodIn_app (goodIn_of _ (by decide +kernel)) ggL_take_X4_take
theorem dL_take_0 : decode cL_take 0 = .ok (.aload_n 3, 1) := by decide +kernel
theorem dL_take_1 : decode cL_take 1 = .ok (.iconst 0, 1) := by decide +kernel
theorem dL_take_2 : decode cL_take 2 = .ok (.aload_n 0, 1) := by decide +kernel
theorem dL_take_3 : decode cL_take 3 = .ok (.iload_n 1, 1) := by decide +kernel
theorem dL_take_4 : decode cL_take 4 = .ok (.iload_n 2, 1) := by decide +kernel
theorem dL_take_5 : decode cL_take 5 = .ok (.invokevirtual 26, 3) := by decide +kernel
theorem dL_take_8 : decode cL_take 8 = .ok (.i2l, 1) := by decide +kernel
theorem dL_take_9 : decode cL_take 9 = .ok (.lastore, 1) := by decide +kernel
theorem dL_take_10 : decode cL_take 10 = .ok (.goto 11, 3) := by decide +kernel
theorem dL_take_13 : decode cL_take 13 = .ok (.astore 4, 2) := by decide +kernel
theorem dL_take_15 : decode cL_take 15 = .ok (.iconst 1, 1) := by decide +kernel
theorem dL_take_16 : decode cL_take 16 = .ok (.ireturn, 1) := by decide +kernel
theorem dL_take_17 : decode cL_take 17 = .ok (.astore 4, 2) := by decide +kernel
theorem dL_take_19 : decode cL_take 19 = .ok (.iconst 2, 1) := by decide +kernel
theorem dL_take_20 : decode cL_take 20 = .ok (.ireturn, 1) := by decide +kernel
theorem dL_take_21 : decode cL_take 21 = .ok (.iconst 0, 1) := by decide +kernel
theorem dL_take_22 : decode cL_take 22 = .ok (.ireturn, 1) := by decide +kernel
set_option maxRecDepth 20000 in
theorem ggL_pump_X4_pump : GoodIn wsL_pump wsX4_pump := goodIn_ca (goodIn_r _ [6, 7, 8, 9, 10, 11, 5, 12, 13, 14, 15, 16, 17, 18, 19, 20, 21, 22, 23, 24, 25, 26, 27, 28, 29, 30, 31, 32, 33, 34, 35, 36, 37, 38, 39, 40, 41, 42, 43, 44, 45, 46, 47, 48, 49, 50, 51, 52, 53, 54, 55, 56, 57, 58, 59, 60, 61, 62, 63, 64, 65, 66, 67, 68, 69, 70, 71, 72, 73, 74, 75, 76, 77, 78, 79, 80, 81, 82, 83, 84, 85, 86, 87, 88, 89, 90, 91, 92, 93, 94, 95, 96, 97, 98, 99, 100, 101, 102, 103, 104, 105, 106, 107, 108, 109, 110, 111, 112, 113, 114, 115, 116, 117, 118, 119, 120, 121, 122, 123, 124, 125, 126, 127, 128, 129, 130, 131, 132, 133, 134, 135, 136, 137, 138, 139, 140, 141, 142, 143, 144, 145, 146, 147, 148, 149, 150, 151, 152, 153, 154, 155, 156, 157, 158, 159, 160, 161, 162, 163, 164, 165, 166, 167, 168, 169, 170, 171, 172, 173, 174, 175, 176, 177, 178, 179, 180, 181] (by decide +kernel) (by decide +kernel)) (goodIn_sub (fun _ h => List.mem_cons_of_mem _ (List.mem_append_right _ h)) (by decide +kernel))
set_option maxRecDepth 20000 in
theorem gL_pump_X4_pump : GoodIn wsL_pump (wsV RL 30 RX4 yX4_pump wsX4_pump) := goodIn_app (goodIn_of _ (by decide +kernel)) ggL_pump_X4_pump
theorem dL_pump_0 : decode cL_pump 0 = .ok (.aload_n 2, 1) := by decide +kernel
theorem dL_pump_1 : decode cL_pump 1 = .ok (.iconst 0, 1) := by decide +kernel
theorem dL_pump_2 : decode cL_pump 2 = .ok (.aload_n 0, 1) := by decide +kernel
theorem dL_pump_3 : decode cL_pump 3 = .ok (.iload_n 1, 1) := by decide +kernel
theorem dL_pump_4 : decode cL_pump 4 = .ok (.invokevirtual 30, 3) := by decide +kernel
theorem dL_pump_7 : decode cL_pump 7 = .ok (.i2l, 1) := by decide +kernel
theorem dL_pump_8 : decode cL_pump 8 = .ok (.lastore, 1) := by decide +kernel
theorem dL_pump_9 : decode cL_pump 9 = .ok (.goto 6, 3) := by decide +kernel
theorem dL_pump_12 : decode cL_pump 12 = .ok (.astore_n 3, 1) := by decide +kernel
theorem dL_pump_13 : decode cL_pump 13 = .ok (.iconst 1, 1) := by decide +kernel
theorem dL_pump_14 : decode cL_pump 14 = .ok (.ireturn, 1) := by decide +kernel
theorem dL_pump_15 : decode cL_pump 15 = .ok (.iconst 0, 1) := by decide +kernel
theorem dL_pump_16 : decode cL_pump 16 = .ok (.ireturn, 1) := by decide +kernel
set_option maxRecDepth 20000 in
theorem ggL_commit_X4_commit : GoodIn wsL_commit wsX4_commit := goodIn_ca (goodIn_ca (goodIn_r _ [7, 8, 9, 10, 11, 12, 6, 13, 14, 15, 16, 17, 18, 19, 20, 21, 22, 23, 24, 25, 26, 27, 28, 29, 30, 31, 32, 33, 34, 35, 36, 37, 38, 39, 40, 41, 42, 43, 44, 45, 46, 47, 48, 49, 50, 51, 52, 53, 54, 55, 56, 57, 58, 59, 60, 61, 62, 63, 64, 65, 66, 67, 68] (by decide +kernel) (by decide +kernel)) (goodIn_sub (fun _ h => List.mem_cons_of_mem _ (List.mem_append_left _ (List.mem_append_right _ h))) (by decide +kernel))) (goodIn_sub (fun _ h => List.mem_cons_of_mem _ (List.mem_append_right _ h)) (by decide +kernel))
set_option maxRecDepth 20000 in
theorem gL_commit_X4_commit : GoodIn wsL_commit (wsV RL 33 RX4 yX4_commit wsX4_commit) := goodIn_app (goodIn_of _ (by decide +kernel)) ggL_commit_X4_commit
theorem dL_commit_0 : decode cL_commit 0 = .ok (.aload_n 2, 1) := by decide +kernel
theorem dL_commit_1 : decode cL_commit 1 = .ok (.iconst 0, 1) := by decide +kernel
theorem dL_commit_2 : decode cL_commit 2 = .ok (.aload_n 0, 1) := by decide +kernel
theorem dL_commit_3 : decode cL_commit 3 = .ok (.iload_n 1, 1) := by decide +kernel
theorem dL_commit_4 : decode cL_commit 4 = .ok (.invokevirtual 33, 3) := by decide +kernel
theorem dL_commit_7 : decode cL_commit 7 = .ok (.i2l, 1) := by decide +kernel
theorem dL_commit_8 : decode cL_commit 8 = .ok (.lastore, 1) := by decide +kernel
theorem dL_commit_9 : decode cL_commit 9 = .ok (.goto 9, 3) := by decide +kernel
theorem dL_commit_12 : decode cL_commit 12 = .ok (.astore_n 3, 1) := by decide +kernel
theorem dL_commit_13 : decode cL_commit 13 = .ok (.iconst 1, 1) := by decide +kernel
theorem dL_commit_14 : decode cL_commit 14 = .ok (.ireturn, 1) := by decide +kernel
theorem dL_commit_15 : decode cL_commit 15 = .ok (.astore_n 3, 1) := by decide +kernel
theorem dL_commit_16 : decode cL_commit 16 = .ok (.iconst 2, 1) := by decide +kernel
theorem dL_commit_17 : decode cL_commit 17 = .ok (.ireturn, 1) := by decide +kernel
theorem dL_commit_18 : decode cL_commit 18 = .ok (.iconst 0, 1) := by decide +kernel
theorem dL_commit_19 : decode cL_commit 19 = .ok (.ireturn, 1) := by decide +kernel
set_option maxRecDepth 20000 in
theorem ggL_beginCheckpoint_X4_beginCheckpoint : GoodIn wsL_beginCheckpoint wsX4_beginCheckpoint := goodIn_ca (goodIn_r _ [6, 7, 8, 9, 10, 11, 12, 13, 14, 5, 15, 16, 17, 18, 19, 20, 21, 22, 23, 24, 25, 26, 27, 28, 29, 30, 31, 32, 33, 34, 35, 36, 37, 38, 39, 40, 41] (by decide +kernel) (by decide +kernel)) (goodIn_sub (fun _ h => List.mem_cons_of_mem _ (List.mem_append_right _ h)) (by decide +kernel))
set_option maxRecDepth 20000 in
theorem gL_beginCheckpoint_X4_beginCheckpoint : GoodIn wsL_beginCheckpoint (wsV RL 36 RX4 yX4_beginCheckpoint wsX4_beginCheckpoint) := goodIn_app (goodIn_of _ (by decide +kernel)) ggL_beginCheckpoint_X4_beginCheckpoint
theorem dL_beginCheckpoint_0 : decode cL_beginCheckpoint 0 = .ok (.aload_n 1, 1) := by decide +kernel
theorem dL_beginCheckpoint_1 : decode cL_beginCheckpoint 1 = .ok (.iconst 0, 1) := by decide +kernel
theorem dL_beginCheckpoint_2 : decode cL_beginCheckpoint 2 = .ok (.aload_n 0, 1) := by decide +kernel
theorem dL_beginCheckpoint_3 : decode cL_beginCheckpoint 3 = .ok (.invokevirtual 36, 3) := by decide +kernel
theorem dL_beginCheckpoint_6 : decode cL_beginCheckpoint 6 = .ok (.i2l, 1) := by decide +kernel
theorem dL_beginCheckpoint_7 : decode cL_beginCheckpoint 7 = .ok (.lastore, 1) := by decide +kernel
theorem dL_beginCheckpoint_8 : decode cL_beginCheckpoint 8 = .ok (.goto 6, 3) := by decide +kernel
theorem dL_beginCheckpoint_11 : decode cL_beginCheckpoint 11 = .ok (.astore_n 2, 1) := by decide +kernel
theorem dL_beginCheckpoint_12 : decode cL_beginCheckpoint 12 = .ok (.iconst 1, 1) := by decide +kernel
theorem dL_beginCheckpoint_13 : decode cL_beginCheckpoint 13 = .ok (.ireturn, 1) := by decide +kernel
theorem dL_beginCheckpoint_14 : decode cL_beginCheckpoint 14 = .ok (.iconst 0, 1) := by decide +kernel
theorem dL_beginCheckpoint_15 : decode cL_beginCheckpoint 15 = .ok (.ireturn, 1) := by decide +kernel
set_option maxRecDepth 20000 in
theorem ggL_abandon_X4_abandon : GoodIn wsL_abandon wsX4_abandon := goodIn_ca (goodIn_r _ [6, 7, 8, 9, 10, 11, 12, 13, 14, 15, 16, 17, 18, 19, 20, 21, 22, 23, 24, 25, 26, 5, 27, 28, 29, 30, 31, 32, 33, 34, 35, 36, 37, 38, 39, 40, 41, 42, 43, 44, 45, 46, 47, 48, 49, 50, 51, 52, 53, 54, 55, 56, 57, 58, 59, 60, 61, 62, 63, 64, 65, 66] (by decide +kernel) (by decide +kernel)) (goodIn_sub (fun _ h => List.mem_cons_of_mem _ (List.mem_append_right _ h)) (by decide +kernel))
set_option maxRecDepth 20000 in
theorem gL_abandon_X4_abandon : GoodIn wsL_abandon (wsV RL 40 RX4 yX4_abandon wsX4_abandon) := goodIn_app (goodIn_of _ (by decide +kernel)) ggL_abandon_X4_abandon
theorem dL_abandon_0 : decode cL_abandon 0 = .ok (.aload_n 1, 1) := by decide +kernel
theorem dL_abandon_1 : decode cL_abandon 1 = .ok (.iconst 0, 1) := by decide +kernel
theorem dL_abandon_2 : decode cL_abandon 2 = .ok (.aload_n 0, 1) := by decide +kernel
theorem dL_abandon_3 : decode cL_abandon 3 = .ok (.invokevirtual 40, 3) := by decide +kernel
theorem dL_abandon_6 : decode cL_abandon 6 = .ok (.i2l, 1) := by decide +kernel
theorem dL_abandon_7 : decode cL_abandon 7 = .ok (.lastore, 1) := by decide +kernel
theorem dL_abandon_8 : decode cL_abandon 8 = .ok (.goto 6, 3) := by decide +kernel
theorem dL_abandon_11 : decode cL_abandon 11 = .ok (.astore_n 2, 1) := by decide +kernel
theorem dL_abandon_12 : decode cL_abandon 12 = .ok (.iconst 1, 1) := by decide +kernel
theorem dL_abandon_13 : decode cL_abandon 13 = .ok (.ireturn, 1) := by decide +kernel
theorem dL_abandon_14 : decode cL_abandon 14 = .ok (.iconst 0, 1) := by decide +kernel
theorem dL_abandon_15 : decode cL_abandon 15 = .ok (.ireturn, 1) := by decide +kernel
set_option maxRecDepth 20000 in
theorem ggL_rescale_X4_rescale : GoodIn wsL_rescale wsX4_rescale := goodIn_ca (goodIn_r _ [6, 7, 8, 9, 10, 11, 5, 12, 13, 14, 15, 16, 17, 18, 19, 20, 21, 22, 23, 24, 25, 26, 27, 28, 29, 30, 31, 32, 33, 34, 35, 36, 37, 38, 39, 40, 41, 42, 43, 44, 45, 46, 47, 48, 49, 50, 51, 52, 53, 54, 55, 56, 57, 58, 59, 60, 61, 62, 63, 64, 65, 66, 67, 68, 69, 70, 71, 72, 73, 74, 75, 76, 77, 78, 79, 80, 81, 82, 83, 84, 85, 86, 87, 88, 89, 90, 91, 92, 93, 94, 95, 96, 97, 98, 99, 100, 101] (by decide +kernel) (by decide +kernel)) (goodIn_sub (fun _ h => List.mem_cons_of_mem _ (List.mem_append_right _ h)) (by decide +kernel))
set_option maxRecDepth 20000 in
theorem gL_rescale_X4_rescale : GoodIn wsL_rescale (wsV RL 43 RX4 yX4_rescale wsX4_rescale) := goodIn_app (goodIn_of _ (by decide +kernel)) ggL_rescale_X4_rescale
theorem dL_rescale_0 : decode cL_rescale 0 = .ok (.aload_n 2, 1) := by decide +kernel
theorem dL_rescale_1 : decode cL_rescale 1 = .ok (.iconst 0, 1) := by decide +kernel
theorem dL_rescale_2 : decode cL_rescale 2 = .ok (.aload_n 0, 1) := by decide +kernel
theorem dL_rescale_3 : decode cL_rescale 3 = .ok (.iload_n 1, 1) := by decide +kernel
theorem dL_rescale_4 : decode cL_rescale 4 = .ok (.invokevirtual 43, 3) := by decide +kernel
theorem dL_rescale_7 : decode cL_rescale 7 = .ok (.i2l, 1) := by decide +kernel
theorem dL_rescale_8 : decode cL_rescale 8 = .ok (.lastore, 1) := by decide +kernel
theorem dL_rescale_9 : decode cL_rescale 9 = .ok (.goto 6, 3) := by decide +kernel
theorem dL_rescale_12 : decode cL_rescale 12 = .ok (.astore_n 3, 1) := by decide +kernel
theorem dL_rescale_13 : decode cL_rescale 13 = .ok (.iconst 1, 1) := by decide +kernel
theorem dL_rescale_14 : decode cL_rescale 14 = .ok (.ireturn, 1) := by decide +kernel
theorem dL_rescale_15 : decode cL_rescale 15 = .ok (.iconst 0, 1) := by decide +kernel
theorem dL_rescale_16 : decode cL_rescale 16 = .ok (.ireturn, 1) := by decide +kernel
set_option maxRecDepth 20000 in
theorem ggL_events_X4_events : GoodIn wsL_events wsX4_events := goodIn_ca (goodIn_r _ [6, 7, 8, 9, 10, 5, 11, 12, 13, 14, 15, 16, 17, 18, 19, 20, 21, 22, 23, 24, 25, 26, 27, 28, 29] (by decide +kernel) (by decide +kernel)) (goodIn_sub (fun _ h => List.mem_cons_of_mem _ (List.mem_append_right _ h)) (by decide +kernel))
set_option maxRecDepth 20000 in
theorem gL_events_X4_events : GoodIn wsL_events (wsV RL 46 RX4 yX4_events wsX4_events) := goodIn_app (goodIn_of _ (by decide +kernel)) ggL_events_X4_events
theorem dL_events_0 : decode cL_events 0 = .ok (.aload_n 2, 1) := by decide +kernel
theorem dL_events_1 : decode cL_events 1 = .ok (.iconst 0, 1) := by decide +kernel
theorem dL_events_2 : decode cL_events 2 = .ok (.aload_n 0, 1) := by decide +kernel
theorem dL_events_3 : decode cL_events 3 = .ok (.iload_n 1, 1) := by decide +kernel
theorem dL_events_4 : decode cL_events 4 = .ok (.invokevirtual 46, 3) := by decide +kernel
theorem dL_events_7 : decode cL_events 7 = .ok (.i2l, 1) := by decide +kernel
theorem dL_events_8 : decode cL_events 8 = .ok (.lastore, 1) := by decide +kernel
theorem dL_events_9 : decode cL_events 9 = .ok (.goto 6, 3) := by decide +kernel
theorem dL_events_12 : decode cL_events 12 = .ok (.astore_n 3, 1) := by decide +kernel
theorem dL_events_13 : decode cL_events 13 = .ok (.iconst 1, 1) := by decide +kernel
theorem dL_events_14 : decode cL_events 14 = .ok (.ireturn, 1) := by decide +kernel
theorem dL_events_15 : decode cL_events 15 = .ok (.iconst 0, 1) := by decide +kernel
theorem dL_events_16 : decode cL_events 16 = .ok (.ireturn, 1) := by decide +kernel
set_option maxRecDepth 20000 in
theorem ggL_offset_X4_offset : GoodIn wsL_offset wsX4_offset := goodIn_ca (goodIn_r _ [6, 7, 8, 9, 10, 5, 11, 12, 13, 14, 15, 16, 17, 18, 19, 20, 21, 22, 23, 24, 25, 26, 27, 28, 29, 30, 31] (by decide +kernel) (by decide +kernel)) (goodIn_sub (fun _ h => List.mem_cons_of_mem _ (List.mem_append_right _ h)) (by decide +kernel))
set_option maxRecDepth 20000 in
theorem gL_offset_X4_offset : GoodIn wsL_offset (wsV RL 49 RX4 yX4_offset wsX4_offset) := goodIn_app (goodIn_of _ (by decide +kernel)) ggL_offset_X4_offset
theorem dL_offset_0 : decode cL_offset 0 = .ok (.aload_n 2, 1) := by decide +kernel
theorem dL_offset_1 : decode cL_offset 1 = .ok (.iconst 0, 1) := by decide +kernel
theorem dL_offset_2 : decode cL_offset 2 = .ok (.aload_n 0, 1) := by decide +kernel
theorem dL_offset_3 : decode cL_offset 3 = .ok (.iload_n 1, 1) := by decide +kernel
theorem dL_offset_4 : decode cL_offset 4 = .ok (.invokevirtual 49, 3) := by decide +kernel
theorem dL_offset_7 : decode cL_offset 7 = .ok (.i2l, 1) := by decide +kernel
theorem dL_offset_8 : decode cL_offset 8 = .ok (.lastore, 1) := by decide +kernel
theorem dL_offset_9 : decode cL_offset 9 = .ok (.goto 6, 3) := by decide +kernel
theorem dL_offset_12 : decode cL_offset 12 = .ok (.astore_n 3, 1) := by decide +kernel
theorem dL_offset_13 : decode cL_offset 13 = .ok (.iconst 1, 1) := by decide +kernel
theorem dL_offset_14 : decode cL_offset 14 = .ok (.ireturn, 1) := by decide +kernel
theorem dL_offset_15 : decode cL_offset 15 = .ok (.iconst 0, 1) := by decide +kernel
theorem dL_offset_16 : decode cL_offset 16 = .ok (.ireturn, 1) := by decide +kernel
set_option maxRecDepth 20000 in
theorem ggL_eventAt_X4_eventAt : GoodIn wsL_eventAt wsX4_eventAt := goodIn_ca (goodIn_r _ [6, 7, 8, 9, 10, 11, 12, 5, 13, 14, 15, 16, 17, 18, 19, 20, 21, 22, 23, 24, 25, 26, 27, 28, 29, 30, 31, 32, 33, 34, 35] (by decide +kernel) (by decide +kernel)) (goodIn_sub (fun _ h => List.mem_cons_of_mem _ (List.mem_append_right _ h)) (by decide +kernel))
set_option maxRecDepth 20000 in
theorem gL_eventAt_X4_eventAt : GoodIn wsL_eventAt (wsV RL 52 RX4 yX4_eventAt wsX4_eventAt) := goodIn_app (goodIn_of _ (by decide +kernel)) ggL_eventAt_X4_eventAt
theorem dL_eventAt_0 : decode cL_eventAt 0 = .ok (.aload_n 3, 1) := by decide +kernel
theorem dL_eventAt_1 : decode cL_eventAt 1 = .ok (.iconst 0, 1) := by decide +kernel
theorem dL_eventAt_2 : decode cL_eventAt 2 = .ok (.aload_n 0, 1) := by decide +kernel
theorem dL_eventAt_3 : decode cL_eventAt 3 = .ok (.iload_n 1, 1) := by decide +kernel
theorem dL_eventAt_4 : decode cL_eventAt 4 = .ok (.iload_n 2, 1) := by decide +kernel
theorem dL_eventAt_5 : decode cL_eventAt 5 = .ok (.invokevirtual 52, 3) := by decide +kernel
theorem dL_eventAt_8 : decode cL_eventAt 8 = .ok (.i2l, 1) := by decide +kernel
theorem dL_eventAt_9 : decode cL_eventAt 9 = .ok (.lastore, 1) := by decide +kernel
theorem dL_eventAt_10 : decode cL_eventAt 10 = .ok (.goto 7, 3) := by decide +kernel
theorem dL_eventAt_13 : decode cL_eventAt 13 = .ok (.astore 4, 2) := by decide +kernel
theorem dL_eventAt_15 : decode cL_eventAt 15 = .ok (.iconst 1, 1) := by decide +kernel
theorem dL_eventAt_16 : decode cL_eventAt 16 = .ok (.ireturn, 1) := by decide +kernel
theorem dL_eventAt_17 : decode cL_eventAt 17 = .ok (.iconst 0, 1) := by decide +kernel
theorem dL_eventAt_18 : decode cL_eventAt 18 = .ok (.ireturn, 1) := by decide +kernel
set_option maxRecDepth 20000 in
theorem ggL_queued_X4_queued : GoodIn wsL_queued wsX4_queued := goodIn_ca (goodIn_r _ [6, 7, 8, 9, 5, 10, 11, 12, 13, 14, 15, 16, 17, 18, 19, 20, 21, 22, 23, 24, 25, 26, 27, 28, 29, 30, 31, 32, 33, 34, 35, 36, 37, 38, 39, 40, 41, 42, 43] (by decide +kernel) (by decide +kernel)) (goodIn_sub (fun _ h => List.mem_cons_of_mem _ (List.mem_append_right _ h)) (by decide +kernel))
set_option maxRecDepth 20000 in
theorem gL_queued_X4_queued : GoodIn wsL_queued (wsV RL 55 RX4 yX4_queued wsX4_queued) := goodIn_app (goodIn_of _ (by decide +kernel)) ggL_queued_X4_queued
theorem dL_queued_0 : decode cL_queued 0 = .ok (.aload_n 3, 1) := by decide +kernel
theorem dL_queued_1 : decode cL_queued 1 = .ok (.iconst 0, 1) := by decide +kernel
theorem dL_queued_2 : decode cL_queued 2 = .ok (.aload_n 0, 1) := by decide +kernel
theorem dL_queued_3 : decode cL_queued 3 = .ok (.iload_n 1, 1) := by decide +kernel
theorem dL_queued_4 : decode cL_queued 4 = .ok (.iload_n 2, 1) := by decide +kernel
theorem dL_queued_5 : decode cL_queued 5 = .ok (.invokevirtual 55, 3) := by decide +kernel
theorem dL_queued_8 : decode cL_queued 8 = .ok (.i2l, 1) := by decide +kernel
theorem dL_queued_9 : decode cL_queued 9 = .ok (.lastore, 1) := by decide +kernel
theorem dL_queued_10 : decode cL_queued 10 = .ok (.goto 7, 3) := by decide +kernel
theorem dL_queued_13 : decode cL_queued 13 = .ok (.astore 4, 2) := by decide +kernel
theorem dL_queued_15 : decode cL_queued 15 = .ok (.iconst 1, 1) := by decide +kernel
theorem dL_queued_16 : decode cL_queued 16 = .ok (.ireturn, 1) := by decide +kernel
theorem dL_queued_17 : decode cL_queued 17 = .ok (.iconst 0, 1) := by decide +kernel
theorem dL_queued_18 : decode cL_queued 18 = .ok (.ireturn, 1) := by decide +kernel
set_option maxRecDepth 20000 in
theorem ggL_itemAt_X4_itemAt : GoodIn wsL_itemAt wsX4_itemAt := goodIn_ca (goodIn_r _ [6, 7, 8, 9, 10, 11, 5, 12, 13, 14, 15, 16, 17, 18, 19, 20, 21, 22, 23, 24, 25, 26, 27, 28, 29, 30, 31, 32, 33, 34, 35, 36, 37, 38, 39, 40, 41, 42, 43, 44, 45, 46, 47, 48] (by decide +kernel) (by decide +kernel)) (goodIn_sub (fun _ h => List.mem_cons_of_mem _ (List.mem_append_right _ h)) (by decide +kernel))
set_option maxRecDepth 20000 in
theorem gL_itemAt_X4_itemAt : GoodIn wsL_itemAt (wsV RL 58 RX4 yX4_itemAt wsX4_itemAt) := goodIn_app (goodIn_of _ (by decide +kernel)) ggL_itemAt_X4_itemAt
theorem dL_itemAt_0 : decode cL_itemAt 0 = .ok (.aload 4, 2) := by decide +kernel
theorem dL_itemAt_2 : decode cL_itemAt 2 = .ok (.iconst 0, 1) := by decide +kernel
theorem dL_itemAt_3 : decode cL_itemAt 3 = .ok (.aload_n 0, 1) := by decide +kernel
theorem dL_itemAt_4 : decode cL_itemAt 4 = .ok (.iload_n 1, 1) := by decide +kernel
theorem dL_itemAt_5 : decode cL_itemAt 5 = .ok (.iload_n 2, 1) := by decide +kernel
theorem dL_itemAt_6 : decode cL_itemAt 6 = .ok (.iload_n 3, 1) := by decide +kernel
theorem dL_itemAt_7 : decode cL_itemAt 7 = .ok (.invokevirtual 58, 3) := by decide +kernel
theorem dL_itemAt_10 : decode cL_itemAt 10 = .ok (.i2l, 1) := by decide +kernel
theorem dL_itemAt_11 : decode cL_itemAt 11 = .ok (.lastore, 1) := by decide +kernel
theorem dL_itemAt_12 : decode cL_itemAt 12 = .ok (.goto 7, 3) := by decide +kernel
theorem dL_itemAt_15 : decode cL_itemAt 15 = .ok (.astore 5, 2) := by decide +kernel
theorem dL_itemAt_17 : decode cL_itemAt 17 = .ok (.iconst 1, 1) := by decide +kernel
theorem dL_itemAt_18 : decode cL_itemAt 18 = .ok (.ireturn, 1) := by decide +kernel
theorem dL_itemAt_19 : decode cL_itemAt 19 = .ok (.iconst 0, 1) := by decide +kernel
theorem dL_itemAt_20 : decode cL_itemAt 20 = .ok (.ireturn, 1) := by decide +kernel
set_option maxRecDepth 20000 in
theorem ggL_isBlocked_X4_isBlocked : GoodIn wsL_isBlocked wsX4_isBlocked := goodIn_ca (goodIn_r _ [6, 7, 8, 9, 5, 10, 11, 12, 13, 14, 15, 16, 17, 18, 19, 20, 21, 22, 23, 24, 25, 26, 27, 28, 29, 30, 31, 32, 33, 34, 35, 36, 37, 38, 39, 40, 41, 42, 43] (by decide +kernel) (by decide +kernel)) (goodIn_sub (fun _ h => List.mem_cons_of_mem _ (List.mem_append_right _ h)) (by decide +kernel))
set_option maxRecDepth 20000 in
theorem gL_isBlocked_X4_isBlocked : GoodIn wsL_isBlocked (wsV RL 61 RX4 yX4_isBlocked wsX4_isBlocked) := goodIn_app (goodIn_of _ (by decide +kernel)) ggL_isBlocked_X4_isBlocked
theorem dL_isBlocked_0 : decode cL_isBlocked 0 = .ok (.aload_n 3, 1) := by decide +kernel
theorem dL_isBlocked_1 : decode cL_isBlocked 1 = .ok (.iconst 0, 1) := by decide +kernel
theorem dL_isBlocked_2 : decode cL_isBlocked 2 = .ok (.aload_n 0, 1) := by decide +kernel
theorem dL_isBlocked_3 : decode cL_isBlocked 3 = .ok (.iload_n 1, 1) := by decide +kernel
theorem dL_isBlocked_4 : decode cL_isBlocked 4 = .ok (.iload_n 2, 1) := by decide +kernel
theorem dL_isBlocked_5 : decode cL_isBlocked 5 = .ok (.invokevirtual 61, 3) := by decide +kernel
theorem dL_isBlocked_8 : decode cL_isBlocked 8 = .ok (.ifCond .eq 7, 3) := by decide +kernel
theorem dL_isBlocked_11 : decode cL_isBlocked 11 = .ok (.lconst 1, 1) := by decide +kernel
theorem dL_isBlocked_12 : decode cL_isBlocked 12 = .ok (.goto 4, 3) := by decide +kernel
theorem dL_isBlocked_15 : decode cL_isBlocked 15 = .ok (.lconst 0, 1) := by decide +kernel
theorem dL_isBlocked_16 : decode cL_isBlocked 16 = .ok (.lastore, 1) := by decide +kernel
theorem dL_isBlocked_17 : decode cL_isBlocked 17 = .ok (.goto 7, 3) := by decide +kernel
theorem dL_isBlocked_20 : decode cL_isBlocked 20 = .ok (.astore 4, 2) := by decide +kernel
theorem dL_isBlocked_22 : decode cL_isBlocked 22 = .ok (.iconst 1, 1) := by decide +kernel
theorem dL_isBlocked_23 : decode cL_isBlocked 23 = .ok (.ireturn, 1) := by decide +kernel
theorem dL_isBlocked_24 : decode cL_isBlocked 24 = .ok (.iconst 0, 1) := by decide +kernel
theorem dL_isBlocked_25 : decode cL_isBlocked 25 = .ok (.ireturn, 1) := by decide +kernel
set_option maxRecDepth 20000 in
theorem ggL_workerOf_X4_workerOf : GoodIn wsL_workerOf wsX4_workerOf := goodIn_ca (goodIn_r _ [6, 7, 8, 5, 9, 10, 11, 12, 13, 14, 15, 16, 17, 18, 19, 20, 21, 22, 23, 24, 25, 26, 27, 28, 29, 30, 31, 32, 33] (by decide +kernel) (by decide +kernel)) (goodIn_sub (fun _ h => List.mem_cons_of_mem _ (List.mem_append_right _ h)) (by decide +kernel))
set_option maxRecDepth 20000 in
theorem gL_workerOf_X4_workerOf : GoodIn wsL_workerOf (wsV RL 65 RX4 yX4_workerOf wsX4_workerOf) := goodIn_app (goodIn_of _ (by decide +kernel)) ggL_workerOf_X4_workerOf
theorem dL_workerOf_0 : decode cL_workerOf 0 = .ok (.aload_n 2, 1) := by decide +kernel
theorem dL_workerOf_1 : decode cL_workerOf 1 = .ok (.iconst 0, 1) := by decide +kernel
theorem dL_workerOf_2 : decode cL_workerOf 2 = .ok (.aload_n 0, 1) := by decide +kernel
theorem dL_workerOf_3 : decode cL_workerOf 3 = .ok (.iload_n 1, 1) := by decide +kernel
theorem dL_workerOf_4 : decode cL_workerOf 4 = .ok (.invokevirtual 65, 3) := by decide +kernel
theorem dL_workerOf_7 : decode cL_workerOf 7 = .ok (.i2l, 1) := by decide +kernel
theorem dL_workerOf_8 : decode cL_workerOf 8 = .ok (.lastore, 1) := by decide +kernel
theorem dL_workerOf_9 : decode cL_workerOf 9 = .ok (.goto 6, 3) := by decide +kernel
theorem dL_workerOf_12 : decode cL_workerOf 12 = .ok (.astore_n 3, 1) := by decide +kernel
theorem dL_workerOf_13 : decode cL_workerOf 13 = .ok (.iconst 1, 1) := by decide +kernel
theorem dL_workerOf_14 : decode cL_workerOf 14 = .ok (.ireturn, 1) := by decide +kernel
theorem dL_workerOf_15 : decode cL_workerOf 15 = .ok (.iconst 0, 1) := by decide +kernel
theorem dL_workerOf_16 : decode cL_workerOf 16 = .ok (.ireturn, 1) := by decide +kernel
set_option maxRecDepth 20000 in
theorem ggL_groupsOf_X4_groupsOf : GoodIn wsL_groupsOf wsX4_groupsOf := goodIn_ca (goodIn_r _ [6, 7, 8, 9, 10, 5, 11, 12, 13, 14, 15, 16, 17, 18, 19, 20, 21, 22, 23, 24, 25, 26, 27, 28, 29, 30] (by decide +kernel) (by decide +kernel)) (goodIn_sub (fun _ h => List.mem_cons_of_mem _ (List.mem_append_right _ h)) (by decide +kernel))
set_option maxRecDepth 20000 in
theorem gL_groupsOf_X4_groupsOf : GoodIn wsL_groupsOf (wsV RL 68 RX4 yX4_groupsOf wsX4_groupsOf) := goodIn_app (goodIn_of _ (by decide +kernel)) ggL_groupsOf_X4_groupsOf
theorem dL_groupsOf_0 : decode cL_groupsOf 0 = .ok (.aload_n 2, 1) := by decide +kernel
theorem dL_groupsOf_1 : decode cL_groupsOf 1 = .ok (.iconst 0, 1) := by decide +kernel
theorem dL_groupsOf_2 : decode cL_groupsOf 2 = .ok (.aload_n 0, 1) := by decide +kernel
theorem dL_groupsOf_3 : decode cL_groupsOf 3 = .ok (.iload_n 1, 1) := by decide +kernel
theorem dL_groupsOf_4 : decode cL_groupsOf 4 = .ok (.invokevirtual 68, 3) := by decide +kernel
theorem dL_groupsOf_7 : decode cL_groupsOf 7 = .ok (.i2l, 1) := by decide +kernel
theorem dL_groupsOf_8 : decode cL_groupsOf 8 = .ok (.lastore, 1) := by decide +kernel
theorem dL_groupsOf_9 : decode cL_groupsOf 9 = .ok (.goto 6, 3) := by decide +kernel
theorem dL_groupsOf_12 : decode cL_groupsOf 12 = .ok (.astore_n 3, 1) := by decide +kernel
theorem dL_groupsOf_13 : decode cL_groupsOf 13 = .ok (.iconst 1, 1) := by decide +kernel
theorem dL_groupsOf_14 : decode cL_groupsOf 14 = .ok (.ireturn, 1) := by decide +kernel
theorem dL_groupsOf_15 : decode cL_groupsOf 15 = .ok (.iconst 0, 1) := by decide +kernel
theorem dL_groupsOf_16 : decode cL_groupsOf 16 = .ok (.ireturn, 1) := by decide +kernel
set_option maxRecDepth 20000 in
theorem ggL_count_X4_count : GoodIn wsL_count wsX4_count := goodIn_ca (goodIn_r _ [6, 7, 8, 9, 10, 5, 11, 12, 13, 14, 15, 16, 17, 18, 19, 20, 21, 22, 23, 24, 25, 26, 27, 28, 29] (by decide +kernel) (by decide +kernel)) (goodIn_sub (fun _ h => List.mem_cons_of_mem _ (List.mem_append_right _ h)) (by decide +kernel))
set_option maxRecDepth 20000 in
theorem gL_count_X4_count : GoodIn wsL_count (wsV RL 71 RX4 yX4_count wsX4_count) := goodIn_app (goodIn_of _ (by decide +kernel)) ggL_count_X4_count
theorem dL_count_0 : decode cL_count 0 = .ok (.aload_n 2, 1) := by decide +kernel
theorem dL_count_1 : decode cL_count 1 = .ok (.iconst 0, 1) := by decide +kernel
theorem dL_count_2 : decode cL_count 2 = .ok (.aload_n 0, 1) := by decide +kernel
theorem dL_count_3 : decode cL_count 3 = .ok (.iload_n 1, 1) := by decide +kernel
theorem dL_count_4 : decode cL_count 4 = .ok (.invokevirtual 71, 3) := by decide +kernel
theorem dL_count_7 : decode cL_count 7 = .ok (.i2l, 1) := by decide +kernel
theorem dL_count_8 : decode cL_count 8 = .ok (.lastore, 1) := by decide +kernel
theorem dL_count_9 : decode cL_count 9 = .ok (.goto 6, 3) := by decide +kernel
theorem dL_count_12 : decode cL_count 12 = .ok (.astore_n 3, 1) := by decide +kernel
theorem dL_count_13 : decode cL_count 13 = .ok (.iconst 1, 1) := by decide +kernel
theorem dL_count_14 : decode cL_count 14 = .ok (.ireturn, 1) := by decide +kernel
theorem dL_count_15 : decode cL_count 15 = .ok (.iconst 0, 1) := by decide +kernel
theorem dL_count_16 : decode cL_count 16 = .ok (.ireturn, 1) := by decide +kernel
set_option maxRecDepth 20000 in
theorem ggL_sum_X4_sum : GoodIn wsL_sum wsX4_sum := goodIn_ca (goodIn_r _ [6, 7, 8, 9, 10, 5, 11, 12, 13, 14, 15, 16, 17, 18, 19, 20, 21, 22, 23, 24, 25, 26, 27, 28, 29] (by decide +kernel) (by decide +kernel)) (goodIn_sub (fun _ h => List.mem_cons_of_mem _ (List.mem_append_right _ h)) (by decide +kernel))
set_option maxRecDepth 20000 in
theorem gL_sum_X4_sum : GoodIn wsL_sum (wsV RL 74 RX4 yX4_sum wsX4_sum) := goodIn_app (goodIn_of _ (by decide +kernel)) ggL_sum_X4_sum
theorem dL_sum_0 : decode cL_sum 0 = .ok (.aload_n 2, 1) := by decide +kernel
theorem dL_sum_1 : decode cL_sum 1 = .ok (.iconst 0, 1) := by decide +kernel
theorem dL_sum_2 : decode cL_sum 2 = .ok (.aload_n 0, 1) := by decide +kernel
theorem dL_sum_3 : decode cL_sum 3 = .ok (.iload_n 1, 1) := by decide +kernel
theorem dL_sum_4 : decode cL_sum 4 = .ok (.invokevirtual 74, 3) := by decide +kernel
theorem dL_sum_7 : decode cL_sum 7 = .ok (.i2l, 1) := by decide +kernel
theorem dL_sum_8 : decode cL_sum 8 = .ok (.lastore, 1) := by decide +kernel
theorem dL_sum_9 : decode cL_sum 9 = .ok (.goto 6, 3) := by decide +kernel
theorem dL_sum_12 : decode cL_sum 12 = .ok (.astore_n 3, 1) := by decide +kernel
theorem dL_sum_13 : decode cL_sum 13 = .ok (.iconst 1, 1) := by decide +kernel
theorem dL_sum_14 : decode cL_sum 14 = .ok (.ireturn, 1) := by decide +kernel
theorem dL_sum_15 : decode cL_sum 15 = .ok (.iconst 0, 1) := by decide +kernel
theorem dL_sum_16 : decode cL_sum 16 = .ok (.ireturn, 1) := by decide +kernel
set_option maxRecDepth 20000 in
theorem ggL_open_X4_open : GoodIn wsL_open wsX4_open := goodIn_ca (goodIn_r _ [6, 7, 8, 9, 10, 11, 5, 12, 13, 14, 15, 16, 17, 18, 19, 20, 21, 22, 23, 24, 25, 26, 27, 28, 29, 30, 31, 32, 33, 34, 35, 36, 37, 38] (by decide +kernel) (by decide +kernel)) (goodIn_sub (fun _ h => List.mem_cons_of_mem _ (List.mem_append_right _ h)) (by decide +kernel))
set_option maxRecDepth 20000 in
theorem gL_open_X4_open : GoodIn wsL_open (wsV RL 77 RX4 yX4_open wsX4_open) := goodIn_app (goodIn_of _ (by decide +kernel)) ggL_open_X4_open
theorem dL_open_0 : decode cL_open 0 = .ok (.aload_n 2, 1) := by decide +kernel
theorem dL_open_1 : decode cL_open 1 = .ok (.iconst 0, 1) := by decide +kernel
theorem dL_open_2 : decode cL_open 2 = .ok (.aload_n 0, 1) := by decide +kernel
theorem dL_open_3 : decode cL_open 3 = .ok (.iload_n 1, 1) := by decide +kernel
theorem dL_open_4 : decode cL_open 4 = .ok (.invokevirtual 77, 3) := by decide +kernel
theorem dL_open_7 : decode cL_open 7 = .ok (.i2l, 1) := by decide +kernel
theorem dL_open_8 : decode cL_open 8 = .ok (.lastore, 1) := by decide +kernel
theorem dL_open_9 : decode cL_open 9 = .ok (.goto 6, 3) := by decide +kernel
theorem dL_open_12 : decode cL_open 12 = .ok (.astore_n 3, 1) := by decide +kernel
theorem dL_open_13 : decode cL_open 13 = .ok (.iconst 1, 1) := by decide +kernel
theorem dL_open_14 : decode cL_open 14 = .ok (.ireturn, 1) := by decide +kernel
theorem dL_open_15 : decode cL_open 15 = .ok (.iconst 0, 1) := by decide +kernel
theorem dL_open_16 : decode cL_open 16 = .ok (.ireturn, 1) := by decide +kernel
set_option maxRecDepth 20000 in
theorem ggL_sealed_X4_sealed : GoodIn wsL_sealed wsX4_sealed := goodIn_ca (goodIn_r _ [6, 7, 8, 9, 10, 5, 11, 12, 13, 14, 15, 16, 17, 18, 19, 20, 21, 22, 23, 24, 25, 26, 27, 28] (by decide +kernel) (by decide +kernel)) (goodIn_sub (fun _ h => List.mem_cons_of_mem _ (List.mem_append_right _ h)) (by decide +kernel))
set_option maxRecDepth 20000 in
theorem gL_sealed_X4_sealed : GoodIn wsL_sealed (wsV RL 80 RX4 yX4_sealed wsX4_sealed) := goodIn_app (goodIn_of _ (by decide +kernel)) ggL_sealed_X4_sealed
theorem dL_sealed_0 : decode cL_sealed 0 = .ok (.aload_n 2, 1) := by decide +kernel
theorem dL_sealed_1 : decode cL_sealed 1 = .ok (.iconst 0, 1) := by decide +kernel
theorem dL_sealed_2 : decode cL_sealed 2 = .ok (.aload_n 0, 1) := by decide +kernel
theorem dL_sealed_3 : decode cL_sealed 3 = .ok (.iload_n 1, 1) := by decide +kernel
theorem dL_sealed_4 : decode cL_sealed 4 = .ok (.invokevirtual 80, 3) := by decide +kernel
theorem dL_sealed_7 : decode cL_sealed 7 = .ok (.i2l, 1) := by decide +kernel
theorem dL_sealed_8 : decode cL_sealed 8 = .ok (.lastore, 1) := by decide +kernel
theorem dL_sealed_9 : decode cL_sealed 9 = .ok (.goto 6, 3) := by decide +kernel
theorem dL_sealed_12 : decode cL_sealed 12 = .ok (.astore_n 3, 1) := by decide +kernel
theorem dL_sealed_13 : decode cL_sealed 13 = .ok (.iconst 1, 1) := by decide +kernel
theorem dL_sealed_14 : decode cL_sealed 14 = .ok (.ireturn, 1) := by decide +kernel
theorem dL_sealed_15 : decode cL_sealed 15 = .ok (.iconst 0, 1) := by decide +kernel
theorem dL_sealed_16 : decode cL_sealed 16 = .ok (.ireturn, 1) := by decide +kernel
set_option maxRecDepth 20000 in
theorem ggL_hasSent_X4_hasSent : GoodIn wsL_hasSent wsX4_hasSent := goodIn_ca (goodIn_r _ [6, 7, 8, 9, 10, 11, 5, 12, 13, 14, 15, 16, 17, 18, 19, 20, 21, 22, 23, 24, 25, 26, 27, 28, 29, 30, 31, 32] (by decide +kernel) (by decide +kernel)) (goodIn_sub (fun _ h => List.mem_cons_of_mem _ (List.mem_append_right _ h)) (by decide +kernel))
set_option maxRecDepth 20000 in
theorem gL_hasSent_X4_hasSent : GoodIn wsL_hasSent (wsV RL 83 RX4 yX4_hasSent wsX4_hasSent) := goodIn_app (goodIn_of _ (by decide +kernel)) ggL_hasSent_X4_hasSent
theorem dL_hasSent_0 : decode cL_hasSent 0 = .ok (.aload_n 2, 1) := by decide +kernel
theorem dL_hasSent_1 : decode cL_hasSent 1 = .ok (.iconst 0, 1) := by decide +kernel
theorem dL_hasSent_2 : decode cL_hasSent 2 = .ok (.aload_n 0, 1) := by decide +kernel
theorem dL_hasSent_3 : decode cL_hasSent 3 = .ok (.iload_n 1, 1) := by decide +kernel
theorem dL_hasSent_4 : decode cL_hasSent 4 = .ok (.invokevirtual 83, 3) := by decide +kernel
theorem dL_hasSent_7 : decode cL_hasSent 7 = .ok (.ifCond .eq 7, 3) := by decide +kernel
theorem dL_hasSent_10 : decode cL_hasSent 10 = .ok (.lconst 1, 1) := by decide +kernel
theorem dL_hasSent_11 : decode cL_hasSent 11 = .ok (.goto 4, 3) := by decide +kernel
theorem dL_hasSent_14 : decode cL_hasSent 14 = .ok (.lconst 0, 1) := by decide +kernel
theorem dL_hasSent_15 : decode cL_hasSent 15 = .ok (.lastore, 1) := by decide +kernel
theorem dL_hasSent_16 : decode cL_hasSent 16 = .ok (.goto 6, 3) := by decide +kernel
theorem dL_hasSent_19 : decode cL_hasSent 19 = .ok (.astore_n 3, 1) := by decide +kernel
theorem dL_hasSent_20 : decode cL_hasSent 20 = .ok (.iconst 1, 1) := by decide +kernel
theorem dL_hasSent_21 : decode cL_hasSent 21 = .ok (.ireturn, 1) := by decide +kernel
theorem dL_hasSent_22 : decode cL_hasSent 22 = .ok (.iconst 0, 1) := by decide +kernel
theorem dL_hasSent_23 : decode cL_hasSent 23 = .ok (.ireturn, 1) := by decide +kernel
set_option maxRecDepth 20000 in
theorem ggL_keptOffset_X4_keptOffset : GoodIn wsL_keptOffset wsX4_keptOffset := goodIn_ca (goodIn_r _ [6, 7, 8, 9, 10, 5, 11, 12, 13, 14, 15, 16, 17, 18, 19, 20, 21, 22, 23, 24, 25, 26, 27, 28, 29, 30, 31] (by decide +kernel) (by decide +kernel)) (goodIn_sub (fun _ h => List.mem_cons_of_mem _ (List.mem_append_right _ h)) (by decide +kernel))
set_option maxRecDepth 20000 in
theorem gL_keptOffset_X4_keptOffset : GoodIn wsL_keptOffset (wsV RL 87 RX4 yX4_keptOffset wsX4_keptOffset) := goodIn_app (goodIn_of _ (by decide +kernel)) ggL_keptOffset_X4_keptOffset
theorem dL_keptOffset_0 : decode cL_keptOffset 0 = .ok (.aload_n 2, 1) := by decide +kernel
theorem dL_keptOffset_1 : decode cL_keptOffset 1 = .ok (.iconst 0, 1) := by decide +kernel
theorem dL_keptOffset_2 : decode cL_keptOffset 2 = .ok (.aload_n 0, 1) := by decide +kernel
theorem dL_keptOffset_3 : decode cL_keptOffset 3 = .ok (.iload_n 1, 1) := by decide +kernel
theorem dL_keptOffset_4 : decode cL_keptOffset 4 = .ok (.invokevirtual 87, 3) := by decide +kernel
theorem dL_keptOffset_7 : decode cL_keptOffset 7 = .ok (.i2l, 1) := by decide +kernel
theorem dL_keptOffset_8 : decode cL_keptOffset 8 = .ok (.lastore, 1) := by decide +kernel
theorem dL_keptOffset_9 : decode cL_keptOffset 9 = .ok (.goto 6, 3) := by decide +kernel
theorem dL_keptOffset_12 : decode cL_keptOffset 12 = .ok (.astore_n 3, 1) := by decide +kernel
theorem dL_keptOffset_13 : decode cL_keptOffset 13 = .ok (.iconst 1, 1) := by decide +kernel
theorem dL_keptOffset_14 : decode cL_keptOffset 14 = .ok (.ireturn, 1) := by decide +kernel
theorem dL_keptOffset_15 : decode cL_keptOffset 15 = .ok (.iconst 0, 1) := by decide +kernel
theorem dL_keptOffset_16 : decode cL_keptOffset 16 = .ok (.ireturn, 1) := by decide +kernel
set_option maxRecDepth 20000 in
theorem ggL_keptSum_X4_keptSum : GoodIn wsL_keptSum wsX4_keptSum := goodIn_ca (goodIn_r _ [6, 7, 8, 9, 10, 5, 11, 12, 13, 14, 15, 16, 17, 18, 19, 20, 21, 22, 23, 24, 25, 26, 27, 28, 29] (by decide +kernel) (by decide +kernel)) (goodIn_sub (fun _ h => List.mem_cons_of_mem _ (List.mem_append_right _ h)) (by decide +kernel))
set_option maxRecDepth 20000 in
theorem gL_keptSum_X4_keptSum : GoodIn wsL_keptSum (wsV RL 90 RX4 yX4_keptSum wsX4_keptSum) := goodIn_app (goodIn_of _ (by decide +kernel)) ggL_keptSum_X4_keptSum
theorem dL_keptSum_0 : decode cL_keptSum 0 = .ok (.aload_n 2, 1) := by decide +kernel
theorem dL_keptSum_1 : decode cL_keptSum 1 = .ok (.iconst 0, 1) := by decide +kernel
theorem dL_keptSum_2 : decode cL_keptSum 2 = .ok (.aload_n 0, 1) := by decide +kernel
theorem dL_keptSum_3 : decode cL_keptSum 3 = .ok (.iload_n 1, 1) := by decide +kernel
theorem dL_keptSum_4 : decode cL_keptSum 4 = .ok (.invokevirtual 90, 3) := by decide +kernel
theorem dL_keptSum_7 : decode cL_keptSum 7 = .ok (.i2l, 1) := by decide +kernel
theorem dL_keptSum_8 : decode cL_keptSum 8 = .ok (.lastore, 1) := by decide +kernel
theorem dL_keptSum_9 : decode cL_keptSum 9 = .ok (.goto 6, 3) := by decide +kernel
theorem dL_keptSum_12 : decode cL_keptSum 12 = .ok (.astore_n 3, 1) := by decide +kernel
theorem dL_keptSum_13 : decode cL_keptSum 13 = .ok (.iconst 1, 1) := by decide +kernel
theorem dL_keptSum_14 : decode cL_keptSum 14 = .ok (.ireturn, 1) := by decide +kernel
theorem dL_keptSum_15 : decode cL_keptSum 15 = .ok (.iconst 0, 1) := by decide +kernel
theorem dL_keptSum_16 : decode cL_keptSum 16 = .ok (.ireturn, 1) := by decide +kernel
set_option maxRecDepth 20000 in
theorem ggL_committedCount_X4_committedCount : GoodIn wsL_committedCount wsX4_committedCount := goodIn_ca (goodIn_r _ [6, 7, 8, 9, 10, 5, 11, 12, 13, 14, 15, 16, 17, 18, 19, 20, 21, 22, 23, 24, 25, 26, 27, 28, 29] (by decide +kernel) (by decide +kernel)) (goodIn_sub (fun _ h => List.mem_cons_of_mem _ (List.mem_append_right _ h)) (by decide +kernel))
set_option maxRecDepth 20000 in
theorem gL_committedCount_X4_committedCount : GoodIn wsL_committedCount (wsV RL 93 RX4 yX4_committedCount wsX4_committedCount) := goodIn_app (goodIn_of _ (by decide +kernel)) ggL_committedCount_X4_committedCount
theorem dL_committedCount_0 : decode cL_committedCount 0 = .ok (.aload_n 2, 1) := by decide +kernel
theorem dL_committedCount_1 : decode cL_committedCount 1 = .ok (.iconst 0, 1) := by decide +kernel
theorem dL_committedCount_2 : decode cL_committedCount 2 = .ok (.aload_n 0, 1) := by decide +kernel
theorem dL_committedCount_3 : decode cL_committedCount 3 = .ok (.iload_n 1, 1) := by decide +kernel
theorem dL_committedCount_4 : decode cL_committedCount 4 = .ok (.invokevirtual 93, 3) := by decide +kernel
theorem dL_committedCount_7 : decode cL_committedCount 7 = .ok (.i2l, 1) := by decide +kernel
theorem dL_committedCount_8 : decode cL_committedCount 8 = .ok (.lastore, 1) := by decide +kernel
theorem dL_committedCount_9 : decode cL_committedCount 9 = .ok (.goto 6, 3) := by decide +kernel
theorem dL_committedCount_12 : decode cL_committedCount 12 = .ok (.astore_n 3, 1) := by decide +kernel
theorem dL_committedCount_13 : decode cL_committedCount 13 = .ok (.iconst 1, 1) := by decide +kernel
theorem dL_committedCount_14 : decode cL_committedCount 14 = .ok (.ireturn, 1) := by decide +kernel
theorem dL_committedCount_15 : decode cL_committedCount 15 = .ok (.iconst 0, 1) := by decide +kernel
theorem dL_committedCount_16 : decode cL_committedCount 16 = .ok (.ireturn, 1) := by decide +kernel
set_option maxRecDepth 20000 in
theorem ggL_committedSum_X4_committedSum : GoodIn wsL_committedSum wsX4_committedSum := goodIn_ca (goodIn_r _ [6, 7, 8, 9, 10, 5, 11, 12, 13, 14, 15, 16, 17, 18, 19, 20, 21, 22, 23, 24, 25, 26, 27, 28, 29] (by decide +kernel) (by decide +kernel)) (goodIn_sub (fun _ h => List.mem_cons_of_mem _ (List.mem_append_right _ h)) (by decide +kernel))
set_option maxRecDepth 20000 in
theorem gL_committedSum_X4_committedSum : GoodIn wsL_committedSum (wsV RL 96 RX4 yX4_committedSum wsX4_committedSum) := goodIn_app (goodIn_of _ (by decide +kernel)) ggL_committedSum_X4_committedSum
theorem dL_committedSum_0 : decode cL_committedSum 0 = .ok (.aload_n 2, 1) := by decide +kernel
theorem dL_committedSum_1 : decode cL_committedSum 1 = .ok (.iconst 0, 1) := by decide +kernel
theorem dL_committedSum_2 : decode cL_committedSum 2 = .ok (.aload_n 0, 1) := by decide +kernel
theorem dL_committedSum_3 : decode cL_committedSum 3 = .ok (.iload_n 1, 1) := by decide +kernel
theorem dL_committedSum_4 : decode cL_committedSum 4 = .ok (.invokevirtual 96, 3) := by decide +kernel
theorem dL_committedSum_7 : decode cL_committedSum 7 = .ok (.i2l, 1) := by decide +kernel
theorem dL_committedSum_8 : decode cL_committedSum 8 = .ok (.lastore, 1) := by decide +kernel
theorem dL_committedSum_9 : decode cL_committedSum 9 = .ok (.goto 6, 3) := by decide +kernel
theorem dL_committedSum_12 : decode cL_committedSum 12 = .ok (.astore_n 3, 1) := by decide +kernel
theorem dL_committedSum_13 : decode cL_committedSum 13 = .ok (.iconst 1, 1) := by decide +kernel
theorem dL_committedSum_14 : decode cL_committedSum 14 = .ok (.ireturn, 1) := by decide +kernel
theorem dL_committedSum_15 : decode cL_committedSum 15 = .ok (.iconst 0, 1) := by decide +kernel
theorem dL_committedSum_16 : decode cL_committedSum 16 = .ok (.ireturn, 1) := by decide +kernel
set_option maxRecDepth 20000 in
theorem ggL_readSum_X4_readSum : GoodIn wsL_readSum wsX4_readSum := goodIn_ca (goodIn_r _ [6, 7, 8, 9, 10, 11, 5, 12, 13, 14, 15, 16, 17, 18, 19, 20, 21, 22, 23, 24, 25, 26, 27, 28, 29, 30, 31, 32, 33, 34, 35, 36, 37, 38, 39, 40, 41, 42, 43, 44, 45, 46, 47, 48] (by decide +kernel) (by decide +kernel)) (goodIn_sub (fun _ h => List.mem_cons_of_mem _ (List.mem_append_right _ h)) (by decide +kernel))
set_option maxRecDepth 20000 in
theorem gL_readSum_X4_readSum : GoodIn wsL_readSum (wsV RL 99 RX4 yX4_readSum wsX4_readSum) := goodIn_app (goodIn_of _ (by decide +kernel)) ggL_readSum_X4_readSum
theorem dL_readSum_0 : decode cL_readSum 0 = .ok (.aload_n 2, 1) := by decide +kernel
theorem dL_readSum_1 : decode cL_readSum 1 = .ok (.iconst 0, 1) := by decide +kernel
theorem dL_readSum_2 : decode cL_readSum 2 = .ok (.aload_n 0, 1) := by decide +kernel
theorem dL_readSum_3 : decode cL_readSum 3 = .ok (.iload_n 1, 1) := by decide +kernel
theorem dL_readSum_4 : decode cL_readSum 4 = .ok (.invokevirtual 99, 3) := by decide +kernel
theorem dL_readSum_7 : decode cL_readSum 7 = .ok (.i2l, 1) := by decide +kernel
theorem dL_readSum_8 : decode cL_readSum 8 = .ok (.lastore, 1) := by decide +kernel
theorem dL_readSum_9 : decode cL_readSum 9 = .ok (.goto 6, 3) := by decide +kernel
theorem dL_readSum_12 : decode cL_readSum 12 = .ok (.astore_n 3, 1) := by decide +kernel
theorem dL_readSum_13 : decode cL_readSum 13 = .ok (.iconst 1, 1) := by decide +kernel
theorem dL_readSum_14 : decode cL_readSum 14 = .ok (.ireturn, 1) := by decide +kernel
theorem dL_readSum_15 : decode cL_readSum 15 = .ok (.iconst 0, 1) := by decide +kernel
theorem dL_readSum_16 : decode cL_readSum 16 = .ok (.ireturn, 1) := by decide +kernel
set_option maxRecDepth 20000 in
theorem ggL_sumInChannels_X4_sumInChannels : GoodIn wsL_sumInChannels wsX4_sumInChannels := goodIn_ca (goodIn_r _ [6, 7, 8, 9, 5, 10, 11, 12, 13, 14, 15, 16, 17, 18, 19, 20, 21, 22, 23, 24, 25, 26, 27, 28, 29, 30, 31, 32, 33, 34, 35, 36, 37, 38, 39, 40] (by decide +kernel) (by decide +kernel)) (goodIn_sub (fun _ h => List.mem_cons_of_mem _ (List.mem_append_right _ h)) (by decide +kernel))
set_option maxRecDepth 20000 in
theorem gL_sumInChannels_X4_sumInChannels : GoodIn wsL_sumInChannels (wsV RL 102 RX4 yX4_sumInChannels wsX4_sumInChannels) := goodIn_app (goodIn_of _ (by decide +kernel)) ggL_sumInChannels_X4_sumInChannels
theorem dL_sumInChannels_0 : decode cL_sumInChannels 0 = .ok (.aload_n 2, 1) := by decide +kernel
theorem dL_sumInChannels_1 : decode cL_sumInChannels 1 = .ok (.iconst 0, 1) := by decide +kernel
theorem dL_sumInChannels_2 : decode cL_sumInChannels 2 = .ok (.aload_n 0, 1) := by decide +kernel
theorem dL_sumInChannels_3 : decode cL_sumInChannels 3 = .ok (.iload_n 1, 1) := by decide +kernel
theorem dL_sumInChannels_4 : decode cL_sumInChannels 4 = .ok (.invokevirtual 102, 3) := by decide +kernel
theorem dL_sumInChannels_7 : decode cL_sumInChannels 7 = .ok (.i2l, 1) := by decide +kernel
theorem dL_sumInChannels_8 : decode cL_sumInChannels 8 = .ok (.lastore, 1) := by decide +kernel
theorem dL_sumInChannels_9 : decode cL_sumInChannels 9 = .ok (.goto 6, 3) := by decide +kernel
theorem dL_sumInChannels_12 : decode cL_sumInChannels 12 = .ok (.astore_n 3, 1) := by decide +kernel
theorem dL_sumInChannels_13 : decode cL_sumInChannels 13 = .ok (.iconst 1, 1) := by decide +kernel
theorem dL_sumInChannels_14 : decode cL_sumInChannels 14 = .ok (.ireturn, 1) := by decide +kernel
theorem dL_sumInChannels_15 : decode cL_sumInChannels 15 = .ok (.iconst 0, 1) := by decide +kernel
theorem dL_sumInChannels_16 : decode cL_sumInChannels 16 = .ok (.ireturn, 1) := by decide +kernel
end
section
set_option maxRecDepth 20000 in
theorem ggL_law_X4_init : GoodIn wsL_law wsX4_init := goodIn_r _ [9, 10, 11, 12, 13, 14, 15, 16, 17, 18, 19, 20, 21, 22, 23, 24, 25, 26, 27, 28, 29, 30, 31, 32, 33, 34, 35, 36, 37, 38, 39, 40, 41, 42, 43, 44, 45, 46, 47, 48, 49, 50, 51, 52, 53, 54, 55, 56, 57, 58, 59, 60, 61, 62, 63, 795, 796, 754, 755, 756, 757, 758, 759, 760, 761, 762, 763, 764, 765, 766, 767, 797, 798, 799, 800, 801, 802, 803, 804, 805] (by decide +kernel) (by decide +kernel)
set_option maxRecDepth 20000 in
theorem gL_law_X4_init : GoodIn wsL_law (wsX4_init) := ggL_law_X4_init
set_option maxRecDepth 20000 in
theorem ggL_law_X5_init : GoodIn wsL_law wsX5_init := goodIn_r _ [66, 67, 11, 12, 68, 34, 69, 70, 71, 72, 73, 50, 74, 75, 76, 77, 78, 79, 80, 81, 82, 83, 84, 85, 86, 87, 88, 89, 90, 91, 92, 93, 94, 95, 5, 96, 768, 769, 770, 771, 772, 773, 774, 775, 776, 777, 778, 779, 780, 781, 782, 783, 784, 785, 786, 787, 788, 789, 790, 791, 792, 793, 794] (by decide +kernel) (by decide +kernel)
set_option maxRecDepth 20000 in
theorem gL_law_X5_init : GoodIn wsL_law (wsX5_init) := ggL_law_X5_init
set_option maxRecDepth 20000 in
theorem ggL_law_L_append : GoodIn wsL_law wsL_append := goodIn_ca (goodIn_ca (goodIn_ca (goodIn_r _ [100, 101, 102, 103, 104, 105, 106, 2, 107, 108, 109, 110, 111, 16, 112, 113, 114, 115, 116, 117, 118, 119, 120, 121, 122, 123, 15, 124, 43, 44, 754, 755, 756, 757, 758, 759, 760, 761, 762, 763, 764, 765, 766, 767, 795, 796] (by decide +kernel) (by decide +kernel)) (goodIn_sub (fun _ h => List.mem_append_left _ (List.mem_append_left _ (List.mem_append_right _ h))) (by decide +kernel))) (goodIn_sub (fun _ h => List.mem_append_left _ (List.mem_append_right _ h)) (by decide +kernel))) (goodIn_sub (fun _ h => List.mem_append_right _ h) (by decide +kernel))
set_option maxRecDepth 20000 in
theorem gL_law_L_append : GoodIn wsL_law (va_wsS RL 109 yL_append wsL_append) := goodIn_app (goodIn_of _ (by decide +kernel)) ggL_law_L_append
set_option maxRecDepth 20000 in
theorem ggL_law_X5_append : GoodIn wsL_law wsX5_append := goodIn_r _ [128, 69, 71, 129, 130, 5, 131, 132, 133, 134, 135, 136, 137, 138, 139, 140, 141, 142, 768, 769, 770, 771, 772, 773, 774, 775, 776, 777, 778, 779, 780, 781, 782, 783, 784, 785, 786, 787, 788, 789, 790, 791, 792, 793, 794] (by decide +kernel) (by decide +kernel)
set_option maxRecDepth 20000 in
theorem gL_law_X5_append : GoodIn wsL_law (wsV RL 114 RX5 yX5_append wsX5_append) := goodIn_app (goodIn_of _ (by decide +kernel)) ggL_law_X5_append
set_option maxRecDepth 20000 in
theorem ggL_law_X5_thrown : GoodIn wsL_law wsX5_thrown := goodIn_r _ [146, 142, 768, 769, 770, 771, 772, 773, 774, 775, 776, 777, 778, 779, 780, 781, 782, 783, 784, 785, 786, 787, 788, 789, 790, 791, 792, 793, 794] (by decide +kernel) (by decide +kernel)
set_option maxRecDepth 20000 in
theorem gL_law_X5_thrown : GoodIn wsL_law (wsV RL 115 RX5 yX5_thrown wsX5_thrown) := goodIn_app (goodIn_of _ (by decide +kernel)) ggL_law_X5_thrown
set_option maxRecDepth 20000 in
theorem ggL_law_L_read : GoodIn wsL_law wsL_read := goodIn_ca (goodIn_ca (goodIn_r _ [149, 101, 103, 150, 151, 152, 2, 153, 110, 111, 113, 114, 115, 116, 117, 154, 155, 156, 157, 20, 158, 16, 112, 24, 159, 160, 161, 15, 162, 44, 163, 164, 165, 166, 167, 168, 169, 36, 170, 171, 172, 173, 174, 175, 23, 176, 177, 178, 179, 180, 57, 181, 182, 183, 184, 185, 186, 187, 188, 189, 190, 191, 56, 754, 755, 756, 757, 758, 759, 760, 761, 762, 763, 764, 765, 766, 767, 797, 798, 799, 800, 795, 796, 801, 802, 803] (by decide +kernel) (by decide +kernel)) (goodIn_sub (fun _ h => List.mem_append_left _ (List.mem_append_right _ h)) (by decide +kernel))) (goodIn_sub (fun _ h => List.mem_append_right _ h) (by decide +kernel))
set_option maxRecDepth 20000 in
theorem gL_law_L_read : GoodIn wsL_law (va_wsS RL 118 yL_read wsL_read) := goodIn_app (goodIn_of _ (by decide +kernel)) ggL_law_L_read
set_option maxRecDepth 20000 in
theorem ggL_law_X5_read : GoodIn wsL_law wsX5_read := goodIn_r _ [195, 129, 130, 5, 131, 132, 133, 134, 196, 197, 198, 199, 70, 69, 73, 200, 201, 202, 203, 71, 204, 205, 206, 207, 68, 208, 209, 210, 211, 212, 213, 138, 139, 140, 141, 142, 214, 215, 216, 217, 218, 219, 220, 221, 72, 768, 769, 770, 771, 772, 773, 774, 775, 776, 777, 778, 779, 780, 781, 782, 783, 784, 785, 786, 787, 788, 789, 790, 791, 792, 793, 794] (by decide +kernel) (by decide +kernel)
set_option maxRecDepth 20000 in
theorem gL_law_X5_read : GoodIn wsL_law (wsV RL 121 RX5 yX5_read wsX5_read) := goodIn_app (goodIn_of _ (by decide +kernel)) ggL_law_X5_read
set_option maxRecDepth 20000 in
theorem ggL_law_L_sendBarrier : GoodIn wsL_law wsL_sendBarrier := goodIn_ca (goodIn_ca (goodIn_r _ [224, 101, 103, 225, 226, 227, 2, 228, 110, 111, 38, 20, 229, 36, 24, 113, 114, 115, 116, 117, 230, 231, 232, 233, 173, 174, 175, 23, 176, 177, 178, 179, 180, 57, 181, 182, 183, 188, 189, 190, 191, 56, 234, 235, 236, 19, 237, 51, 52, 48, 754, 755, 756, 757, 758, 759, 760, 761, 762, 763, 764, 765, 766, 767, 797, 798, 799, 800, 801, 802, 803] (by decide +kernel) (by decide +kernel)) (goodIn_sub (fun _ h => List.mem_append_left _ (List.mem_append_right _ h)) (by decide +kernel))) (goodIn_sub (fun _ h => List.mem_append_right _ h) (by decide +kernel))
set_option maxRecDepth 20000 in
theorem gL_law_L_sendBarrier : GoodIn wsL_law (va_wsS RL 122 yL_sendBarrier wsL_sendBarrier) := goodIn_app (goodIn_of _ (by decide +kernel)) ggL_law_L_sendBarrier
set_option maxRecDepth 20000 in
theorem ggL_law_X5_sendBarrier : GoodIn wsL_law wsX5_sendBarrier := goodIn_r _ [241, 86, 87, 70, 68, 84, 129, 130, 5, 131, 132, 133, 134, 242, 243, 244, 245, 73, 211, 212, 213, 138, 139, 140, 141, 142, 218, 219, 220, 221, 72, 768, 769, 770, 771, 772, 773, 774, 775, 776, 777, 778, 779, 780, 781, 782, 783, 784, 785, 786, 787, 788, 789, 790, 791, 792, 793, 794] (by decide +kernel) (by decide +kernel)
set_option maxRecDepth 20000 in
theorem gL_law_X5_sendBarrier : GoodIn wsL_law (wsV RL 124 RX5 yX5_sendBarrier wsX5_sendBarrier) := goodIn_app (goodIn_of _ (by decide +kernel)) ggL_law_X5_sendBarrier
set_option maxRecDepth 20000 in
theorem ggL_law_L_take : GoodIn wsL_law wsL_take := goodIn_ca (goodIn_ca (goodIn_r _ [248, 101, 103, 249, 250, 251, 2, 252, 110, 111, 24, 253, 254, 255, 256, 116, 117, 36, 113, 114, 115, 257, 258, 259, 23, 260, 177, 178, 179, 180, 57, 181, 182, 183, 261, 262, 263, 264, 58, 265, 266, 267, 268, 38, 269, 270, 271, 272, 56, 163, 164, 165, 273, 274, 275, 276, 277, 278, 279, 28, 29, 280, 281, 282, 283, 27, 284, 62, 63, 285, 286, 287, 288, 289, 290, 291, 292, 293, 294, 295, 296, 297, 298, 299, 300, 31, 30, 35, 166, 167, 168, 169, 170, 171, 172, 301, 302, 303, 304, 305, 306, 307, 308, 309, 310, 311, 312, 313, 314, 315, 316, 317, 318, 319, 320, 321, 322, 323, 324, 325, 32, 20, 39, 326, 327, 328, 329, 330, 331, 332, 19, 333, 49, 52, 754, 755, 756, 757, 758, 759, 760, 761, 762, 763, 764, 765, 766, 767, 801, 802, 803, 804, 805, 797, 798, 799, 800] (by decide +kernel) (by decide +kernel)) (goodIn_sub (fun _ h => List.mem_append_left _ (List.mem_append_right _ h)) (by decide +kernel))) (goodIn_sub (fun _ h => List.mem_append_right _ h) (by decide +kernel))
set_option maxRecDepth 20000 in
theorem gL_law_L_take : GoodIn wsL_law (va_wsS RL 125 yL_take wsL_take) := goodIn_app (goodIn_of _ (by decide +kernel)) ggL_law_L_take
set_option maxRecDepth 20000 in
theorem ggL_law_X5_take : GoodIn wsL_law wsX5_take := goodIn_r _ [337, 338, 339, 340, 5, 341, 68, 132, 133, 134, 129, 130, 131, 342, 343, 344, 345, 73, 74, 211, 212, 213, 138, 139, 140, 141, 142, 346, 347, 348, 349, 72, 75, 77, 76, 78, 84, 350, 351, 352, 353, 88, 89, 79, 80, 81, 204, 205, 206, 207, 208, 209, 210, 354, 355, 356, 357, 85, 87, 90, 91, 92, 358, 359, 360, 768, 769, 770, 771, 772, 773, 774, 775, 776, 777, 778, 779, 780, 781, 782, 783, 784, 785, 786, 787, 788, 789, 790, 791, 792, 793, 794] (by decide +kernel) (by decide +kernel)
set_option maxRecDepth 20000 in
theorem gL_law_X5_take : GoodIn wsL_law (wsV RL 128 RX5 yX5_take wsX5_take) := goodIn_app (goodIn_of _ (by decide +kernel)) ggL_law_X5_take
set_option maxRecDepth 20000 in
theorem ggL_law_L_pump : GoodIn wsL_law wsL_pump := goodIn_ca (goodIn_r _ [363, 102, 364, 365, 366, 2, 367, 108, 109, 368, 369, 370, 371, 154, 155, 156, 157, 20, 158, 16, 112, 24, 159, 160, 161, 15, 162, 44, 163, 164, 165, 166, 167, 168, 169, 36, 170, 171, 172, 173, 174, 175, 23, 176, 177, 178, 179, 180, 57, 181, 182, 183, 184, 185, 186, 187, 188, 189, 190, 191, 56, 372, 373, 374, 375, 257, 258, 259, 260, 261, 262, 263, 264, 58, 265, 266, 267, 268, 38, 269, 270, 271, 272, 273, 274, 275, 276, 277, 278, 279, 28, 29, 280, 281, 282, 283, 27, 284, 62, 63, 285, 286, 287, 288, 289, 290, 291, 292, 293, 294, 295, 296, 297, 298, 299, 300, 31, 30, 35, 301, 302, 303, 304, 305, 306, 307, 308, 309, 310, 311, 312, 313, 314, 315, 316, 317, 318, 319, 320, 321, 322, 323, 324, 325, 32, 39, 326, 327, 328, 329, 330, 331, 332, 19, 333, 49, 52, 754, 755, 756, 757, 758, 759, 760, 761, 762, 763, 764, 765, 766, 767, 797, 798, 799, 800, 795, 796, 801, 802, 803, 804, 805] (by decide +kernel) (by decide +kernel)) (goodIn_sub (fun _ h => List.mem_append_left _ (List.mem_append_left _ (List.mem_append_right _ h))) (by decide +kernel))
set_option maxRecDepth 20000 in
theorem gL_law_L_pump : GoodIn wsL_law (va_wsS RL 129 yL_pump wsL_pump) := goodIn_app (goodIn_of _ (by decide +kernel)) ggL_law_L_pump
set_option maxRecDepth 20000 in
theorem ggL_law_X5_pump : GoodIn wsL_law wsX5_pump := goodIn_r _ [379, 68, 132, 133, 5, 134, 138, 139, 140, 141, 142, 196, 197, 198, 199, 70, 69, 73, 200, 201, 202, 203, 71, 204, 205, 206, 207, 208, 209, 210, 211, 212, 213, 214, 215, 216, 217, 218, 219, 220, 221, 72, 342, 343, 344, 345, 74, 346, 347, 348, 349, 75, 77, 76, 78, 84, 350, 351, 352, 353, 88, 89, 79, 80, 81, 354, 355, 356, 357, 85, 87, 90, 91, 92, 358, 359, 360, 768, 769, 770, 771, 772, 773, 774, 775, 776, 777, 778, 779, 780, 781, 782, 783, 784, 785, 786, 787, 788, 789, 790, 791, 792, 793, 794] (by decide +kernel) (by decide +kernel)
set_option maxRecDepth 20000 in
theorem gL_law_X5_pump : GoodIn wsL_law (wsV RL 131 RX5 yX5_pump wsX5_pump) := goodIn_app (goodIn_of _ (by decide +kernel)) ggL_law_X5_pump
set_option maxRecDepth 20000 in
theorem ggL_law_L_commit : GoodIn wsL_law wsL_commit := goodIn_ca (goodIn_ca (goodIn_r _ [382, 101, 103, 383, 384, 385, 2, 386, 110, 111, 253, 254, 255, 256, 116, 117, 36, 387, 388, 389, 390, 35, 39, 391, 392, 393, 394, 30, 33, 305, 306, 307, 308, 280, 309, 166, 167, 168, 169, 170, 171, 172, 281, 282, 283, 27, 284, 62, 63, 310, 311, 312, 313, 754, 755, 756, 757, 758, 759, 760, 761, 762, 763, 764, 765, 766, 767, 804, 805] (by decide +kernel) (by decide +kernel)) (goodIn_sub (fun _ h => List.mem_append_left _ (List.mem_append_right _ h)) (by decide +kernel))) (goodIn_sub (fun _ h => List.mem_append_right _ h) (by decide +kernel))
set_option maxRecDepth 20000 in
theorem gL_law_L_commit : GoodIn wsL_law (va_wsS RL 132 yL_commit wsL_commit) := goodIn_app (goodIn_of _ (by decide +kernel)) ggL_law_L_commit
set_option maxRecDepth 20000 in
theorem ggL_law_X5_commit : GoodIn wsL_law wsX5_commit := goodIn_r _ [398, 338, 339, 340, 5, 341, 68, 132, 133, 134, 399, 400, 401, 402, 81, 84, 138, 139, 140, 141, 142, 403, 404, 405, 406, 79, 82, 83, 80, 204, 205, 206, 207, 208, 209, 210, 768, 769, 770, 771, 772, 773, 774, 775, 776, 777, 778, 779, 780, 781, 782, 783, 784, 785, 786, 787, 788, 789, 790, 791, 792, 793, 794] (by decide +kernel) (by decide +kernel)
set_option maxRecDepth 20000 in
theorem gL_law_X5_commit : GoodIn wsL_law (wsV RL 134 RX5 yX5_commit wsX5_commit) := goodIn_app (goodIn_of _ (by decide +kernel)) ggL_law_X5_commit
set_option maxRecDepth 20000 in
theorem ggL_law_L_beginCheckpoint : GoodIn wsL_law wsL_beginCheckpoint := goodIn_ca (goodIn_r _ [409, 103, 410, 411, 412, 2, 413, 110, 111, 38, 37, 20, 414, 415, 416, 417, 36, 35, 418, 419, 420, 19, 421, 51, 754, 755, 756, 757, 758, 759, 760, 761, 762, 763, 764, 765, 766, 767, 797, 798, 799, 800] (by decide +kernel) (by decide +kernel)) (goodIn_sub (fun _ h => List.mem_append_left _ (List.mem_append_right _ h)) (by decide +kernel))
set_option maxRecDepth 20000 in
theorem gL_law_L_beginCheckpoint : GoodIn wsL_law (va_wsS RL 135 yL_beginCheckpoint wsL_beginCheckpoint) := goodIn_app (goodIn_of _ (by decide +kernel)) ggL_law_L_beginCheckpoint
set_option maxRecDepth 20000 in
theorem ggL_law_X5_beginCheckpoint : GoodIn wsL_law wsX5_beginCheckpoint := goodIn_r _ [425, 84, 426, 427, 428, 429, 5, 430, 81, 138, 139, 140, 141, 142, 431, 432, 433, 434, 74, 86, 768, 769, 770, 771, 772, 773, 774, 775, 776, 777, 778, 779, 780, 781, 782, 783, 784, 785, 786, 787, 788, 789, 790, 791, 792, 793, 794] (by decide +kernel) (by decide +kernel)
set_option maxRecDepth 20000 in
theorem gL_law_X5_beginCheckpoint : GoodIn wsL_law (wsV RL 138 RX5 yX5_beginCheckpoint wsX5_beginCheckpoint) := goodIn_app (goodIn_of _ (by decide +kernel)) ggL_law_X5_beginCheckpoint
set_option maxRecDepth 20000 in
theorem ggL_law_L_abandon : GoodIn wsL_law wsL_abandon := goodIn_ca (goodIn_r _ [437, 103, 438, 439, 440, 2, 441, 110, 111, 38, 36, 24, 35, 30, 29, 314, 315, 316, 23, 317, 58, 181, 182, 183, 305, 306, 307, 308, 280, 309, 166, 167, 168, 169, 170, 171, 172, 281, 282, 283, 27, 284, 62, 63, 310, 311, 312, 313, 754, 755, 756, 757, 758, 759, 760, 761, 762, 763, 764, 765, 766, 767, 801, 802, 803, 804, 805] (by decide +kernel) (by decide +kernel)) (goodIn_sub (fun _ h => List.mem_append_left _ (List.mem_append_right _ h)) (by decide +kernel))
set_option maxRecDepth 20000 in
theorem gL_law_L_abandon : GoodIn wsL_law (va_wsS RL 139 yL_abandon wsL_abandon) := goodIn_app (goodIn_of _ (by decide +kernel)) ggL_law_L_abandon
set_option maxRecDepth 20000 in
theorem ggL_law_X5_abandon : GoodIn wsL_law wsX5_abandon := goodIn_r _ [445, 84, 81, 77, 79, 78, 80, 138, 139, 140, 5, 141, 142, 204, 205, 206, 207, 68, 208, 209, 210, 93, 94, 95, 96, 431, 432, 433, 434, 74, 86, 768, 769, 770, 771, 772, 773, 774, 775, 776, 777, 778, 779, 780, 781, 782, 783, 784, 785, 786, 787, 788, 789, 790, 791, 792, 793, 794] (by decide +kernel) (by decide +kernel)
set_option maxRecDepth 20000 in
theorem gL_law_X5_abandon : GoodIn wsL_law (wsV RL 141 RX5 yX5_abandon wsX5_abandon) := goodIn_app (goodIn_of _ (by decide +kernel)) ggL_law_X5_abandon
set_option maxRecDepth 20000 in
theorem ggL_law_X4_crash : GoodIn wsL_law wsX4_crash := goodIn_r _ [449, 36, 39, 450, 451, 452, 2, 453, 35, 38, 29, 30, 24, 20, 28, 32, 387, 388, 389, 390, 391, 392, 393, 394, 33, 305, 306, 307, 308, 280, 309, 166, 167, 168, 169, 170, 171, 172, 281, 282, 283, 27, 284, 62, 63, 310, 311, 312, 313, 454, 455, 456, 457, 458, 459, 460, 461, 23, 462, 57, 58, 463, 464, 465, 19, 466, 48, 49, 326, 327, 328, 329, 754, 755, 756, 757, 758, 759, 760, 761, 762, 763, 764, 765, 766, 767, 804, 805, 801, 802, 803, 797, 798, 799, 800] (by decide +kernel) (by decide +kernel)
set_option maxRecDepth 20000 in
theorem gL_law_X4_crash : GoodIn wsL_law (wsV RL 142 RX4 yX4_crash wsX4_crash) := goodIn_app (goodIn_of _ (by decide +kernel)) ggL_law_X4_crash
set_option maxRecDepth 20000 in
theorem ggL_law_X5_crash : GoodIn wsL_law wsX5_crash := goodIn_r _ [470, 142, 68, 85, 471, 472, 473, 5, 474, 84, 73, 77, 78, 90, 70, 91, 75, 92, 76, 399, 400, 401, 402, 81, 403, 404, 405, 406, 79, 82, 83, 80, 204, 205, 206, 207, 208, 209, 210, 93, 94, 95, 96, 431, 432, 433, 434, 74, 86, 475, 476, 477, 358, 359, 360, 768, 769, 770, 771, 772, 773, 774, 775, 776, 777, 778, 779, 780, 781, 782, 783, 784, 785, 786, 787, 788, 789, 790, 791, 792, 793, 794] (by decide +kernel) (by decide +kernel)
set_option maxRecDepth 20000 in
theorem gL_law_X5_crash : GoodIn wsL_law (wsV RL 145 RX5 yX5_crash wsX5_crash) := goodIn_app (goodIn_of _ (by decide +kernel)) ggL_law_X5_crash
set_option maxRecDepth 20000 in
theorem ggL_law_L_rescale : GoodIn wsL_law wsL_rescale := goodIn_ca (goodIn_r _ [480, 102, 481, 482, 483, 2, 484, 108, 109, 36, 170, 171, 172, 450, 451, 452, 453, 35, 38, 29, 30, 24, 20, 28, 32, 387, 388, 389, 390, 39, 391, 392, 393, 394, 33, 305, 306, 307, 308, 280, 309, 166, 167, 168, 169, 281, 282, 283, 27, 284, 62, 63, 310, 311, 312, 313, 454, 455, 456, 457, 458, 459, 460, 461, 23, 462, 57, 58, 463, 464, 465, 19, 466, 48, 49, 326, 327, 328, 329, 754, 755, 756, 757, 758, 759, 760, 761, 762, 763, 764, 765, 766, 767, 804, 805, 801, 802, 803, 797, 798, 799, 800] (by decide +kernel) (by decide +kernel)) (goodIn_sub (fun _ h => List.mem_append_left _ (List.mem_append_left _ (List.mem_append_right _ h))) (by decide +kernel))
set_option maxRecDepth 20000 in
theorem gL_law_L_rescale : GoodIn wsL_law (va_wsS RL 146 yL_rescale wsL_rescale) := goodIn_app (goodIn_of _ (by decide +kernel)) ggL_law_L_rescale
set_option maxRecDepth 20000 in
theorem ggL_law_X5_rescale : GoodIn wsL_law wsX5_rescale := goodIn_r _ [488, 68, 132, 133, 5, 134, 138, 139, 140, 141, 142, 208, 209, 210, 471, 472, 473, 474, 84, 73, 77, 78, 90, 70, 91, 75, 92, 76, 399, 400, 401, 402, 81, 403, 404, 405, 406, 79, 82, 83, 80, 204, 205, 206, 207, 93, 94, 95, 96, 431, 432, 433, 434, 74, 86, 475, 476, 477, 358, 359, 360, 768, 769, 770, 771, 772, 773, 774, 775, 776, 777, 778, 779, 780, 781, 782, 783, 784, 785, 786, 787, 788, 789, 790, 791, 792, 793, 794] (by decide +kernel) (by decide +kernel)
set_option maxRecDepth 20000 in
theorem gL_law_X5_rescale : GoodIn wsL_law (wsV RL 148 RX5 yX5_rescale wsX5_rescale) := goodIn_app (goodIn_of _ (by decide +kernel)) ggL_law_X5_rescale
set_option maxRecDepth 20000 in
theorem ggL_law_L_events : GoodIn wsL_law wsL_events := goodIn_ca (goodIn_r _ [491, 101, 492, 493, 494, 2, 495, 16, 112, 113, 114, 115, 116, 117, 754, 755, 756, 757, 758, 759, 760, 761, 762, 763, 764, 765, 766, 767, 795, 796] (by decide +kernel) (by decide +kernel)) (goodIn_sub (fun _ h => List.mem_append_right _ h) (by decide +kernel))
set_option maxRecDepth 20000 in
theorem gL_law_L_events : GoodIn wsL_law (va_wsS RL 149 yL_events wsL_events) := goodIn_app (goodIn_of _ (by decide +kernel)) ggL_law_L_events
set_option maxRecDepth 20000 in
theorem ggL_law_X5_events : GoodIn wsL_law wsX5_events := goodIn_r _ [499, 69, 129, 130, 5, 131, 132, 133, 134, 138, 139, 140, 141, 142, 768, 769, 770, 771, 772, 773, 774, 775, 776, 777, 778, 779, 780, 781, 782, 783, 784, 785, 786, 787, 788, 789, 790, 791, 792, 793, 794] (by decide +kernel) (by decide +kernel)
set_option maxRecDepth 20000 in
theorem gL_law_X5_events : GoodIn wsL_law (wsV RL 151 RX5 yX5_events wsX5_events) := goodIn_app (goodIn_of _ (by decide +kernel)) ggL_law_X5_events
set_option maxRecDepth 20000 in
theorem ggL_law_L_offset : GoodIn wsL_law wsL_offset := goodIn_ca (goodIn_r _ [502, 101, 503, 504, 505, 2, 506, 20, 158, 113, 114, 115, 116, 117, 754, 755, 756, 757, 758, 759, 760, 761, 762, 763, 764, 765, 766, 767, 797, 798, 799, 800] (by decide +kernel) (by decide +kernel)) (goodIn_sub (fun _ h => List.mem_append_right _ h) (by decide +kernel))
set_option maxRecDepth 20000 in
theorem gL_law_L_offset : GoodIn wsL_law (va_wsS RL 152 yL_offset wsL_offset) := goodIn_app (goodIn_of _ (by decide +kernel)) ggL_law_L_offset
set_option maxRecDepth 20000 in
theorem ggL_law_X5_offset : GoodIn wsL_law wsX5_offset := goodIn_r _ [510, 70, 129, 130, 5, 131, 132, 133, 134, 138, 139, 140, 141, 142, 768, 769, 770, 771, 772, 773, 774, 775, 776, 777, 778, 779, 780, 781, 782, 783, 784, 785, 786, 787, 788, 789, 790, 791, 792, 793, 794] (by decide +kernel) (by decide +kernel)
set_option maxRecDepth 20000 in
theorem gL_law_X5_offset : GoodIn wsL_law (wsV RL 154 RX5 yX5_offset wsX5_offset) := goodIn_app (goodIn_of _ (by decide +kernel)) ggL_law_X5_offset
set_option maxRecDepth 20000 in
theorem ggL_law_L_eventAt : GoodIn wsL_law wsL_eventAt := goodIn_ca (goodIn_r _ [513, 101, 514, 515, 516, 2, 517, 116, 117, 16, 112, 113, 114, 115, 159, 160, 161, 15, 162, 44, 754, 755, 756, 757, 758, 759, 760, 761, 762, 763, 764, 765, 766, 767, 795, 796] (by decide +kernel) (by decide +kernel)) (goodIn_sub (fun _ h => List.mem_append_right _ h) (by decide +kernel))
set_option maxRecDepth 20000 in
theorem gL_law_L_eventAt : GoodIn wsL_law (va_wsS RL 155 yL_eventAt wsL_eventAt) := goodIn_app (goodIn_of _ (by decide +kernel)) ggL_law_L_eventAt
set_option maxRecDepth 20000 in
theorem ggL_law_X5_eventAt : GoodIn wsL_law wsX5_eventAt := goodIn_r _ [521, 69, 71, 129, 130, 5, 131, 132, 133, 134, 138, 139, 140, 141, 142, 768, 769, 770, 771, 772, 773, 774, 775, 776, 777, 778, 779, 780, 781, 782, 783, 784, 785, 786, 787, 788, 789, 790, 791, 792, 793, 794] (by decide +kernel) (by decide +kernel)
set_option maxRecDepth 20000 in
theorem gL_law_X5_eventAt : GoodIn wsL_law (wsV RL 157 RX5 yX5_eventAt wsX5_eventAt) := goodIn_app (goodIn_of _ (by decide +kernel)) ggL_law_X5_eventAt
set_option maxRecDepth 20000 in
theorem ggL_law_L_queued : GoodIn wsL_law wsL_queued := goodIn_ca (goodIn_r _ [524, 101, 525, 526, 527, 2, 528, 24, 113, 114, 115, 116, 117, 253, 254, 255, 256, 36, 529, 178, 179, 23, 180, 57, 181, 182, 183, 754, 755, 756, 757, 758, 759, 760, 761, 762, 763, 764, 765, 766, 767, 801, 802, 803] (by decide +kernel) (by decide +kernel)) (goodIn_sub (fun _ h => List.mem_append_right _ h) (by decide +kernel))
set_option maxRecDepth 20000 in
theorem gL_law_L_queued : GoodIn wsL_law (va_wsS RL 158 yL_queued wsL_queued) := goodIn_app (goodIn_of _ (by decide +kernel)) ggL_law_L_queued
set_option maxRecDepth 20000 in
theorem ggL_law_X5_queued : GoodIn wsL_law wsX5_queued := goodIn_r _ [533, 73, 534, 535, 536, 5, 537, 129, 130, 131, 132, 133, 134, 338, 339, 340, 341, 68, 138, 139, 140, 141, 142, 211, 212, 213, 768, 769, 770, 771, 772, 773, 774, 775, 776, 777, 778, 779, 780, 781, 782, 783, 784, 785, 786, 787, 788, 789, 790, 791, 792, 793, 794] (by decide +kernel) (by decide +kernel)
set_option maxRecDepth 20000 in
theorem gL_law_X5_queued : GoodIn wsL_law (wsV RL 160 RX5 yX5_queued wsX5_queued) := goodIn_app (goodIn_of _ (by decide +kernel)) ggL_law_X5_queued
set_option maxRecDepth 20000 in
theorem ggL_law_L_itemAt : GoodIn wsL_law wsL_itemAt := goodIn_ca (goodIn_r _ [540, 101, 541, 542, 543, 2, 544, 116, 117, 24, 113, 114, 115, 253, 254, 255, 256, 36, 529, 178, 179, 23, 180, 57, 181, 182, 183, 545, 546, 547, 548, 56, 754, 755, 756, 757, 758, 759, 760, 761, 762, 763, 764, 765, 766, 767, 801, 802, 803] (by decide +kernel) (by decide +kernel)) (goodIn_sub (fun _ h => List.mem_append_right _ h) (by decide +kernel))
set_option maxRecDepth 20000 in
theorem gL_law_L_itemAt : GoodIn wsL_law (va_wsS RL 161 yL_itemAt wsL_itemAt) := goodIn_app (goodIn_of _ (by decide +kernel)) ggL_law_L_itemAt
set_option maxRecDepth 20000 in
theorem ggL_law_X5_itemAt : GoodIn wsL_law wsX5_itemAt := goodIn_r _ [552, 73, 72, 534, 535, 536, 5, 537, 129, 130, 131, 132, 133, 134, 338, 339, 340, 341, 68, 211, 212, 213, 138, 139, 140, 141, 142, 768, 769, 770, 771, 772, 773, 774, 775, 776, 777, 778, 779, 780, 781, 782, 783, 784, 785, 786, 787, 788, 789, 790, 791, 792, 793, 794] (by decide +kernel) (by decide +kernel)
set_option maxRecDepth 20000 in
theorem gL_law_X5_itemAt : GoodIn wsL_law (wsV RL 163 RX5 yX5_itemAt wsX5_itemAt) := goodIn_app (goodIn_of _ (by decide +kernel)) ggL_law_X5_itemAt
set_option maxRecDepth 20000 in
theorem ggL_law_L_isBlocked : GoodIn wsL_law wsL_isBlocked := goodIn_ca (goodIn_r _ [555, 101, 556, 557, 558, 2, 559, 24, 113, 114, 115, 116, 117, 253, 254, 255, 256, 36, 560, 262, 263, 23, 264, 58, 181, 182, 183, 754, 755, 756, 757, 758, 759, 760, 761, 762, 763, 764, 765, 766, 767, 801, 802, 803] (by decide +kernel) (by decide +kernel)) (goodIn_sub (fun _ h => List.mem_append_right _ h) (by decide +kernel))
set_option maxRecDepth 20000 in
theorem gL_law_L_isBlocked : GoodIn wsL_law (va_wsS RL 164 yL_isBlocked wsL_isBlocked) := goodIn_app (goodIn_of _ (by decide +kernel)) ggL_law_L_isBlocked
set_option maxRecDepth 20000 in
theorem ggL_law_X5_isBlocked : GoodIn wsL_law wsX5_isBlocked := goodIn_r _ [564, 74, 534, 535, 536, 5, 537, 129, 130, 131, 132, 133, 134, 338, 339, 340, 341, 68, 138, 139, 140, 141, 142, 211, 212, 213, 768, 769, 770, 771, 772, 773, 774, 775, 776, 777, 778, 779, 780, 781, 782, 783, 784, 785, 786, 787, 788, 789, 790, 791, 792, 793, 794] (by decide +kernel) (by decide +kernel)
set_option maxRecDepth 20000 in
theorem gL_law_X5_isBlocked : GoodIn wsL_law (wsV RL 166 RX5 yX5_isBlocked wsX5_isBlocked) := goodIn_app (goodIn_of _ (by decide +kernel)) ggL_law_X5_isBlocked
set_option maxRecDepth 20000 in
theorem ggL_law_X4_workers : GoodIn wsL_law wsX4_workers := goodIn_r _ [568, 36, 754, 755, 756, 757, 758, 759, 760, 761, 762, 763, 764, 765, 766, 767] (by decide +kernel) (by decide +kernel)
set_option maxRecDepth 20000 in
theorem gL_law_X4_workers : GoodIn wsL_law (wsV RL 167 RX4 yX4_workers wsX4_workers) := goodIn_app (goodIn_of _ (by decide +kernel)) ggL_law_X4_workers
set_option maxRecDepth 20000 in
theorem ggL_law_X5_workers : GoodIn wsL_law wsX5_workers := goodIn_r _ [572, 142, 68, 768, 769, 770, 771, 772, 773, 774, 775, 776, 777, 778, 779, 780, 781, 782, 783, 784, 785, 786, 787, 788, 789, 790, 791, 792, 793, 794] (by decide +kernel) (by decide +kernel)
set_option maxRecDepth 20000 in
theorem gL_law_X5_workers : GoodIn wsL_law (wsV RL 170 RX5 yX5_workers wsX5_workers) := goodIn_app (goodIn_of _ (by decide +kernel)) ggL_law_X5_workers
set_option maxRecDepth 20000 in
theorem ggL_law_L_workerOf : GoodIn wsL_law wsL_workerOf := goodIn_ca (goodIn_r _ [575, 101, 576, 577, 578, 2, 579, 118, 119, 120, 116, 117, 166, 167, 168, 169, 36, 170, 171, 172, 754, 755, 756, 757, 758, 759, 760, 761, 762, 763, 764, 765, 766, 767] (by decide +kernel) (by decide +kernel)) (goodIn_sub (fun _ h => List.mem_append_right _ h) (by decide +kernel))
set_option maxRecDepth 20000 in
theorem gL_law_L_workerOf : GoodIn wsL_law (va_wsS RL 171 yL_workerOf wsL_workerOf) := goodIn_app (goodIn_of _ (by decide +kernel)) ggL_law_L_workerOf
set_option maxRecDepth 20000 in
theorem ggL_law_X5_workerOf : GoodIn wsL_law wsX5_workerOf := goodIn_r _ [583, 135, 136, 5, 137, 132, 133, 134, 138, 139, 140, 141, 142, 204, 205, 206, 207, 68, 208, 209, 210, 768, 769, 770, 771, 772, 773, 774, 775, 776, 777, 778, 779, 780, 781, 782, 783, 784, 785, 786, 787, 788, 789, 790, 791, 792, 793, 794] (by decide +kernel) (by decide +kernel)
set_option maxRecDepth 20000 in
theorem gL_law_X5_workerOf : GoodIn wsL_law (wsV RL 173 RX5 yX5_workerOf wsX5_workerOf) := goodIn_app (goodIn_of _ (by decide +kernel)) ggL_law_X5_workerOf
set_option maxRecDepth 20000 in
theorem ggL_law_L_groupsOf : GoodIn wsL_law wsL_groupsOf := goodIn_ca (goodIn_r _ [586, 101, 587, 588, 589, 2, 590, 36, 253, 254, 255, 256, 116, 117, 170, 171, 172, 754, 755, 756, 757, 758, 759, 760, 761, 762, 763, 764, 765, 766, 767] (by decide +kernel) (by decide +kernel)) (goodIn_sub (fun _ h => List.mem_append_right _ h) (by decide +kernel))
set_option maxRecDepth 20000 in
theorem gL_law_L_groupsOf : GoodIn wsL_law (va_wsS RL 174 yL_groupsOf wsL_groupsOf) := goodIn_app (goodIn_of _ (by decide +kernel)) ggL_law_L_groupsOf
set_option maxRecDepth 20000 in
theorem ggL_law_X5_groupsOf : GoodIn wsL_law wsX5_groupsOf := goodIn_r _ [594, 68, 338, 339, 340, 5, 341, 132, 133, 134, 138, 139, 140, 141, 142, 208, 209, 210, 768, 769, 770, 771, 772, 773, 774, 775, 776, 777, 778, 779, 780, 781, 782, 783, 784, 785, 786, 787, 788, 789, 790, 791, 792, 793, 794] (by decide +kernel) (by decide +kernel)
set_option maxRecDepth 20000 in
theorem gL_law_X5_groupsOf : GoodIn wsL_law (wsV RL 176 RX5 yX5_groupsOf wsX5_groupsOf) := goodIn_app (goodIn_of _ (by decide +kernel)) ggL_law_X5_groupsOf
set_option maxRecDepth 20000 in
theorem ggL_law_L_count : GoodIn wsL_law wsL_count := goodIn_ca (goodIn_r _ [597, 101, 598, 599, 600, 2, 601, 28, 280, 118, 119, 120, 116, 117, 754, 755, 756, 757, 758, 759, 760, 761, 762, 763, 764, 765, 766, 767, 804, 805] (by decide +kernel) (by decide +kernel)) (goodIn_sub (fun _ h => List.mem_append_right _ h) (by decide +kernel))
set_option maxRecDepth 20000 in
theorem gL_law_L_count : GoodIn wsL_law (va_wsS RL 177 yL_count wsL_count) := goodIn_app (goodIn_of _ (by decide +kernel)) ggL_law_L_count
set_option maxRecDepth 20000 in
theorem ggL_law_X5_count : GoodIn wsL_law wsX5_count := goodIn_r _ [605, 75, 606, 607, 608, 5, 609, 135, 136, 137, 132, 133, 134, 138, 139, 140, 141, 142, 768, 769, 770, 771, 772, 773, 774, 775, 776, 777, 778, 779, 780, 781, 782, 783, 784, 785, 786, 787, 788, 789, 790, 791, 792, 793, 794] (by decide +kernel) (by decide +kernel)
set_option maxRecDepth 20000 in
theorem gL_law_X5_count : GoodIn wsL_law (wsV RL 179 RX5 yX5_count wsX5_count) := goodIn_app (goodIn_of _ (by decide +kernel)) ggL_law_X5_count
set_option maxRecDepth 20000 in
theorem ggL_law_L_sum : GoodIn wsL_law wsL_sum := goodIn_ca (goodIn_r _ [612, 101, 613, 614, 615, 2, 616, 28, 309, 118, 119, 120, 116, 117, 754, 755, 756, 757, 758, 759, 760, 761, 762, 763, 764, 765, 766, 767, 804, 805] (by decide +kernel) (by decide +kernel)) (goodIn_sub (fun _ h => List.mem_append_right _ h) (by decide +kernel))
set_option maxRecDepth 20000 in
theorem gL_law_L_sum : GoodIn wsL_law (va_wsS RL 180 yL_sum wsL_sum) := goodIn_app (goodIn_of _ (by decide +kernel)) ggL_law_L_sum
set_option maxRecDepth 20000 in
theorem ggL_law_X5_sum : GoodIn wsL_law wsX5_sum := goodIn_r _ [620, 76, 606, 607, 608, 5, 609, 135, 136, 137, 132, 133, 134, 138, 139, 140, 141, 142, 768, 769, 770, 771, 772, 773, 774, 775, 776, 777, 778, 779, 780, 781, 782, 783, 784, 785, 786, 787, 788, 789, 790, 791, 792, 793, 794] (by decide +kernel) (by decide +kernel)
set_option maxRecDepth 20000 in
theorem gL_law_X5_sum : GoodIn wsL_law (wsV RL 182 RX5 yX5_sum wsX5_sum) := goodIn_app (goodIn_of _ (by decide +kernel)) ggL_law_X5_sum
set_option maxRecDepth 20000 in
theorem ggL_law_L_open : GoodIn wsL_law wsL_open := goodIn_ca (goodIn_r _ [623, 101, 624, 625, 626, 2, 627, 29, 280, 253, 254, 255, 256, 116, 117, 36, 166, 167, 168, 169, 170, 171, 172, 754, 755, 756, 757, 758, 759, 760, 761, 762, 763, 764, 765, 766, 767, 804, 805] (by decide +kernel) (by decide +kernel)) (goodIn_sub (fun _ h => List.mem_append_right _ h) (by decide +kernel))
set_option maxRecDepth 20000 in
theorem gL_law_L_open : GoodIn wsL_law (va_wsS RL 183 yL_open wsL_open) := goodIn_app (goodIn_of _ (by decide +kernel)) ggL_law_L_open
set_option maxRecDepth 20000 in
theorem ggL_law_X5_open : GoodIn wsL_law wsX5_open := goodIn_r _ [631, 77, 338, 339, 340, 5, 341, 68, 132, 133, 134, 138, 139, 140, 141, 142, 204, 205, 206, 207, 208, 209, 210, 768, 769, 770, 771, 772, 773, 774, 775, 776, 777, 778, 779, 780, 781, 782, 783, 784, 785, 786, 787, 788, 789, 790, 791, 792, 793, 794] (by decide +kernel) (by decide +kernel)
set_option maxRecDepth 20000 in
theorem gL_law_X5_open : GoodIn wsL_law (wsV RL 185 RX5 yX5_open wsX5_open) := goodIn_app (goodIn_of _ (by decide +kernel)) ggL_law_X5_open
set_option maxRecDepth 20000 in
theorem ggL_law_L_sealed : GoodIn wsL_law wsL_sealed := goodIn_ca (goodIn_r _ [634, 101, 635, 636, 637, 2, 638, 35, 253, 254, 255, 256, 116, 117, 36, 754, 755, 756, 757, 758, 759, 760, 761, 762, 763, 764, 765, 766, 767] (by decide +kernel) (by decide +kernel)) (goodIn_sub (fun _ h => List.mem_append_right _ h) (by decide +kernel))
set_option maxRecDepth 20000 in
theorem gL_law_L_sealed : GoodIn wsL_law (va_wsS RL 186 yL_sealed wsL_sealed) := goodIn_app (goodIn_of _ (by decide +kernel)) ggL_law_L_sealed
set_option maxRecDepth 20000 in
theorem ggL_law_X5_sealed : GoodIn wsL_law wsX5_sealed := goodIn_r _ [642, 81, 338, 339, 340, 5, 341, 68, 132, 133, 134, 138, 139, 140, 141, 142, 768, 769, 770, 771, 772, 773, 774, 775, 776, 777, 778, 779, 780, 781, 782, 783, 784, 785, 786, 787, 788, 789, 790, 791, 792, 793, 794] (by decide +kernel) (by decide +kernel)
set_option maxRecDepth 20000 in
theorem gL_law_X5_sealed : GoodIn wsL_law (wsV RL 188 RX5 yX5_sealed wsX5_sealed) := goodIn_app (goodIn_of _ (by decide +kernel)) ggL_law_X5_sealed
set_option maxRecDepth 20000 in
theorem ggL_law_X4_underWay : GoodIn wsL_law wsX4_underWay := goodIn_r _ [646, 38, 754, 755, 756, 757, 758, 759, 760, 761, 762, 763, 764, 765, 766, 767] (by decide +kernel) (by decide +kernel)
set_option maxRecDepth 20000 in
theorem gL_law_X4_underWay : GoodIn wsL_law (wsV RL 189 RX4 yX4_underWay wsX4_underWay) := goodIn_app (goodIn_of _ (by decide +kernel)) ggL_law_X4_underWay
set_option maxRecDepth 20000 in
theorem ggL_law_X5_underWay : GoodIn wsL_law wsX5_underWay := goodIn_r _ [650, 142, 84, 768, 769, 770, 771, 772, 773, 774, 775, 776, 777, 778, 779, 780, 781, 782, 783, 784, 785, 786, 787, 788, 789, 790, 791, 792, 793, 794] (by decide +kernel) (by decide +kernel)
set_option maxRecDepth 20000 in
theorem gL_law_X5_underWay : GoodIn wsL_law (wsV RL 192 RX5 yX5_underWay wsX5_underWay) := goodIn_app (goodIn_of _ (by decide +kernel)) ggL_law_X5_underWay
set_option maxRecDepth 20000 in
theorem ggL_law_X4_complete : GoodIn wsL_law wsX4_complete := goodIn_r _ [654, 39, 754, 755, 756, 757, 758, 759, 760, 761, 762, 763, 764, 765, 766, 767] (by decide +kernel) (by decide +kernel)
set_option maxRecDepth 20000 in
theorem gL_law_X4_complete : GoodIn wsL_law (wsV RL 193 RX4 yX4_complete wsX4_complete) := goodIn_app (goodIn_of _ (by decide +kernel)) ggL_law_X4_complete
set_option maxRecDepth 20000 in
theorem ggL_law_X5_complete : GoodIn wsL_law wsX5_complete := goodIn_r _ [658, 142, 85, 768, 769, 770, 771, 772, 773, 774, 775, 776, 777, 778, 779, 780, 781, 782, 783, 784, 785, 786, 787, 788, 789, 790, 791, 792, 793, 794] (by decide +kernel) (by decide +kernel)
set_option maxRecDepth 20000 in
theorem gL_law_X5_complete : GoodIn wsL_law (wsV RL 196 RX5 yX5_complete wsX5_complete) := goodIn_app (goodIn_of _ (by decide +kernel)) ggL_law_X5_complete
set_option maxRecDepth 20000 in
theorem ggL_law_L_hasSent : GoodIn wsL_law wsL_hasSent := goodIn_ca (goodIn_r _ [661, 101, 662, 663, 664, 2, 665, 38, 20, 229, 113, 114, 115, 116, 117, 754, 755, 756, 757, 758, 759, 760, 761, 762, 763, 764, 765, 766, 767, 797, 798, 799, 800] (by decide +kernel) (by decide +kernel)) (goodIn_sub (fun _ h => List.mem_append_right _ h) (by decide +kernel))
set_option maxRecDepth 20000 in
theorem gL_law_L_hasSent : GoodIn wsL_law (va_wsS RL 197 yL_hasSent wsL_hasSent) := goodIn_app (goodIn_of _ (by decide +kernel)) ggL_law_L_hasSent
set_option maxRecDepth 20000 in
theorem ggL_law_X5_hasSent : GoodIn wsL_law wsX5_hasSent := goodIn_r _ [669, 84, 86, 129, 130, 5, 131, 132, 133, 134, 138, 139, 140, 141, 142, 768, 769, 770, 771, 772, 773, 774, 775, 776, 777, 778, 779, 780, 781, 782, 783, 784, 785, 786, 787, 788, 789, 790, 791, 792, 793, 794] (by decide +kernel) (by decide +kernel)
set_option maxRecDepth 20000 in
theorem gL_law_X5_hasSent : GoodIn wsL_law (wsV RL 199 RX5 yX5_hasSent wsX5_hasSent) := goodIn_app (goodIn_of _ (by decide +kernel)) ggL_law_X5_hasSent
set_option maxRecDepth 20000 in
theorem ggL_law_L_keptOffset : GoodIn wsL_law wsL_keptOffset := goodIn_ca (goodIn_r _ [672, 101, 673, 674, 675, 2, 676, 20, 677, 113, 114, 115, 116, 117, 754, 755, 756, 757, 758, 759, 760, 761, 762, 763, 764, 765, 766, 767, 797, 798, 799, 800] (by decide +kernel) (by decide +kernel)) (goodIn_sub (fun _ h => List.mem_append_right _ h) (by decide +kernel))
set_option maxRecDepth 20000 in
theorem gL_law_L_keptOffset : GoodIn wsL_law (va_wsS RL 200 yL_keptOffset wsL_keptOffset) := goodIn_app (goodIn_of _ (by decide +kernel)) ggL_law_L_keptOffset
set_option maxRecDepth 20000 in
theorem ggL_law_X5_keptOffset : GoodIn wsL_law wsX5_keptOffset := goodIn_r _ [681, 90, 129, 130, 5, 131, 132, 133, 134, 138, 139, 140, 141, 142, 768, 769, 770, 771, 772, 773, 774, 775, 776, 777, 778, 779, 780, 781, 782, 783, 784, 785, 786, 787, 788, 789, 790, 791, 792, 793, 794] (by decide +kernel) (by decide +kernel)
set_option maxRecDepth 20000 in
theorem gL_law_X5_keptOffset : GoodIn wsL_law (wsV RL 202 RX5 yX5_keptOffset wsX5_keptOffset) := goodIn_app (goodIn_of _ (by decide +kernel)) ggL_law_X5_keptOffset
set_option maxRecDepth 20000 in
theorem ggL_law_L_keptSum : GoodIn wsL_law wsL_keptSum := goodIn_ca (goodIn_r _ [684, 101, 685, 686, 687, 2, 688, 32, 309, 118, 119, 120, 116, 117, 754, 755, 756, 757, 758, 759, 760, 761, 762, 763, 764, 765, 766, 767, 804, 805] (by decide +kernel) (by decide +kernel)) (goodIn_sub (fun _ h => List.mem_append_right _ h) (by decide +kernel))
set_option maxRecDepth 20000 in
theorem gL_law_L_keptSum : GoodIn wsL_law (va_wsS RL 203 yL_keptSum wsL_keptSum) := goodIn_app (goodIn_of _ (by decide +kernel)) ggL_law_L_keptSum
set_option maxRecDepth 20000 in
theorem ggL_law_X5_keptSum : GoodIn wsL_law wsX5_keptSum := goodIn_r _ [692, 92, 606, 607, 608, 5, 609, 135, 136, 137, 132, 133, 134, 138, 139, 140, 141, 142, 768, 769, 770, 771, 772, 773, 774, 775, 776, 777, 778, 779, 780, 781, 782, 783, 784, 785, 786, 787, 788, 789, 790, 791, 792, 793, 794] (by decide +kernel) (by decide +kernel)
set_option maxRecDepth 20000 in
theorem gL_law_X5_keptSum : GoodIn wsL_law (wsV RL 205 RX5 yX5_keptSum wsX5_keptSum) := goodIn_app (goodIn_of _ (by decide +kernel)) ggL_law_X5_keptSum
set_option maxRecDepth 20000 in
theorem ggL_law_L_committedCount : GoodIn wsL_law wsL_committedCount := goodIn_ca (goodIn_r _ [695, 101, 696, 697, 698, 2, 699, 33, 280, 118, 119, 120, 116, 117, 754, 755, 756, 757, 758, 759, 760, 761, 762, 763, 764, 765, 766, 767, 804, 805] (by decide +kernel) (by decide +kernel)) (goodIn_sub (fun _ h => List.mem_append_right _ h) (by decide +kernel))
set_option maxRecDepth 20000 in
theorem gL_law_L_committedCount : GoodIn wsL_law (va_wsS RL 206 yL_committedCount wsL_committedCount) := goodIn_app (goodIn_of _ (by decide +kernel)) ggL_law_L_committedCount
set_option maxRecDepth 20000 in
theorem ggL_law_X5_committedCount : GoodIn wsL_law wsX5_committedCount := goodIn_r _ [703, 82, 606, 607, 608, 5, 609, 135, 136, 137, 132, 133, 134, 138, 139, 140, 141, 142, 768, 769, 770, 771, 772, 773, 774, 775, 776, 777, 778, 779, 780, 781, 782, 783, 784, 785, 786, 787, 788, 789, 790, 791, 792, 793, 794] (by decide +kernel) (by decide +kernel)
set_option maxRecDepth 20000 in
theorem gL_law_X5_committedCount : GoodIn wsL_law (wsV RL 208 RX5 yX5_committedCount wsX5_committedCount) := goodIn_app (goodIn_of _ (by decide +kernel)) ggL_law_X5_committedCount
set_option maxRecDepth 20000 in
theorem ggL_law_L_committedSum : GoodIn wsL_law wsL_committedSum := goodIn_ca (goodIn_r _ [706, 101, 707, 708, 709, 2, 710, 33, 309, 118, 119, 120, 116, 117, 754, 755, 756, 757, 758, 759, 760, 761, 762, 763, 764, 765, 766, 767, 804, 805] (by decide +kernel) (by decide +kernel)) (goodIn_sub (fun _ h => List.mem_append_right _ h) (by decide +kernel))
set_option maxRecDepth 20000 in
theorem gL_law_L_committedSum : GoodIn wsL_law (va_wsS RL 209 yL_committedSum wsL_committedSum) := goodIn_app (goodIn_of _ (by decide +kernel)) ggL_law_L_committedSum
set_option maxRecDepth 20000 in
theorem ggL_law_X5_committedSum : GoodIn wsL_law wsX5_committedSum := goodIn_r _ [714, 83, 606, 607, 608, 5, 609, 135, 136, 137, 132, 133, 134, 138, 139, 140, 141, 142, 768, 769, 770, 771, 772, 773, 774, 775, 776, 777, 778, 779, 780, 781, 782, 783, 784, 785, 786, 787, 788, 789, 790, 791, 792, 793, 794] (by decide +kernel) (by decide +kernel)
set_option maxRecDepth 20000 in
theorem gL_law_X5_committedSum : GoodIn wsL_law (wsV RL 211 RX5 yX5_committedSum wsX5_committedSum) := goodIn_app (goodIn_of _ (by decide +kernel)) ggL_law_X5_committedSum
set_option maxRecDepth 20000 in
theorem ggL_law_X4_committed : GoodIn wsL_law wsX4_committed := goodIn_r _ [718, 33, 280, 754, 755, 756, 757, 758, 759, 760, 761, 762, 763, 764, 765, 766, 767, 804, 805] (by decide +kernel) (by decide +kernel)
set_option maxRecDepth 20000 in
theorem gL_law_X4_committed : GoodIn wsL_law (wsV RL 212 RX4 yX4_committed wsX4_committed) := goodIn_app (goodIn_of _ (by decide +kernel)) ggL_law_X4_committed
set_option maxRecDepth 20000 in
theorem ggL_law_X5_committed : GoodIn wsL_law wsX5_committed := goodIn_r _ [722, 142, 82, 768, 769, 770, 771, 772, 773, 774, 775, 776, 777, 778, 779, 780, 781, 782, 783, 784, 785, 786, 787, 788, 789, 790, 791, 792, 793, 794] (by decide +kernel) (by decide +kernel)
set_option maxRecDepth 20000 in
theorem gL_law_X5_committed : GoodIn wsL_law (wsV RL 215 RX5 yX5_committed wsX5_committed) := goodIn_app (goodIn_of _ (by decide +kernel)) ggL_law_X5_committed
set_option maxRecDepth 20000 in
theorem ggL_law_L_readSum : GoodIn wsL_law wsL_readSum := goodIn_ca (goodIn_r _ [725, 101, 726, 727, 728, 2, 729, 16, 20, 158, 118, 119, 120, 116, 117, 730, 731, 732, 15, 733, 734, 160, 161, 162, 44, 164, 165, 274, 275, 754, 755, 756, 757, 758, 759, 760, 761, 762, 763, 764, 765, 766, 767, 797, 798, 799, 800, 795, 796] (by decide +kernel) (by decide +kernel)) (goodIn_sub (fun _ h => List.mem_append_right _ h) (by decide +kernel))
set_option maxRecDepth 20000 in
theorem gL_law_L_readSum : GoodIn wsL_law (va_wsS RL 216 yL_readSum wsL_readSum) := goodIn_app (goodIn_of _ (by decide +kernel)) ggL_law_L_readSum
set_option maxRecDepth 20000 in
theorem ggL_law_X5_readSum : GoodIn wsL_law wsX5_readSum := goodIn_r _ [738, 70, 71, 135, 136, 5, 137, 132, 133, 134, 138, 139, 140, 141, 142, 768, 769, 770, 771, 772, 773, 774, 775, 776, 777, 778, 779, 780, 781, 782, 783, 784, 785, 786, 787, 788, 789, 790, 791, 792, 793, 794] (by decide +kernel) (by decide +kernel)
set_option maxRecDepth 20000 in
theorem gL_law_X5_readSum : GoodIn wsL_law (wsV RL 218 RX5 yX5_readSum wsX5_readSum) := goodIn_app (goodIn_of _ (by decide +kernel)) ggL_law_X5_readSum
set_option maxRecDepth 20000 in
theorem ggL_law_L_sumInChannels : GoodIn wsL_law wsL_sumInChannels := goodIn_ca (goodIn_r _ [741, 101, 742, 743, 744, 2, 745, 24, 118, 119, 120, 116, 117, 746, 747, 748, 23, 749, 57, 56, 164, 165, 274, 275, 754, 755, 756, 757, 758, 759, 760, 761, 762, 763, 764, 765, 766, 767, 801, 802, 803] (by decide +kernel) (by decide +kernel)) (goodIn_sub (fun _ h => List.mem_append_right _ h) (by decide +kernel))
set_option maxRecDepth 20000 in
theorem gL_law_L_sumInChannels : GoodIn wsL_law (va_wsS RL 219 yL_sumInChannels wsL_sumInChannels) := goodIn_app (goodIn_of _ (by decide +kernel)) ggL_law_L_sumInChannels
set_option maxRecDepth 20000 in
theorem ggL_law_X5_sumInChannels : GoodIn wsL_law wsX5_sumInChannels := goodIn_r _ [753, 73, 72, 135, 136, 5, 137, 132, 133, 134, 138, 139, 140, 141, 142, 768, 769, 770, 771, 772, 773, 774, 775, 776, 777, 778, 779, 780, 781, 782, 783, 784, 785, 786, 787, 788, 789, 790, 791, 792, 793, 794] (by decide +kernel) (by decide +kernel)
set_option maxRecDepth 20000 in
theorem gL_law_X5_sumInChannels : GoodIn wsL_law (wsV RL 221 RX5 yX5_sumInChannels wsX5_sumInChannels) := goodIn_app (goodIn_of _ (by decide +kernel)) ggL_law_X5_sumInChannels
end
section
theorem dL_law_0 : decode cL_law 0 = .ok (.new 8, 3) := by decide +kernel
theorem dL_law_3 : decode cL_law 3 = .ok (.dup, 1) := by decide +kernel
theorem dL_law_4 : decode cL_law 4 = .ok (.invokespecial 105, 3) := by decide +kernel
theorem dL_law_7 : decode cL_law 7 = .ok (.astore_n 1, 1) := by decide +kernel
theorem dL_law_8 : decode cL_law 8 = .ok (.new 106, 3) := by decide +kernel
theorem dL_law_11 : decode cL_law 11 = .ok (.dup, 1) := by decide +kernel
theorem dL_law_12 : decode cL_law 12 = .ok (.invokespecial 108, 3) := by decide +kernel
theorem dL_law_15 : decode cL_law 15 = .ok (.astore_n 2, 1) := by decide +kernel
theorem dL_law_16 : decode cL_law 16 = .ok (.iconst 1, 1) := by decide +kernel
theorem dL_law_17 : decode cL_law 17 = .ok (.newarray .long, 2) := by decide +kernel
theorem dL_law_19 : decode cL_law 19 = .ok (.astore_n 3, 1) := by decide +kernel
theorem dL_law_20 : decode cL_law 20 = .ok (.iconst 0, 1) := by decide +kernel
theorem dL_law_21 : decode cL_law 21 = .ok (.istore 4, 2) := by decide +kernel
theorem dL_law_23 : decode cL_law 23 = .ok (.iload 4, 2) := by decide +kernel
theorem dL_law_25 : decode cL_law 25 = .ok (.aload_n 0, 1) := by decide +kernel
theorem dL_law_26 : decode cL_law 26 = .ok (.arraylength, 1) := by decide +kernel
theorem dL_law_27 : decode cL_law 27 = .ok (.iconst 4, 1) := by decide +kernel
theorem dL_law_28 : decode cL_law 28 = .ok (.isub, 1) := by decide +kernel
theorem dL_law_29 : decode cL_law 29 = .ok (.if_icmp .gt 1880, 3) := by decide +kernel
theorem dL_law_32 : decode cL_law 32 = .ok (.aload_n 0, 1) := by decide +kernel
theorem dL_law_33 : decode cL_law 33 = .ok (.iload 4, 2) := by decide +kernel
theorem dL_law_35 : decode cL_law 35 = .ok (.iaload, 1) := by decide +kernel
theorem dL_law_36 : decode cL_law 36 = .ok (.bipush 63, 2) := by decide +kernel
theorem dL_law_38 : decode cL_law 38 = .ok (.iand, 1) := by decide +kernel
theorem dL_law_39 : decode cL_law 39 = .ok (.tableswitch 1864 0 32 #[145, 225, 281, 337, 405, 461, 517, 561, 605, 618, 674, 730, 786, 854, 922, 1002, 1077, 1090, 1146, 1202, 1258, 1314, 1370, 1426, 1439, 1452, 1515, 1571, 1627, 1683, 1739, 1752, 1808], 145) := by decide +kernel
theorem dL_law_184 : decode cL_law 184 = .ok (.aload_n 1, 1) := by decide +kernel
theorem dL_law_185 : decode cL_law 185 = .ok (.aload_n 0, 1) := by decide +kernel
theorem dL_law_186 : decode cL_law 186 = .ok (.iload 4, 2) := by decide +kernel
theorem dL_law_188 : decode cL_law 188 = .ok (.iconst 1, 1) := by decide +kernel
theorem dL_law_189 : decode cL_law 189 = .ok (.iadd, 1) := by decide +kernel
theorem dL_law_190 : decode cL_law 190 = .ok (.iaload, 1) := by decide +kernel
theorem dL_law_191 : decode cL_law 191 = .ok (.aload_n 0, 1) := by decide +kernel
theorem dL_law_192 : decode cL_law 192 = .ok (.iload 4, 2) := by decide +kernel
theorem dL_law_194 : decode cL_law 194 = .ok (.iconst 2, 1) := by decide +kernel
theorem dL_law_195 : decode cL_law 195 = .ok (.iadd, 1) := by decide +kernel
theorem dL_law_196 : decode cL_law 196 = .ok (.iaload, 1) := by decide +kernel
theorem dL_law_197 : decode cL_law 197 = .ok (.aload_n 0, 1) := by decide +kernel
theorem dL_law_198 : decode cL_law 198 = .ok (.iload 4, 2) := by decide +kernel
theorem dL_law_200 : decode cL_law 200 = .ok (.iconst 3, 1) := by decide +kernel
theorem dL_law_201 : decode cL_law 201 = .ok (.iadd, 1) := by decide +kernel
theorem dL_law_202 : decode cL_law 202 = .ok (.iaload, 1) := by decide +kernel
theorem dL_law_203 : decode cL_law 203 = .ok (.aload_n 3, 1) := by decide +kernel
theorem dL_law_204 : decode cL_law 204 = .ok (.invokestatic 109, 3) := by decide +kernel
theorem dL_law_207 : decode cL_law 207 = .ok (.istore 5, 2) := by decide +kernel
theorem dL_law_209 : decode cL_law 209 = .ok (.aload_n 2, 1) := by decide +kernel
theorem dL_law_210 : decode cL_law 210 = .ok (.aload_n 0, 1) := by decide +kernel
theorem dL_law_211 : decode cL_law 211 = .ok (.iload 4, 2) := by decide +kernel
theorem dL_law_213 : decode cL_law 213 = .ok (.iconst 1, 1) := by decide +kernel
theorem dL_law_214 : decode cL_law 214 = .ok (.iadd, 1) := by decide +kernel
theorem dL_law_215 : decode cL_law 215 = .ok (.iaload, 1) := by decide +kernel
theorem dL_law_216 : decode cL_law 216 = .ok (.aload_n 0, 1) := by decide +kernel
theorem dL_law_217 : decode cL_law 217 = .ok (.iload 4, 2) := by decide +kernel
theorem dL_law_219 : decode cL_law 219 = .ok (.iconst 2, 1) := by decide +kernel
theorem dL_law_220 : decode cL_law 220 = .ok (.iadd, 1) := by decide +kernel
theorem dL_law_221 : decode cL_law 221 = .ok (.iaload, 1) := by decide +kernel
theorem dL_law_222 : decode cL_law 222 = .ok (.aload_n 0, 1) := by decide +kernel
theorem dL_law_223 : decode cL_law 223 = .ok (.iload 4, 2) := by decide +kernel
theorem dL_law_225 : decode cL_law 225 = .ok (.iconst 3, 1) := by decide +kernel
theorem dL_law_226 : decode cL_law 226 = .ok (.iadd, 1) := by decide +kernel
theorem dL_law_227 : decode cL_law 227 = .ok (.iaload, 1) := by decide +kernel
theorem dL_law_228 : decode cL_law 228 = .ok (.invokevirtual 114, 3) := by decide +kernel
theorem dL_law_231 : decode cL_law 231 = .ok (.istore 6, 2) := by decide +kernel
theorem dL_law_233 : decode cL_law 233 = .ok (.aload_n 2, 1) := by decide +kernel
theorem dL_law_234 : decode cL_law 234 = .ok (.invokevirtual 115, 3) := by decide +kernel
theorem dL_law_237 : decode cL_law 237 = .ok (.iload 5, 2) := by decide +kernel
theorem dL_law_239 : decode cL_law 239 = .ok (.if_icmp .eq 5, 3) := by decide +kernel
theorem dL_law_242 : decode cL_law 242 = .ok (.iconst 0, 1) := by decide +kernel
theorem dL_law_243 : decode cL_law 243 = .ok (.ireturn, 1) := by decide +kernel
theorem dL_law_244 : decode cL_law 244 = .ok (.iload 5, 2) := by decide +kernel
theorem dL_law_246 : decode cL_law 246 = .ok (.ifCond .ne 15, 3) := by decide +kernel
theorem dL_law_249 : decode cL_law 249 = .ok (.aload_n 3, 1) := by decide +kernel
theorem dL_law_250 : decode cL_law 250 = .ok (.iconst 0, 1) := by decide +kernel
theorem dL_law_251 : decode cL_law 251 = .ok (.laload, 1) := by decide +kernel
theorem dL_law_252 : decode cL_law 252 = .ok (.iload 6, 2) := by decide +kernel
theorem dL_law_254 : decode cL_law 254 = .ok (.i2l, 1) := by decide +kernel
theorem dL_law_255 : decode cL_law 255 = .ok (.lcmp, 1) := by decide +kernel
theorem dL_law_256 : decode cL_law 256 = .ok (.ifCond .eq 5, 3) := by decide +kernel
theorem dL_law_259 : decode cL_law 259 = .ok (.iconst 0, 1) := by decide +kernel
theorem dL_law_260 : decode cL_law 260 = .ok (.ireturn, 1) := by decide +kernel
theorem dL_law_261 : decode cL_law 261 = .ok (.goto 1642, 3) := by decide +kernel
theorem dL_law_264 : decode cL_law 264 = .ok (.aload_n 1, 1) := by decide +kernel
theorem dL_law_265 : decode cL_law 265 = .ok (.aload_n 0, 1) := by decide +kernel
theorem dL_law_266 : decode cL_law 266 = .ok (.iload 4, 2) := by decide +kernel
theorem dL_law_268 : decode cL_law 268 = .ok (.iconst 1, 1) := by decide +kernel
theorem dL_law_269 : decode cL_law 269 = .ok (.iadd, 1) := by decide +kernel
theorem dL_law_270 : decode cL_law 270 = .ok (.iaload, 1) := by decide +kernel
theorem dL_law_271 : decode cL_law 271 = .ok (.aload_n 3, 1) := by decide +kernel
theorem dL_law_272 : decode cL_law 272 = .ok (.invokestatic 118, 3) := by decide +kernel
theorem dL_law_275 : decode cL_law 275 = .ok (.istore 5, 2) := by decide +kernel
theorem dL_law_277 : decode cL_law 277 = .ok (.aload_n 2, 1) := by decide +kernel
theorem dL_law_278 : decode cL_law 278 = .ok (.aload_n 0, 1) := by decide +kernel
theorem dL_law_279 : decode cL_law 279 = .ok (.iload 4, 2) := by decide +kernel
theorem dL_law_281 : decode cL_law 281 = .ok (.iconst 1, 1) := by decide +kernel
theorem dL_law_282 : decode cL_law 282 = .ok (.iadd, 1) := by decide +kernel
theorem dL_law_283 : decode cL_law 283 = .ok (.iaload, 1) := by decide +kernel
theorem dL_law_284 : decode cL_law 284 = .ok (.invokevirtual 121, 3) := by decide +kernel
theorem dL_law_287 : decode cL_law 287 = .ok (.istore 6, 2) := by decide +kernel
theorem dL_law_289 : decode cL_law 289 = .ok (.aload_n 2, 1) := by decide +kernel
theorem dL_law_290 : decode cL_law 290 = .ok (.invokevirtual 115, 3) := by decide +kernel
theorem dL_law_293 : decode cL_law 293 = .ok (.iload 5, 2) := by decide +kernel
theorem dL_law_295 : decode cL_law 295 = .ok (.if_icmp .eq 5, 3) := by decide +kernel
theorem dL_law_298 : decode cL_law 298 = .ok (.iconst 0, 1) := by decide +kernel
theorem dL_law_299 : decode cL_law 299 = .ok (.ireturn, 1) := by decide +kernel
theorem dL_law_300 : decode cL_law 300 = .ok (.iload 5, 2) := by decide +kernel
theorem dL_law_302 : decode cL_law 302 = .ok (.ifCond .ne 15, 3) := by decide +kernel
theorem dL_law_305 : decode cL_law 305 = .ok (.aload_n 3, 1) := by decide +kernel
theorem dL_law_306 : decode cL_law 306 = .ok (.iconst 0, 1) := by decide +kernel
theorem dL_law_307 : decode cL_law 307 = .ok (.laload, 1) := by decide +kernel
theorem dL_law_308 : decode cL_law 308 = .ok (.iload 6, 2) := by decide +kernel
theorem dL_law_310 : decode cL_law 310 = .ok (.i2l, 1) := by decide +kernel
theorem dL_law_311 : decode cL_law 311 = .ok (.lcmp, 1) := by decide +kernel
theorem dL_law_312 : decode cL_law 312 = .ok (.ifCond .eq 5, 3) := by decide +kernel
theorem dL_law_315 : decode cL_law 315 = .ok (.iconst 0, 1) := by decide +kernel
theorem dL_law_316 : decode cL_law 316 = .ok (.ireturn, 1) := by decide +kernel
theorem dL_law_317 : decode cL_law 317 = .ok (.goto 1586, 3) := by decide +kernel
theorem dL_law_320 : decode cL_law 320 = .ok (.aload_n 1, 1) := by decide +kernel
theorem dL_law_321 : decode cL_law 321 = .ok (.aload_n 0, 1) := by decide +kernel
theorem dL_law_322 : decode cL_law 322 = .ok (.iload 4, 2) := by decide +kernel
theorem dL_law_324 : decode cL_law 324 = .ok (.iconst 1, 1) := by decide +kernel
theorem dL_law_325 : decode cL_law 325 = .ok (.iadd, 1) := by decide +kernel
theorem dL_law_326 : decode cL_law 326 = .ok (.iaload, 1) := by decide +kernel
theorem dL_law_327 : decode cL_law 327 = .ok (.aload_n 3, 1) := by decide +kernel
theorem dL_law_328 : decode cL_law 328 = .ok (.invokestatic 122, 3) := by decide +kernel
theorem dL_law_331 : decode cL_law 331 = .ok (.istore 5, 2) := by decide +kernel
theorem dL_law_333 : decode cL_law 333 = .ok (.aload_n 2, 1) := by decide +kernel
theorem dL_law_334 : decode cL_law 334 = .ok (.aload_n 0, 1) := by decide +kernel
theorem dL_law_335 : decode cL_law 335 = .ok (.iload 4, 2) := by decide +kernel
theorem dL_law_337 : decode cL_law 337 = .ok (.iconst 1, 1) := by decide +kernel
theorem dL_law_338 : decode cL_law 338 = .ok (.iadd, 1) := by decide +kernel
theorem dL_law_339 : decode cL_law 339 = .ok (.iaload, 1) := by decide +kernel
theorem dL_law_340 : decode cL_law 340 = .ok (.invokevirtual 124, 3) := by decide +kernel
theorem dL_law_343 : decode cL_law 343 = .ok (.istore 6, 2) := by decide +kernel
theorem dL_law_345 : decode cL_law 345 = .ok (.aload_n 2, 1) := by decide +kernel
theorem dL_law_346 : decode cL_law 346 = .ok (.invokevirtual 115, 3) := by decide +kernel
theorem dL_law_349 : decode cL_law 349 = .ok (.iload 5, 2) := by decide +kernel
theorem dL_law_351 : decode cL_law 351 = .ok (.if_icmp .eq 5, 3) := by decide +kernel
theorem dL_law_354 : decode cL_law 354 = .ok (.iconst 0, 1) := by decide +kernel
theorem dL_law_355 : decode cL_law 355 = .ok (.ireturn, 1) := by decide +kernel
theorem dL_law_356 : decode cL_law 356 = .ok (.iload 5, 2) := by decide +kernel
theorem dL_law_358 : decode cL_law 358 = .ok (.ifCond .ne 15, 3) := by decide +kernel
theorem dL_law_361 : decode cL_law 361 = .ok (.aload_n 3, 1) := by decide +kernel
theorem dL_law_362 : decode cL_law 362 = .ok (.iconst 0, 1) := by decide +kernel
theorem dL_law_363 : decode cL_law 363 = .ok (.laload, 1) := by decide +kernel
theorem dL_law_364 : decode cL_law 364 = .ok (.iload 6, 2) := by decide +kernel
theorem dL_law_366 : decode cL_law 366 = .ok (.i2l, 1) := by decide +kernel
theorem dL_law_367 : decode cL_law 367 = .ok (.lcmp, 1) := by decide +kernel
theorem dL_law_368 : decode cL_law 368 = .ok (.ifCond .eq 5, 3) := by decide +kernel
theorem dL_law_371 : decode cL_law 371 = .ok (.iconst 0, 1) := by decide +kernel
theorem dL_law_372 : decode cL_law 372 = .ok (.ireturn, 1) := by decide +kernel
theorem dL_law_373 : decode cL_law 373 = .ok (.goto 1530, 3) := by decide +kernel
theorem dL_law_376 : decode cL_law 376 = .ok (.aload_n 1, 1) := by decide +kernel
theorem dL_law_377 : decode cL_law 377 = .ok (.aload_n 0, 1) := by decide +kernel
theorem dL_law_378 : decode cL_law 378 = .ok (.iload 4, 2) := by decide +kernel
theorem dL_law_380 : decode cL_law 380 = .ok (.iconst 1, 1) := by decide +kernel
theorem dL_law_381 : decode cL_law 381 = .ok (.iadd, 1) := by decide +kernel
theorem dL_law_382 : decode cL_law 382 = .ok (.iaload, 1) := by decide +kernel
theorem dL_law_383 : decode cL_law 383 = .ok (.aload_n 0, 1) := by decide +kernel
theorem dL_law_384 : decode cL_law 384 = .ok (.iload 4, 2) := by decide +kernel
theorem dL_law_386 : decode cL_law 386 = .ok (.iconst 2, 1) := by decide +kernel
theorem dL_law_387 : decode cL_law 387 = .ok (.iadd, 1) := by decide +kernel
theorem dL_law_388 : decode cL_law 388 = .ok (.iaload, 1) := by decide +kernel
theorem dL_law_389 : decode cL_law 389 = .ok (.aload_n 3, 1) := by decide +kernel
theorem dL_law_390 : decode cL_law 390 = .ok (.invokestatic 125, 3) := by decide +kernel
theorem dL_law_393 : decode cL_law 393 = .ok (.istore 5, 2) := by decide +kernel
theorem dL_law_395 : decode cL_law 395 = .ok (.aload_n 2, 1) := by decide +kernel
theorem dL_law_396 : decode cL_law 396 = .ok (.aload_n 0, 1) := by decide +kernel
theorem dL_law_397 : decode cL_law 397 = .ok (.iload 4, 2) := by decide +kernel
theorem dL_law_399 : decode cL_law 399 = .ok (.iconst 1, 1) := by decide +kernel
theorem dL_law_400 : decode cL_law 400 = .ok (.iadd, 1) := by decide +kernel
theorem dL_law_401 : decode cL_law 401 = .ok (.iaload, 1) := by decide +kernel
theorem dL_law_402 : decode cL_law 402 = .ok (.aload_n 0, 1) := by decide +kernel
theorem dL_law_403 : decode cL_law 403 = .ok (.iload 4, 2) := by decide +kernel
theorem dL_law_405 : decode cL_law 405 = .ok (.iconst 2, 1) := by decide +kernel
theorem dL_law_406 : decode cL_law 406 = .ok (.iadd, 1) := by decide +kernel
theorem dL_law_407 : decode cL_law 407 = .ok (.iaload, 1) := by decide +kernel
theorem dL_law_408 : decode cL_law 408 = .ok (.invokevirtual 128, 3) := by decide +kernel
theorem dL_law_411 : decode cL_law 411 = .ok (.istore 6, 2) := by decide +kernel
theorem dL_law_413 : decode cL_law 413 = .ok (.aload_n 2, 1) := by decide +kernel
theorem dL_law_414 : decode cL_law 414 = .ok (.invokevirtual 115, 3) := by decide +kernel
theorem dL_law_417 : decode cL_law 417 = .ok (.iload 5, 2) := by decide +kernel
theorem dL_law_419 : decode cL_law 419 = .ok (.if_icmp .eq 5, 3) := by decide +kernel
theorem dL_law_422 : decode cL_law 422 = .ok (.iconst 0, 1) := by decide +kernel
theorem dL_law_423 : decode cL_law 423 = .ok (.ireturn, 1) := by decide +kernel
theorem dL_law_424 : decode cL_law 424 = .ok (.iload 5, 2) := by decide +kernel
theorem dL_law_426 : decode cL_law 426 = .ok (.ifCond .ne 15, 3) := by decide +kernel
theorem dL_law_429 : decode cL_law 429 = .ok (.aload_n 3, 1) := by decide +kernel
theorem dL_law_430 : decode cL_law 430 = .ok (.iconst 0, 1) := by decide +kernel
theorem dL_law_431 : decode cL_law 431 = .ok (.laload, 1) := by decide +kernel
theorem dL_law_432 : decode cL_law 432 = .ok (.iload 6, 2) := by decide +kernel
theorem dL_law_434 : decode cL_law 434 = .ok (.i2l, 1) := by decide +kernel
theorem dL_law_435 : decode cL_law 435 = .ok (.lcmp, 1) := by decide +kernel
theorem dL_law_436 : decode cL_law 436 = .ok (.ifCond .eq 5, 3) := by decide +kernel
theorem dL_law_439 : decode cL_law 439 = .ok (.iconst 0, 1) := by decide +kernel
theorem dL_law_440 : decode cL_law 440 = .ok (.ireturn, 1) := by decide +kernel
theorem dL_law_441 : decode cL_law 441 = .ok (.goto 1462, 3) := by decide +kernel
theorem dL_law_444 : decode cL_law 444 = .ok (.aload_n 1, 1) := by decide +kernel
theorem dL_law_445 : decode cL_law 445 = .ok (.aload_n 0, 1) := by decide +kernel
theorem dL_law_446 : decode cL_law 446 = .ok (.iload 4, 2) := by decide +kernel
theorem dL_law_448 : decode cL_law 448 = .ok (.iconst 1, 1) := by decide +kernel
theorem dL_law_449 : decode cL_law 449 = .ok (.iadd, 1) := by decide +kernel
theorem dL_law_450 : decode cL_law 450 = .ok (.iaload, 1) := by decide +kernel
theorem dL_law_451 : decode cL_law 451 = .ok (.aload_n 3, 1) := by decide +kernel
theorem dL_law_452 : decode cL_law 452 = .ok (.invokestatic 129, 3) := by decide +kernel
theorem dL_law_455 : decode cL_law 455 = .ok (.istore 5, 2) := by decide +kernel
theorem dL_law_457 : decode cL_law 457 = .ok (.aload_n 2, 1) := by decide +kernel
theorem dL_law_458 : decode cL_law 458 = .ok (.aload_n 0, 1) := by decide +kernel
theorem dL_law_459 : decode cL_law 459 = .ok (.iload 4, 2) := by decide +kernel
theorem dL_law_461 : decode cL_law 461 = .ok (.iconst 1, 1) := by decide +kernel
theorem dL_law_462 : decode cL_law 462 = .ok (.iadd, 1) := by decide +kernel
theorem dL_law_463 : decode cL_law 463 = .ok (.iaload, 1) := by decide +kernel
theorem dL_law_464 : decode cL_law 464 = .ok (.invokevirtual 131, 3) := by decide +kernel
theorem dL_law_467 : decode cL_law 467 = .ok (.istore 6, 2) := by decide +kernel
theorem dL_law_469 : decode cL_law 469 = .ok (.aload_n 2, 1) := by decide +kernel
theorem dL_law_470 : decode cL_law 470 = .ok (.invokevirtual 115, 3) := by decide +kernel
theorem dL_law_473 : decode cL_law 473 = .ok (.iload 5, 2) := by decide +kernel
theorem dL_law_475 : decode cL_law 475 = .ok (.if_icmp .eq 5, 3) := by decide +kernel
theorem dL_law_478 : decode cL_law 478 = .ok (.iconst 0, 1) := by decide +kernel
theorem dL_law_479 : decode cL_law 479 = .ok (.ireturn, 1) := by decide +kernel
theorem dL_law_480 : decode cL_law 480 = .ok (.iload 5, 2) := by decide +kernel
theorem dL_law_482 : decode cL_law 482 = .ok (.ifCond .ne 15, 3) := by decide +kernel
theorem dL_law_485 : decode cL_law 485 = .ok (.aload_n 3, 1) := by decide +kernel
theorem dL_law_486 : decode cL_law 486 = .ok (.iconst 0, 1) := by decide +kernel
theorem dL_law_487 : decode cL_law 487 = .ok (.laload, 1) := by decide +kernel
theorem dL_law_488 : decode cL_law 488 = .ok (.iload 6, 2) := by decide +kernel
theorem dL_law_490 : decode cL_law 490 = .ok (.i2l, 1) := by decide +kernel
theorem dL_law_491 : decode cL_law 491 = .ok (.lcmp, 1) := by decide +kernel
theorem dL_law_492 : decode cL_law 492 = .ok (.ifCond .eq 5, 3) := by decide +kernel
theorem dL_law_495 : decode cL_law 495 = .ok (.iconst 0, 1) := by decide +kernel
theorem dL_law_496 : decode cL_law 496 = .ok (.ireturn, 1) := by decide +kernel
theorem dL_law_497 : decode cL_law 497 = .ok (.goto 1406, 3) := by decide +kernel
theorem dL_law_500 : decode cL_law 500 = .ok (.aload_n 1, 1) := by decide +kernel
theorem dL_law_501 : decode cL_law 501 = .ok (.aload_n 0, 1) := by decide +kernel
theorem dL_law_502 : decode cL_law 502 = .ok (.iload 4, 2) := by decide +kernel
theorem dL_law_504 : decode cL_law 504 = .ok (.iconst 1, 1) := by decide +kernel
theorem dL_law_505 : decode cL_law 505 = .ok (.iadd, 1) := by decide +kernel
theorem dL_law_506 : decode cL_law 506 = .ok (.iaload, 1) := by decide +kernel
theorem dL_law_507 : decode cL_law 507 = .ok (.aload_n 3, 1) := by decide +kernel
theorem dL_law_508 : decode cL_law 508 = .ok (.invokestatic 132, 3) := by decide +kernel
theorem dL_law_511 : decode cL_law 511 = .ok (.istore 5, 2) := by decide +kernel
theorem dL_law_513 : decode cL_law 513 = .ok (.aload_n 2, 1) := by decide +kernel
theorem dL_law_514 : decode cL_law 514 = .ok (.aload_n 0, 1) := by decide +kernel
theorem dL_law_515 : decode cL_law 515 = .ok (.iload 4, 2) := by decide +kernel
theorem dL_law_517 : decode cL_law 517 = .ok (.iconst 1, 1) := by decide +kernel
theorem dL_law_518 : decode cL_law 518 = .ok (.iadd, 1) := by decide +kernel
theorem dL_law_519 : decode cL_law 519 = .ok (.iaload, 1) := by decide +kernel
theorem dL_law_520 : decode cL_law 520 = .ok (.invokevirtual 134, 3) := by decide +kernel
theorem dL_law_523 : decode cL_law 523 = .ok (.istore 6, 2) := by decide +kernel
theorem dL_law_525 : decode cL_law 525 = .ok (.aload_n 2, 1) := by decide +kernel
theorem dL_law_526 : decode cL_law 526 = .ok (.invokevirtual 115, 3) := by decide +kernel
theorem dL_law_529 : decode cL_law 529 = .ok (.iload 5, 2) := by decide +kernel
theorem dL_law_531 : decode cL_law 531 = .ok (.if_icmp .eq 5, 3) := by decide +kernel
theorem dL_law_534 : decode cL_law 534 = .ok (.iconst 0, 1) := by decide +kernel
theorem dL_law_535 : decode cL_law 535 = .ok (.ireturn, 1) := by decide +kernel
theorem dL_law_536 : decode cL_law 536 = .ok (.iload 5, 2) := by decide +kernel
theorem dL_law_538 : decode cL_law 538 = .ok (.ifCond .ne 15, 3) := by decide +kernel
theorem dL_law_541 : decode cL_law 541 = .ok (.aload_n 3, 1) := by decide +kernel
theorem dL_law_542 : decode cL_law 542 = .ok (.iconst 0, 1) := by decide +kernel
theorem dL_law_543 : decode cL_law 543 = .ok (.laload, 1) := by decide +kernel
theorem dL_law_544 : decode cL_law 544 = .ok (.iload 6, 2) := by decide +kernel
theorem dL_law_546 : decode cL_law 546 = .ok (.i2l, 1) := by decide +kernel
theorem dL_law_547 : decode cL_law 547 = .ok (.lcmp, 1) := by decide +kernel
theorem dL_law_548 : decode cL_law 548 = .ok (.ifCond .eq 5, 3) := by decide +kernel
theorem dL_law_551 : decode cL_law 551 = .ok (.iconst 0, 1) := by decide +kernel
theorem dL_law_552 : decode cL_law 552 = .ok (.ireturn, 1) := by decide +kernel
theorem dL_law_553 : decode cL_law 553 = .ok (.goto 1350, 3) := by decide +kernel
theorem dL_law_556 : decode cL_law 556 = .ok (.aload_n 1, 1) := by decide +kernel
theorem dL_law_557 : decode cL_law 557 = .ok (.aload_n 3, 1) := by decide +kernel
theorem dL_law_558 : decode cL_law 558 = .ok (.invokestatic 135, 3) := by decide +kernel
theorem dL_law_561 : decode cL_law 561 = .ok (.istore 5, 2) := by decide +kernel
theorem dL_law_563 : decode cL_law 563 = .ok (.aload_n 2, 1) := by decide +kernel
theorem dL_law_564 : decode cL_law 564 = .ok (.invokevirtual 138, 3) := by decide +kernel
theorem dL_law_567 : decode cL_law 567 = .ok (.istore 6, 2) := by decide +kernel
theorem dL_law_569 : decode cL_law 569 = .ok (.aload_n 2, 1) := by decide +kernel
theorem dL_law_570 : decode cL_law 570 = .ok (.invokevirtual 115, 3) := by decide +kernel
theorem dL_law_573 : decode cL_law 573 = .ok (.iload 5, 2) := by decide +kernel
theorem dL_law_575 : decode cL_law 575 = .ok (.if_icmp .eq 5, 3) := by decide +kernel
theorem dL_law_578 : decode cL_law 578 = .ok (.iconst 0, 1) := by decide +kernel
theorem dL_law_579 : decode cL_law 579 = .ok (.ireturn, 1) := by decide +kernel
theorem dL_law_580 : decode cL_law 580 = .ok (.iload 5, 2) := by decide +kernel
end
section
theorem dL_law_582 : decode cL_law 582 = .ok (.ifCond .ne 15, 3) := by decide +kernel
theorem dL_law_585 : decode cL_law 585 = .ok (.aload_n 3, 1) := by decide +kernel
theorem dL_law_586 : decode cL_law 586 = .ok (.iconst 0, 1) := by decide +kernel
theorem dL_law_587 : decode cL_law 587 = .ok (.laload, 1) := by decide +kernel
theorem dL_law_588 : decode cL_law 588 = .ok (.iload 6, 2) := by decide +kernel
theorem dL_law_590 : decode cL_law 590 = .ok (.i2l, 1) := by decide +kernel
theorem dL_law_591 : decode cL_law 591 = .ok (.lcmp, 1) := by decide +kernel
theorem dL_law_592 : decode cL_law 592 = .ok (.ifCond .eq 5, 3) := by decide +kernel
theorem dL_law_595 : decode cL_law 595 = .ok (.iconst 0, 1) := by decide +kernel
theorem dL_law_596 : decode cL_law 596 = .ok (.ireturn, 1) := by decide +kernel
theorem dL_law_597 : decode cL_law 597 = .ok (.goto 1306, 3) := by decide +kernel
theorem dL_law_600 : decode cL_law 600 = .ok (.aload_n 1, 1) := by decide +kernel
theorem dL_law_601 : decode cL_law 601 = .ok (.aload_n 3, 1) := by decide +kernel
theorem dL_law_602 : decode cL_law 602 = .ok (.invokestatic 139, 3) := by decide +kernel
theorem dL_law_605 : decode cL_law 605 = .ok (.istore 5, 2) := by decide +kernel
theorem dL_law_607 : decode cL_law 607 = .ok (.aload_n 2, 1) := by decide +kernel
theorem dL_law_608 : decode cL_law 608 = .ok (.invokevirtual 141, 3) := by decide +kernel
theorem dL_law_611 : decode cL_law 611 = .ok (.istore 6, 2) := by decide +kernel
theorem dL_law_613 : decode cL_law 613 = .ok (.aload_n 2, 1) := by decide +kernel
theorem dL_law_614 : decode cL_law 614 = .ok (.invokevirtual 115, 3) := by decide +kernel
theorem dL_law_617 : decode cL_law 617 = .ok (.iload 5, 2) := by decide +kernel
theorem dL_law_619 : decode cL_law 619 = .ok (.if_icmp .eq 5, 3) := by decide +kernel
theorem dL_law_622 : decode cL_law 622 = .ok (.iconst 0, 1) := by decide +kernel
theorem dL_law_623 : decode cL_law 623 = .ok (.ireturn, 1) := by decide +kernel
theorem dL_law_624 : decode cL_law 624 = .ok (.iload 5, 2) := by decide +kernel
theorem dL_law_626 : decode cL_law 626 = .ok (.ifCond .ne 15, 3) := by decide +kernel
theorem dL_law_629 : decode cL_law 629 = .ok (.aload_n 3, 1) := by decide +kernel
theorem dL_law_630 : decode cL_law 630 = .ok (.iconst 0, 1) := by decide +kernel
theorem dL_law_631 : decode cL_law 631 = .ok (.laload, 1) := by decide +kernel
theorem dL_law_632 : decode cL_law 632 = .ok (.iload 6, 2) := by decide +kernel
theorem dL_law_634 : decode cL_law 634 = .ok (.i2l, 1) := by decide +kernel
theorem dL_law_635 : decode cL_law 635 = .ok (.lcmp, 1) := by decide +kernel
theorem dL_law_636 : decode cL_law 636 = .ok (.ifCond .eq 5, 3) := by decide +kernel
theorem dL_law_639 : decode cL_law 639 = .ok (.iconst 0, 1) := by decide +kernel
theorem dL_law_640 : decode cL_law 640 = .ok (.ireturn, 1) := by decide +kernel
theorem dL_law_641 : decode cL_law 641 = .ok (.goto 1262, 3) := by decide +kernel
theorem dL_law_644 : decode cL_law 644 = .ok (.aload_n 1, 1) := by decide +kernel
theorem dL_law_645 : decode cL_law 645 = .ok (.invokevirtual 142, 3) := by decide +kernel
theorem dL_law_648 : decode cL_law 648 = .ok (.aload_n 2, 1) := by decide +kernel
theorem dL_law_649 : decode cL_law 649 = .ok (.invokevirtual 145, 3) := by decide +kernel
theorem dL_law_652 : decode cL_law 652 = .ok (.if_icmp .eq 1251, 3) := by decide +kernel
theorem dL_law_655 : decode cL_law 655 = .ok (.iconst 0, 1) := by decide +kernel
theorem dL_law_656 : decode cL_law 656 = .ok (.ireturn, 1) := by decide +kernel
theorem dL_law_657 : decode cL_law 657 = .ok (.aload_n 1, 1) := by decide +kernel
theorem dL_law_658 : decode cL_law 658 = .ok (.aload_n 0, 1) := by decide +kernel
theorem dL_law_659 : decode cL_law 659 = .ok (.iload 4, 2) := by decide +kernel
theorem dL_law_661 : decode cL_law 661 = .ok (.iconst 1, 1) := by decide +kernel
theorem dL_law_662 : decode cL_law 662 = .ok (.iadd, 1) := by decide +kernel
theorem dL_law_663 : decode cL_law 663 = .ok (.iaload, 1) := by decide +kernel
theorem dL_law_664 : decode cL_law 664 = .ok (.aload_n 3, 1) := by decide +kernel
theorem dL_law_665 : decode cL_law 665 = .ok (.invokestatic 146, 3) := by decide +kernel
theorem dL_law_668 : decode cL_law 668 = .ok (.istore 5, 2) := by decide +kernel
theorem dL_law_670 : decode cL_law 670 = .ok (.aload_n 2, 1) := by decide +kernel
theorem dL_law_671 : decode cL_law 671 = .ok (.aload_n 0, 1) := by decide +kernel
theorem dL_law_672 : decode cL_law 672 = .ok (.iload 4, 2) := by decide +kernel
theorem dL_law_674 : decode cL_law 674 = .ok (.iconst 1, 1) := by decide +kernel
theorem dL_law_675 : decode cL_law 675 = .ok (.iadd, 1) := by decide +kernel
theorem dL_law_676 : decode cL_law 676 = .ok (.iaload, 1) := by decide +kernel
theorem dL_law_677 : decode cL_law 677 = .ok (.invokevirtual 148, 3) := by decide +kernel
theorem dL_law_680 : decode cL_law 680 = .ok (.istore 6, 2) := by decide +kernel
theorem dL_law_682 : decode cL_law 682 = .ok (.aload_n 2, 1) := by decide +kernel
theorem dL_law_683 : decode cL_law 683 = .ok (.invokevirtual 115, 3) := by decide +kernel
theorem dL_law_686 : decode cL_law 686 = .ok (.iload 5, 2) := by decide +kernel
theorem dL_law_688 : decode cL_law 688 = .ok (.if_icmp .eq 5, 3) := by decide +kernel
theorem dL_law_691 : decode cL_law 691 = .ok (.iconst 0, 1) := by decide +kernel
theorem dL_law_692 : decode cL_law 692 = .ok (.ireturn, 1) := by decide +kernel
theorem dL_law_693 : decode cL_law 693 = .ok (.iload 5, 2) := by decide +kernel
theorem dL_law_695 : decode cL_law 695 = .ok (.ifCond .ne 15, 3) := by decide +kernel
theorem dL_law_698 : decode cL_law 698 = .ok (.aload_n 3, 1) := by decide +kernel
theorem dL_law_699 : decode cL_law 699 = .ok (.iconst 0, 1) := by decide +kernel
theorem dL_law_700 : decode cL_law 700 = .ok (.laload, 1) := by decide +kernel
theorem dL_law_701 : decode cL_law 701 = .ok (.iload 6, 2) := by decide +kernel
theorem dL_law_703 : decode cL_law 703 = .ok (.i2l, 1) := by decide +kernel
theorem dL_law_704 : decode cL_law 704 = .ok (.lcmp, 1) := by decide +kernel
theorem dL_law_705 : decode cL_law 705 = .ok (.ifCond .eq 5, 3) := by decide +kernel
theorem dL_law_708 : decode cL_law 708 = .ok (.iconst 0, 1) := by decide +kernel
theorem dL_law_709 : decode cL_law 709 = .ok (.ireturn, 1) := by decide +kernel
theorem dL_law_710 : decode cL_law 710 = .ok (.goto 1193, 3) := by decide +kernel
theorem dL_law_713 : decode cL_law 713 = .ok (.aload_n 1, 1) := by decide +kernel
theorem dL_law_714 : decode cL_law 714 = .ok (.aload_n 0, 1) := by decide +kernel
theorem dL_law_715 : decode cL_law 715 = .ok (.iload 4, 2) := by decide +kernel
theorem dL_law_717 : decode cL_law 717 = .ok (.iconst 1, 1) := by decide +kernel
theorem dL_law_718 : decode cL_law 718 = .ok (.iadd, 1) := by decide +kernel
theorem dL_law_719 : decode cL_law 719 = .ok (.iaload, 1) := by decide +kernel
theorem dL_law_720 : decode cL_law 720 = .ok (.aload_n 3, 1) := by decide +kernel
theorem dL_law_721 : decode cL_law 721 = .ok (.invokestatic 149, 3) := by decide +kernel
theorem dL_law_724 : decode cL_law 724 = .ok (.istore 5, 2) := by decide +kernel
theorem dL_law_726 : decode cL_law 726 = .ok (.aload_n 2, 1) := by decide +kernel
theorem dL_law_727 : decode cL_law 727 = .ok (.aload_n 0, 1) := by decide +kernel
theorem dL_law_728 : decode cL_law 728 = .ok (.iload 4, 2) := by decide +kernel
theorem dL_law_730 : decode cL_law 730 = .ok (.iconst 1, 1) := by decide +kernel
theorem dL_law_731 : decode cL_law 731 = .ok (.iadd, 1) := by decide +kernel
theorem dL_law_732 : decode cL_law 732 = .ok (.iaload, 1) := by decide +kernel
theorem dL_law_733 : decode cL_law 733 = .ok (.invokevirtual 151, 3) := by decide +kernel
theorem dL_law_736 : decode cL_law 736 = .ok (.istore 6, 2) := by decide +kernel
theorem dL_law_738 : decode cL_law 738 = .ok (.aload_n 2, 1) := by decide +kernel
theorem dL_law_739 : decode cL_law 739 = .ok (.invokevirtual 115, 3) := by decide +kernel
theorem dL_law_742 : decode cL_law 742 = .ok (.iload 5, 2) := by decide +kernel
theorem dL_law_744 : decode cL_law 744 = .ok (.if_icmp .eq 5, 3) := by decide +kernel
theorem dL_law_747 : decode cL_law 747 = .ok (.iconst 0, 1) := by decide +kernel
theorem dL_law_748 : decode cL_law 748 = .ok (.ireturn, 1) := by decide +kernel
theorem dL_law_749 : decode cL_law 749 = .ok (.iload 5, 2) := by decide +kernel
theorem dL_law_751 : decode cL_law 751 = .ok (.ifCond .ne 15, 3) := by decide +kernel
theorem dL_law_754 : decode cL_law 754 = .ok (.aload_n 3, 1) := by decide +kernel
theorem dL_law_755 : decode cL_law 755 = .ok (.iconst 0, 1) := by decide +kernel
theorem dL_law_756 : decode cL_law 756 = .ok (.laload, 1) := by decide +kernel
theorem dL_law_757 : decode cL_law 757 = .ok (.iload 6, 2) := by decide +kernel
theorem dL_law_759 : decode cL_law 759 = .ok (.i2l, 1) := by decide +kernel
theorem dL_law_760 : decode cL_law 760 = .ok (.lcmp, 1) := by decide +kernel
theorem dL_law_761 : decode cL_law 761 = .ok (.ifCond .eq 5, 3) := by decide +kernel
theorem dL_law_764 : decode cL_law 764 = .ok (.iconst 0, 1) := by decide +kernel
theorem dL_law_765 : decode cL_law 765 = .ok (.ireturn, 1) := by decide +kernel
theorem dL_law_766 : decode cL_law 766 = .ok (.goto 1137, 3) := by decide +kernel
theorem dL_law_769 : decode cL_law 769 = .ok (.aload_n 1, 1) := by decide +kernel
theorem dL_law_770 : decode cL_law 770 = .ok (.aload_n 0, 1) := by decide +kernel
theorem dL_law_771 : decode cL_law 771 = .ok (.iload 4, 2) := by decide +kernel
theorem dL_law_773 : decode cL_law 773 = .ok (.iconst 1, 1) := by decide +kernel
theorem dL_law_774 : decode cL_law 774 = .ok (.iadd, 1) := by decide +kernel
theorem dL_law_775 : decode cL_law 775 = .ok (.iaload, 1) := by decide +kernel
theorem dL_law_776 : decode cL_law 776 = .ok (.aload_n 3, 1) := by decide +kernel
theorem dL_law_777 : decode cL_law 777 = .ok (.invokestatic 152, 3) := by decide +kernel
theorem dL_law_780 : decode cL_law 780 = .ok (.istore 5, 2) := by decide +kernel
theorem dL_law_782 : decode cL_law 782 = .ok (.aload_n 2, 1) := by decide +kernel
theorem dL_law_783 : decode cL_law 783 = .ok (.aload_n 0, 1) := by decide +kernel
theorem dL_law_784 : decode cL_law 784 = .ok (.iload 4, 2) := by decide +kernel
theorem dL_law_786 : decode cL_law 786 = .ok (.iconst 1, 1) := by decide +kernel
theorem dL_law_787 : decode cL_law 787 = .ok (.iadd, 1) := by decide +kernel
theorem dL_law_788 : decode cL_law 788 = .ok (.iaload, 1) := by decide +kernel
theorem dL_law_789 : decode cL_law 789 = .ok (.invokevirtual 154, 3) := by decide +kernel
theorem dL_law_792 : decode cL_law 792 = .ok (.istore 6, 2) := by decide +kernel
theorem dL_law_794 : decode cL_law 794 = .ok (.aload_n 2, 1) := by decide +kernel
theorem dL_law_795 : decode cL_law 795 = .ok (.invokevirtual 115, 3) := by decide +kernel
theorem dL_law_798 : decode cL_law 798 = .ok (.iload 5, 2) := by decide +kernel
theorem dL_law_800 : decode cL_law 800 = .ok (.if_icmp .eq 5, 3) := by decide +kernel
theorem dL_law_803 : decode cL_law 803 = .ok (.iconst 0, 1) := by decide +kernel
theorem dL_law_804 : decode cL_law 804 = .ok (.ireturn, 1) := by decide +kernel
theorem dL_law_805 : decode cL_law 805 = .ok (.iload 5, 2) := by decide +kernel
theorem dL_law_807 : decode cL_law 807 = .ok (.ifCond .ne 15, 3) := by decide +kernel
theorem dL_law_810 : decode cL_law 810 = .ok (.aload_n 3, 1) := by decide +kernel
theorem dL_law_811 : decode cL_law 811 = .ok (.iconst 0, 1) := by decide +kernel
theorem dL_law_812 : decode cL_law 812 = .ok (.laload, 1) := by decide +kernel
theorem dL_law_813 : decode cL_law 813 = .ok (.iload 6, 2) := by decide +kernel
theorem dL_law_815 : decode cL_law 815 = .ok (.i2l, 1) := by decide +kernel
theorem dL_law_816 : decode cL_law 816 = .ok (.lcmp, 1) := by decide +kernel
theorem dL_law_817 : decode cL_law 817 = .ok (.ifCond .eq 5, 3) := by decide +kernel
theorem dL_law_820 : decode cL_law 820 = .ok (.iconst 0, 1) := by decide +kernel
theorem dL_law_821 : decode cL_law 821 = .ok (.ireturn, 1) := by decide +kernel
theorem dL_law_822 : decode cL_law 822 = .ok (.goto 1081, 3) := by decide +kernel
theorem dL_law_825 : decode cL_law 825 = .ok (.aload_n 1, 1) := by decide +kernel
theorem dL_law_826 : decode cL_law 826 = .ok (.aload_n 0, 1) := by decide +kernel
theorem dL_law_827 : decode cL_law 827 = .ok (.iload 4, 2) := by decide +kernel
theorem dL_law_829 : decode cL_law 829 = .ok (.iconst 1, 1) := by decide +kernel
theorem dL_law_830 : decode cL_law 830 = .ok (.iadd, 1) := by decide +kernel
theorem dL_law_831 : decode cL_law 831 = .ok (.iaload, 1) := by decide +kernel
theorem dL_law_832 : decode cL_law 832 = .ok (.aload_n 0, 1) := by decide +kernel
theorem dL_law_833 : decode cL_law 833 = .ok (.iload 4, 2) := by decide +kernel
theorem dL_law_835 : decode cL_law 835 = .ok (.iconst 2, 1) := by decide +kernel
theorem dL_law_836 : decode cL_law 836 = .ok (.iadd, 1) := by decide +kernel
theorem dL_law_837 : decode cL_law 837 = .ok (.iaload, 1) := by decide +kernel
theorem dL_law_838 : decode cL_law 838 = .ok (.aload_n 3, 1) := by decide +kernel
theorem dL_law_839 : decode cL_law 839 = .ok (.invokestatic 155, 3) := by decide +kernel
theorem dL_law_842 : decode cL_law 842 = .ok (.istore 5, 2) := by decide +kernel
theorem dL_law_844 : decode cL_law 844 = .ok (.aload_n 2, 1) := by decide +kernel
theorem dL_law_845 : decode cL_law 845 = .ok (.aload_n 0, 1) := by decide +kernel
theorem dL_law_846 : decode cL_law 846 = .ok (.iload 4, 2) := by decide +kernel
theorem dL_law_848 : decode cL_law 848 = .ok (.iconst 1, 1) := by decide +kernel
theorem dL_law_849 : decode cL_law 849 = .ok (.iadd, 1) := by decide +kernel
theorem dL_law_850 : decode cL_law 850 = .ok (.iaload, 1) := by decide +kernel
theorem dL_law_851 : decode cL_law 851 = .ok (.aload_n 0, 1) := by decide +kernel
theorem dL_law_852 : decode cL_law 852 = .ok (.iload 4, 2) := by decide +kernel
theorem dL_law_854 : decode cL_law 854 = .ok (.iconst 2, 1) := by decide +kernel
theorem dL_law_855 : decode cL_law 855 = .ok (.iadd, 1) := by decide +kernel
theorem dL_law_856 : decode cL_law 856 = .ok (.iaload, 1) := by decide +kernel
theorem dL_law_857 : decode cL_law 857 = .ok (.invokevirtual 157, 3) := by decide +kernel
theorem dL_law_860 : decode cL_law 860 = .ok (.istore 6, 2) := by decide +kernel
theorem dL_law_862 : decode cL_law 862 = .ok (.aload_n 2, 1) := by decide +kernel
theorem dL_law_863 : decode cL_law 863 = .ok (.invokevirtual 115, 3) := by decide +kernel
theorem dL_law_866 : decode cL_law 866 = .ok (.iload 5, 2) := by decide +kernel
theorem dL_law_868 : decode cL_law 868 = .ok (.if_icmp .eq 5, 3) := by decide +kernel
theorem dL_law_871 : decode cL_law 871 = .ok (.iconst 0, 1) := by decide +kernel
theorem dL_law_872 : decode cL_law 872 = .ok (.ireturn, 1) := by decide +kernel
theorem dL_law_873 : decode cL_law 873 = .ok (.iload 5, 2) := by decide +kernel
theorem dL_law_875 : decode cL_law 875 = .ok (.ifCond .ne 15, 3) := by decide +kernel
theorem dL_law_878 : decode cL_law 878 = .ok (.aload_n 3, 1) := by decide +kernel
theorem dL_law_879 : decode cL_law 879 = .ok (.iconst 0, 1) := by decide +kernel
theorem dL_law_880 : decode cL_law 880 = .ok (.laload, 1) := by decide +kernel
theorem dL_law_881 : decode cL_law 881 = .ok (.iload 6, 2) := by decide +kernel
theorem dL_law_883 : decode cL_law 883 = .ok (.i2l, 1) := by decide +kernel
theorem dL_law_884 : decode cL_law 884 = .ok (.lcmp, 1) := by decide +kernel
theorem dL_law_885 : decode cL_law 885 = .ok (.ifCond .eq 5, 3) := by decide +kernel
theorem dL_law_888 : decode cL_law 888 = .ok (.iconst 0, 1) := by decide +kernel
theorem dL_law_889 : decode cL_law 889 = .ok (.ireturn, 1) := by decide +kernel
theorem dL_law_890 : decode cL_law 890 = .ok (.goto 1013, 3) := by decide +kernel
theorem dL_law_893 : decode cL_law 893 = .ok (.aload_n 1, 1) := by decide +kernel
theorem dL_law_894 : decode cL_law 894 = .ok (.aload_n 0, 1) := by decide +kernel
theorem dL_law_895 : decode cL_law 895 = .ok (.iload 4, 2) := by decide +kernel
theorem dL_law_897 : decode cL_law 897 = .ok (.iconst 1, 1) := by decide +kernel
theorem dL_law_898 : decode cL_law 898 = .ok (.iadd, 1) := by decide +kernel
theorem dL_law_899 : decode cL_law 899 = .ok (.iaload, 1) := by decide +kernel
theorem dL_law_900 : decode cL_law 900 = .ok (.aload_n 0, 1) := by decide +kernel
theorem dL_law_901 : decode cL_law 901 = .ok (.iload 4, 2) := by decide +kernel
theorem dL_law_903 : decode cL_law 903 = .ok (.iconst 2, 1) := by decide +kernel
theorem dL_law_904 : decode cL_law 904 = .ok (.iadd, 1) := by decide +kernel
theorem dL_law_905 : decode cL_law 905 = .ok (.iaload, 1) := by decide +kernel
theorem dL_law_906 : decode cL_law 906 = .ok (.aload_n 3, 1) := by decide +kernel
theorem dL_law_907 : decode cL_law 907 = .ok (.invokestatic 158, 3) := by decide +kernel
theorem dL_law_910 : decode cL_law 910 = .ok (.istore 5, 2) := by decide +kernel
theorem dL_law_912 : decode cL_law 912 = .ok (.aload_n 2, 1) := by decide +kernel
theorem dL_law_913 : decode cL_law 913 = .ok (.aload_n 0, 1) := by decide +kernel
theorem dL_law_914 : decode cL_law 914 = .ok (.iload 4, 2) := by decide +kernel
theorem dL_law_916 : decode cL_law 916 = .ok (.iconst 1, 1) := by decide +kernel
theorem dL_law_917 : decode cL_law 917 = .ok (.iadd, 1) := by decide +kernel
theorem dL_law_918 : decode cL_law 918 = .ok (.iaload, 1) := by decide +kernel
theorem dL_law_919 : decode cL_law 919 = .ok (.aload_n 0, 1) := by decide +kernel
theorem dL_law_920 : decode cL_law 920 = .ok (.iload 4, 2) := by decide +kernel
theorem dL_law_922 : decode cL_law 922 = .ok (.iconst 2, 1) := by decide +kernel
theorem dL_law_923 : decode cL_law 923 = .ok (.iadd, 1) := by decide +kernel
theorem dL_law_924 : decode cL_law 924 = .ok (.iaload, 1) := by decide +kernel
theorem dL_law_925 : decode cL_law 925 = .ok (.invokevirtual 160, 3) := by decide +kernel
theorem dL_law_928 : decode cL_law 928 = .ok (.istore 6, 2) := by decide +kernel
theorem dL_law_930 : decode cL_law 930 = .ok (.aload_n 2, 1) := by decide +kernel
theorem dL_law_931 : decode cL_law 931 = .ok (.invokevirtual 115, 3) := by decide +kernel
theorem dL_law_934 : decode cL_law 934 = .ok (.iload 5, 2) := by decide +kernel
theorem dL_law_936 : decode cL_law 936 = .ok (.if_icmp .eq 5, 3) := by decide +kernel
theorem dL_law_939 : decode cL_law 939 = .ok (.iconst 0, 1) := by decide +kernel
theorem dL_law_940 : decode cL_law 940 = .ok (.ireturn, 1) := by decide +kernel
theorem dL_law_941 : decode cL_law 941 = .ok (.iload 5, 2) := by decide +kernel
theorem dL_law_943 : decode cL_law 943 = .ok (.ifCond .ne 15, 3) := by decide +kernel
theorem dL_law_946 : decode cL_law 946 = .ok (.aload_n 3, 1) := by decide +kernel
theorem dL_law_947 : decode cL_law 947 = .ok (.iconst 0, 1) := by decide +kernel
theorem dL_law_948 : decode cL_law 948 = .ok (.laload, 1) := by decide +kernel
theorem dL_law_949 : decode cL_law 949 = .ok (.iload 6, 2) := by decide +kernel
theorem dL_law_951 : decode cL_law 951 = .ok (.i2l, 1) := by decide +kernel
theorem dL_law_952 : decode cL_law 952 = .ok (.lcmp, 1) := by decide +kernel
theorem dL_law_953 : decode cL_law 953 = .ok (.ifCond .eq 5, 3) := by decide +kernel
theorem dL_law_956 : decode cL_law 956 = .ok (.iconst 0, 1) := by decide +kernel
theorem dL_law_957 : decode cL_law 957 = .ok (.ireturn, 1) := by decide +kernel
theorem dL_law_958 : decode cL_law 958 = .ok (.goto 945, 3) := by decide +kernel
theorem dL_law_961 : decode cL_law 961 = .ok (.aload_n 1, 1) := by decide +kernel
theorem dL_law_962 : decode cL_law 962 = .ok (.aload_n 0, 1) := by decide +kernel
theorem dL_law_963 : decode cL_law 963 = .ok (.iload 4, 2) := by decide +kernel
theorem dL_law_965 : decode cL_law 965 = .ok (.iconst 1, 1) := by decide +kernel
theorem dL_law_966 : decode cL_law 966 = .ok (.iadd, 1) := by decide +kernel
theorem dL_law_967 : decode cL_law 967 = .ok (.iaload, 1) := by decide +kernel
theorem dL_law_968 : decode cL_law 968 = .ok (.aload_n 0, 1) := by decide +kernel
theorem dL_law_969 : decode cL_law 969 = .ok (.iload 4, 2) := by decide +kernel
theorem dL_law_971 : decode cL_law 971 = .ok (.iconst 2, 1) := by decide +kernel
theorem dL_law_972 : decode cL_law 972 = .ok (.iadd, 1) := by decide +kernel
theorem dL_law_973 : decode cL_law 973 = .ok (.iaload, 1) := by decide +kernel
theorem dL_law_974 : decode cL_law 974 = .ok (.aload_n 0, 1) := by decide +kernel
theorem dL_law_975 : decode cL_law 975 = .ok (.iload 4, 2) := by decide +kernel
theorem dL_law_977 : decode cL_law 977 = .ok (.iconst 3, 1) := by decide +kernel
theorem dL_law_978 : decode cL_law 978 = .ok (.iadd, 1) := by decide +kernel
theorem dL_law_979 : decode cL_law 979 = .ok (.iaload, 1) := by decide +kernel
theorem dL_law_980 : decode cL_law 980 = .ok (.aload_n 3, 1) := by decide +kernel
theorem dL_law_981 : decode cL_law 981 = .ok (.invokestatic 161, 3) := by decide +kernel
theorem dL_law_984 : decode cL_law 984 = .ok (.istore 5, 2) := by decide +kernel
theorem dL_law_986 : decode cL_law 986 = .ok (.aload_n 2, 1) := by decide +kernel
theorem dL_law_987 : decode cL_law 987 = .ok (.aload_n 0, 1) := by decide +kernel
theorem dL_law_988 : decode cL_law 988 = .ok (.iload 4, 2) := by decide +kernel
theorem dL_law_990 : decode cL_law 990 = .ok (.iconst 1, 1) := by decide +kernel
theorem dL_law_991 : decode cL_law 991 = .ok (.iadd, 1) := by decide +kernel
theorem dL_law_992 : decode cL_law 992 = .ok (.iaload, 1) := by decide +kernel
theorem dL_law_993 : decode cL_law 993 = .ok (.aload_n 0, 1) := by decide +kernel
theorem dL_law_994 : decode cL_law 994 = .ok (.iload 4, 2) := by decide +kernel
theorem dL_law_996 : decode cL_law 996 = .ok (.iconst 2, 1) := by decide +kernel
theorem dL_law_997 : decode cL_law 997 = .ok (.iadd, 1) := by decide +kernel
theorem dL_law_998 : decode cL_law 998 = .ok (.iaload, 1) := by decide +kernel
theorem dL_law_999 : decode cL_law 999 = .ok (.aload_n 0, 1) := by decide +kernel
theorem dL_law_1000 : decode cL_law 1000 = .ok (.iload 4, 2) := by decide +kernel
theorem dL_law_1002 : decode cL_law 1002 = .ok (.iconst 3, 1) := by decide +kernel
theorem dL_law_1003 : decode cL_law 1003 = .ok (.iadd, 1) := by decide +kernel
theorem dL_law_1004 : decode cL_law 1004 = .ok (.iaload, 1) := by decide +kernel
theorem dL_law_1005 : decode cL_law 1005 = .ok (.invokevirtual 163, 3) := by decide +kernel
theorem dL_law_1008 : decode cL_law 1008 = .ok (.istore 6, 2) := by decide +kernel
theorem dL_law_1010 : decode cL_law 1010 = .ok (.aload_n 2, 1) := by decide +kernel
theorem dL_law_1011 : decode cL_law 1011 = .ok (.invokevirtual 115, 3) := by decide +kernel
theorem dL_law_1014 : decode cL_law 1014 = .ok (.iload 5, 2) := by decide +kernel
theorem dL_law_1016 : decode cL_law 1016 = .ok (.if_icmp .eq 5, 3) := by decide +kernel
theorem dL_law_1019 : decode cL_law 1019 = .ok (.iconst 0, 1) := by decide +kernel
end
section
theorem dL_law_1020 : decode cL_law 1020 = .ok (.ireturn, 1) := by decide +kernel
theorem dL_law_1021 : decode cL_law 1021 = .ok (.iload 5, 2) := by decide +kernel
theorem dL_law_1023 : decode cL_law 1023 = .ok (.ifCond .ne 15, 3) := by decide +kernel
theorem dL_law_1026 : decode cL_law 1026 = .ok (.aload_n 3, 1) := by decide +kernel
theorem dL_law_1027 : decode cL_law 1027 = .ok (.iconst 0, 1) := by decide +kernel
theorem dL_law_1028 : decode cL_law 1028 = .ok (.laload, 1) := by decide +kernel
theorem dL_law_1029 : decode cL_law 1029 = .ok (.iload 6, 2) := by decide +kernel
theorem dL_law_1031 : decode cL_law 1031 = .ok (.i2l, 1) := by decide +kernel
theorem dL_law_1032 : decode cL_law 1032 = .ok (.lcmp, 1) := by decide +kernel
theorem dL_law_1033 : decode cL_law 1033 = .ok (.ifCond .eq 5, 3) := by decide +kernel
theorem dL_law_1036 : decode cL_law 1036 = .ok (.iconst 0, 1) := by decide +kernel
theorem dL_law_1037 : decode cL_law 1037 = .ok (.ireturn, 1) := by decide +kernel
theorem dL_law_1038 : decode cL_law 1038 = .ok (.goto 865, 3) := by decide +kernel
theorem dL_law_1041 : decode cL_law 1041 = .ok (.aload_n 1, 1) := by decide +kernel
theorem dL_law_1042 : decode cL_law 1042 = .ok (.aload_n 0, 1) := by decide +kernel
theorem dL_law_1043 : decode cL_law 1043 = .ok (.iload 4, 2) := by decide +kernel
theorem dL_law_1045 : decode cL_law 1045 = .ok (.iconst 1, 1) := by decide +kernel
theorem dL_law_1046 : decode cL_law 1046 = .ok (.iadd, 1) := by decide +kernel
theorem dL_law_1047 : decode cL_law 1047 = .ok (.iaload, 1) := by decide +kernel
theorem dL_law_1048 : decode cL_law 1048 = .ok (.aload_n 0, 1) := by decide +kernel
theorem dL_law_1049 : decode cL_law 1049 = .ok (.iload 4, 2) := by decide +kernel
theorem dL_law_1051 : decode cL_law 1051 = .ok (.iconst 2, 1) := by decide +kernel
theorem dL_law_1052 : decode cL_law 1052 = .ok (.iadd, 1) := by decide +kernel
theorem dL_law_1053 : decode cL_law 1053 = .ok (.iaload, 1) := by decide +kernel
theorem dL_law_1054 : decode cL_law 1054 = .ok (.aload_n 3, 1) := by decide +kernel
theorem dL_law_1055 : decode cL_law 1055 = .ok (.invokestatic 164, 3) := by decide +kernel
theorem dL_law_1058 : decode cL_law 1058 = .ok (.istore 5, 2) := by decide +kernel
theorem dL_law_1060 : decode cL_law 1060 = .ok (.aload_n 2, 1) := by decide +kernel
theorem dL_law_1061 : decode cL_law 1061 = .ok (.aload_n 0, 1) := by decide +kernel
theorem dL_law_1062 : decode cL_law 1062 = .ok (.iload 4, 2) := by decide +kernel
theorem dL_law_1064 : decode cL_law 1064 = .ok (.iconst 1, 1) := by decide +kernel
theorem dL_law_1065 : decode cL_law 1065 = .ok (.iadd, 1) := by decide +kernel
theorem dL_law_1066 : decode cL_law 1066 = .ok (.iaload, 1) := by decide +kernel
theorem dL_law_1067 : decode cL_law 1067 = .ok (.aload_n 0, 1) := by decide +kernel
theorem dL_law_1068 : decode cL_law 1068 = .ok (.iload 4, 2) := by decide +kernel
theorem dL_law_1070 : decode cL_law 1070 = .ok (.iconst 2, 1) := by decide +kernel
theorem dL_law_1071 : decode cL_law 1071 = .ok (.iadd, 1) := by decide +kernel
theorem dL_law_1072 : decode cL_law 1072 = .ok (.iaload, 1) := by decide +kernel
theorem dL_law_1073 : decode cL_law 1073 = .ok (.invokevirtual 166, 3) := by decide +kernel
theorem dL_law_1076 : decode cL_law 1076 = .ok (.istore 6, 2) := by decide +kernel
theorem dL_law_1078 : decode cL_law 1078 = .ok (.aload_n 2, 1) := by decide +kernel
theorem dL_law_1079 : decode cL_law 1079 = .ok (.invokevirtual 115, 3) := by decide +kernel
theorem dL_law_1082 : decode cL_law 1082 = .ok (.iload 5, 2) := by decide +kernel
theorem dL_law_1084 : decode cL_law 1084 = .ok (.if_icmp .eq 5, 3) := by decide +kernel
theorem dL_law_1087 : decode cL_law 1087 = .ok (.iconst 0, 1) := by decide +kernel
theorem dL_law_1088 : decode cL_law 1088 = .ok (.ireturn, 1) := by decide +kernel
theorem dL_law_1089 : decode cL_law 1089 = .ok (.iload 5, 2) := by decide +kernel
theorem dL_law_1091 : decode cL_law 1091 = .ok (.ifCond .ne 22, 3) := by decide +kernel
theorem dL_law_1094 : decode cL_law 1094 = .ok (.aload_n 3, 1) := by decide +kernel
theorem dL_law_1095 : decode cL_law 1095 = .ok (.iconst 0, 1) := by decide +kernel
theorem dL_law_1096 : decode cL_law 1096 = .ok (.laload, 1) := by decide +kernel
theorem dL_law_1097 : decode cL_law 1097 = .ok (.iload 6, 2) := by decide +kernel
theorem dL_law_1099 : decode cL_law 1099 = .ok (.ifCond .eq 7, 3) := by decide +kernel
theorem dL_law_1102 : decode cL_law 1102 = .ok (.lconst 1, 1) := by decide +kernel
theorem dL_law_1103 : decode cL_law 1103 = .ok (.goto 4, 3) := by decide +kernel
theorem dL_law_1106 : decode cL_law 1106 = .ok (.lconst 0, 1) := by decide +kernel
theorem dL_law_1107 : decode cL_law 1107 = .ok (.lcmp, 1) := by decide +kernel
theorem dL_law_1108 : decode cL_law 1108 = .ok (.ifCond .eq 5, 3) := by decide +kernel
theorem dL_law_1111 : decode cL_law 1111 = .ok (.iconst 0, 1) := by decide +kernel
theorem dL_law_1112 : decode cL_law 1112 = .ok (.ireturn, 1) := by decide +kernel
theorem dL_law_1113 : decode cL_law 1113 = .ok (.goto 790, 3) := by decide +kernel
theorem dL_law_1116 : decode cL_law 1116 = .ok (.aload_n 1, 1) := by decide +kernel
theorem dL_law_1117 : decode cL_law 1117 = .ok (.invokevirtual 167, 3) := by decide +kernel
theorem dL_law_1120 : decode cL_law 1120 = .ok (.aload_n 2, 1) := by decide +kernel
theorem dL_law_1121 : decode cL_law 1121 = .ok (.invokevirtual 170, 3) := by decide +kernel
theorem dL_law_1124 : decode cL_law 1124 = .ok (.if_icmp .eq 779, 3) := by decide +kernel
theorem dL_law_1127 : decode cL_law 1127 = .ok (.iconst 0, 1) := by decide +kernel
theorem dL_law_1128 : decode cL_law 1128 = .ok (.ireturn, 1) := by decide +kernel
theorem dL_law_1129 : decode cL_law 1129 = .ok (.aload_n 1, 1) := by decide +kernel
theorem dL_law_1130 : decode cL_law 1130 = .ok (.aload_n 0, 1) := by decide +kernel
theorem dL_law_1131 : decode cL_law 1131 = .ok (.iload 4, 2) := by decide +kernel
theorem dL_law_1133 : decode cL_law 1133 = .ok (.iconst 1, 1) := by decide +kernel
theorem dL_law_1134 : decode cL_law 1134 = .ok (.iadd, 1) := by decide +kernel
theorem dL_law_1135 : decode cL_law 1135 = .ok (.iaload, 1) := by decide +kernel
theorem dL_law_1136 : decode cL_law 1136 = .ok (.aload_n 3, 1) := by decide +kernel
theorem dL_law_1137 : decode cL_law 1137 = .ok (.invokestatic 171, 3) := by decide +kernel
theorem dL_law_1140 : decode cL_law 1140 = .ok (.istore 5, 2) := by decide +kernel
theorem dL_law_1142 : decode cL_law 1142 = .ok (.aload_n 2, 1) := by decide +kernel
theorem dL_law_1143 : decode cL_law 1143 = .ok (.aload_n 0, 1) := by decide +kernel
theorem dL_law_1144 : decode cL_law 1144 = .ok (.iload 4, 2) := by decide +kernel
theorem dL_law_1146 : decode cL_law 1146 = .ok (.iconst 1, 1) := by decide +kernel
theorem dL_law_1147 : decode cL_law 1147 = .ok (.iadd, 1) := by decide +kernel
theorem dL_law_1148 : decode cL_law 1148 = .ok (.iaload, 1) := by decide +kernel
theorem dL_law_1149 : decode cL_law 1149 = .ok (.invokevirtual 173, 3) := by decide +kernel
theorem dL_law_1152 : decode cL_law 1152 = .ok (.istore 6, 2) := by decide +kernel
theorem dL_law_1154 : decode cL_law 1154 = .ok (.aload_n 2, 1) := by decide +kernel
theorem dL_law_1155 : decode cL_law 1155 = .ok (.invokevirtual 115, 3) := by decide +kernel
theorem dL_law_1158 : decode cL_law 1158 = .ok (.iload 5, 2) := by decide +kernel
theorem dL_law_1160 : decode cL_law 1160 = .ok (.if_icmp .eq 5, 3) := by decide +kernel
theorem dL_law_1163 : decode cL_law 1163 = .ok (.iconst 0, 1) := by decide +kernel
theorem dL_law_1164 : decode cL_law 1164 = .ok (.ireturn, 1) := by decide +kernel
theorem dL_law_1165 : decode cL_law 1165 = .ok (.iload 5, 2) := by decide +kernel
theorem dL_law_1167 : decode cL_law 1167 = .ok (.ifCond .ne 15, 3) := by decide +kernel
theorem dL_law_1170 : decode cL_law 1170 = .ok (.aload_n 3, 1) := by decide +kernel
theorem dL_law_1171 : decode cL_law 1171 = .ok (.iconst 0, 1) := by decide +kernel
theorem dL_law_1172 : decode cL_law 1172 = .ok (.laload, 1) := by decide +kernel
theorem dL_law_1173 : decode cL_law 1173 = .ok (.iload 6, 2) := by decide +kernel
theorem dL_law_1175 : decode cL_law 1175 = .ok (.i2l, 1) := by decide +kernel
theorem dL_law_1176 : decode cL_law 1176 = .ok (.lcmp, 1) := by decide +kernel
theorem dL_law_1177 : decode cL_law 1177 = .ok (.ifCond .eq 5, 3) := by decide +kernel
theorem dL_law_1180 : decode cL_law 1180 = .ok (.iconst 0, 1) := by decide +kernel
theorem dL_law_1181 : decode cL_law 1181 = .ok (.ireturn, 1) := by decide +kernel
theorem dL_law_1182 : decode cL_law 1182 = .ok (.goto 721, 3) := by decide +kernel
theorem dL_law_1185 : decode cL_law 1185 = .ok (.aload_n 1, 1) := by decide +kernel
theorem dL_law_1186 : decode cL_law 1186 = .ok (.aload_n 0, 1) := by decide +kernel
theorem dL_law_1187 : decode cL_law 1187 = .ok (.iload 4, 2) := by decide +kernel
theorem dL_law_1189 : decode cL_law 1189 = .ok (.iconst 1, 1) := by decide +kernel
theorem dL_law_1190 : decode cL_law 1190 = .ok (.iadd, 1) := by decide +kernel
theorem dL_law_1191 : decode cL_law 1191 = .ok (.iaload, 1) := by decide +kernel
theorem dL_law_1192 : decode cL_law 1192 = .ok (.aload_n 3, 1) := by decide +kernel
theorem dL_law_1193 : decode cL_law 1193 = .ok (.invokestatic 174, 3) := by decide +kernel
theorem dL_law_1196 : decode cL_law 1196 = .ok (.istore 5, 2) := by decide +kernel
theorem dL_law_1198 : decode cL_law 1198 = .ok (.aload_n 2, 1) := by decide +kernel
theorem dL_law_1199 : decode cL_law 1199 = .ok (.aload_n 0, 1) := by decide +kernel
theorem dL_law_1200 : decode cL_law 1200 = .ok (.iload 4, 2) := by decide +kernel
theorem dL_law_1202 : decode cL_law 1202 = .ok (.iconst 1, 1) := by decide +kernel
theorem dL_law_1203 : decode cL_law 1203 = .ok (.iadd, 1) := by decide +kernel
theorem dL_law_1204 : decode cL_law 1204 = .ok (.iaload, 1) := by decide +kernel
theorem dL_law_1205 : decode cL_law 1205 = .ok (.invokevirtual 176, 3) := by decide +kernel
theorem dL_law_1208 : decode cL_law 1208 = .ok (.istore 6, 2) := by decide +kernel
theorem dL_law_1210 : decode cL_law 1210 = .ok (.aload_n 2, 1) := by decide +kernel
theorem dL_law_1211 : decode cL_law 1211 = .ok (.invokevirtual 115, 3) := by decide +kernel
theorem dL_law_1214 : decode cL_law 1214 = .ok (.iload 5, 2) := by decide +kernel
theorem dL_law_1216 : decode cL_law 1216 = .ok (.if_icmp .eq 5, 3) := by decide +kernel
theorem dL_law_1219 : decode cL_law 1219 = .ok (.iconst 0, 1) := by decide +kernel
theorem dL_law_1220 : decode cL_law 1220 = .ok (.ireturn, 1) := by decide +kernel
theorem dL_law_1221 : decode cL_law 1221 = .ok (.iload 5, 2) := by decide +kernel
theorem dL_law_1223 : decode cL_law 1223 = .ok (.ifCond .ne 15, 3) := by decide +kernel
theorem dL_law_1226 : decode cL_law 1226 = .ok (.aload_n 3, 1) := by decide +kernel
theorem dL_law_1227 : decode cL_law 1227 = .ok (.iconst 0, 1) := by decide +kernel
theorem dL_law_1228 : decode cL_law 1228 = .ok (.laload, 1) := by decide +kernel
theorem dL_law_1229 : decode cL_law 1229 = .ok (.iload 6, 2) := by decide +kernel
theorem dL_law_1231 : decode cL_law 1231 = .ok (.i2l, 1) := by decide +kernel
theorem dL_law_1232 : decode cL_law 1232 = .ok (.lcmp, 1) := by decide +kernel
theorem dL_law_1233 : decode cL_law 1233 = .ok (.ifCond .eq 5, 3) := by decide +kernel
theorem dL_law_1236 : decode cL_law 1236 = .ok (.iconst 0, 1) := by decide +kernel
theorem dL_law_1237 : decode cL_law 1237 = .ok (.ireturn, 1) := by decide +kernel
theorem dL_law_1238 : decode cL_law 1238 = .ok (.goto 665, 3) := by decide +kernel
theorem dL_law_1241 : decode cL_law 1241 = .ok (.aload_n 1, 1) := by decide +kernel
theorem dL_law_1242 : decode cL_law 1242 = .ok (.aload_n 0, 1) := by decide +kernel
theorem dL_law_1243 : decode cL_law 1243 = .ok (.iload 4, 2) := by decide +kernel
theorem dL_law_1245 : decode cL_law 1245 = .ok (.iconst 1, 1) := by decide +kernel
theorem dL_law_1246 : decode cL_law 1246 = .ok (.iadd, 1) := by decide +kernel
theorem dL_law_1247 : decode cL_law 1247 = .ok (.iaload, 1) := by decide +kernel
theorem dL_law_1248 : decode cL_law 1248 = .ok (.aload_n 3, 1) := by decide +kernel
theorem dL_law_1249 : decode cL_law 1249 = .ok (.invokestatic 177, 3) := by decide +kernel
theorem dL_law_1252 : decode cL_law 1252 = .ok (.istore 5, 2) := by decide +kernel
theorem dL_law_1254 : decode cL_law 1254 = .ok (.aload_n 2, 1) := by decide +kernel
theorem dL_law_1255 : decode cL_law 1255 = .ok (.aload_n 0, 1) := by decide +kernel
theorem dL_law_1256 : decode cL_law 1256 = .ok (.iload 4, 2) := by decide +kernel
theorem dL_law_1258 : decode cL_law 1258 = .ok (.iconst 1, 1) := by decide +kernel
theorem dL_law_1259 : decode cL_law 1259 = .ok (.iadd, 1) := by decide +kernel
theorem dL_law_1260 : decode cL_law 1260 = .ok (.iaload, 1) := by decide +kernel
theorem dL_law_1261 : decode cL_law 1261 = .ok (.invokevirtual 179, 3) := by decide +kernel
theorem dL_law_1264 : decode cL_law 1264 = .ok (.istore 6, 2) := by decide +kernel
theorem dL_law_1266 : decode cL_law 1266 = .ok (.aload_n 2, 1) := by decide +kernel
theorem dL_law_1267 : decode cL_law 1267 = .ok (.invokevirtual 115, 3) := by decide +kernel
theorem dL_law_1270 : decode cL_law 1270 = .ok (.iload 5, 2) := by decide +kernel
theorem dL_law_1272 : decode cL_law 1272 = .ok (.if_icmp .eq 5, 3) := by decide +kernel
theorem dL_law_1275 : decode cL_law 1275 = .ok (.iconst 0, 1) := by decide +kernel
theorem dL_law_1276 : decode cL_law 1276 = .ok (.ireturn, 1) := by decide +kernel
theorem dL_law_1277 : decode cL_law 1277 = .ok (.iload 5, 2) := by decide +kernel
theorem dL_law_1279 : decode cL_law 1279 = .ok (.ifCond .ne 15, 3) := by decide +kernel
theorem dL_law_1282 : decode cL_law 1282 = .ok (.aload_n 3, 1) := by decide +kernel
theorem dL_law_1283 : decode cL_law 1283 = .ok (.iconst 0, 1) := by decide +kernel
theorem dL_law_1284 : decode cL_law 1284 = .ok (.laload, 1) := by decide +kernel
theorem dL_law_1285 : decode cL_law 1285 = .ok (.iload 6, 2) := by decide +kernel
theorem dL_law_1287 : decode cL_law 1287 = .ok (.i2l, 1) := by decide +kernel
theorem dL_law_1288 : decode cL_law 1288 = .ok (.lcmp, 1) := by decide +kernel
theorem dL_law_1289 : decode cL_law 1289 = .ok (.ifCond .eq 5, 3) := by decide +kernel
theorem dL_law_1292 : decode cL_law 1292 = .ok (.iconst 0, 1) := by decide +kernel
theorem dL_law_1293 : decode cL_law 1293 = .ok (.ireturn, 1) := by decide +kernel
theorem dL_law_1294 : decode cL_law 1294 = .ok (.goto 609, 3) := by decide +kernel
theorem dL_law_1297 : decode cL_law 1297 = .ok (.aload_n 1, 1) := by decide +kernel
theorem dL_law_1298 : decode cL_law 1298 = .ok (.aload_n 0, 1) := by decide +kernel
theorem dL_law_1299 : decode cL_law 1299 = .ok (.iload 4, 2) := by decide +kernel
theorem dL_law_1301 : decode cL_law 1301 = .ok (.iconst 1, 1) := by decide +kernel
theorem dL_law_1302 : decode cL_law 1302 = .ok (.iadd, 1) := by decide +kernel
theorem dL_law_1303 : decode cL_law 1303 = .ok (.iaload, 1) := by decide +kernel
theorem dL_law_1304 : decode cL_law 1304 = .ok (.aload_n 3, 1) := by decide +kernel
theorem dL_law_1305 : decode cL_law 1305 = .ok (.invokestatic 180, 3) := by decide +kernel
theorem dL_law_1308 : decode cL_law 1308 = .ok (.istore 5, 2) := by decide +kernel
theorem dL_law_1310 : decode cL_law 1310 = .ok (.aload_n 2, 1) := by decide +kernel
theorem dL_law_1311 : decode cL_law 1311 = .ok (.aload_n 0, 1) := by decide +kernel
theorem dL_law_1312 : decode cL_law 1312 = .ok (.iload 4, 2) := by decide +kernel
theorem dL_law_1314 : decode cL_law 1314 = .ok (.iconst 1, 1) := by decide +kernel
theorem dL_law_1315 : decode cL_law 1315 = .ok (.iadd, 1) := by decide +kernel
theorem dL_law_1316 : decode cL_law 1316 = .ok (.iaload, 1) := by decide +kernel
theorem dL_law_1317 : decode cL_law 1317 = .ok (.invokevirtual 182, 3) := by decide +kernel
theorem dL_law_1320 : decode cL_law 1320 = .ok (.istore 6, 2) := by decide +kernel
theorem dL_law_1322 : decode cL_law 1322 = .ok (.aload_n 2, 1) := by decide +kernel
theorem dL_law_1323 : decode cL_law 1323 = .ok (.invokevirtual 115, 3) := by decide +kernel
theorem dL_law_1326 : decode cL_law 1326 = .ok (.iload 5, 2) := by decide +kernel
theorem dL_law_1328 : decode cL_law 1328 = .ok (.if_icmp .eq 5, 3) := by decide +kernel
theorem dL_law_1331 : decode cL_law 1331 = .ok (.iconst 0, 1) := by decide +kernel
theorem dL_law_1332 : decode cL_law 1332 = .ok (.ireturn, 1) := by decide +kernel
theorem dL_law_1333 : decode cL_law 1333 = .ok (.iload 5, 2) := by decide +kernel
theorem dL_law_1335 : decode cL_law 1335 = .ok (.ifCond .ne 15, 3) := by decide +kernel
theorem dL_law_1338 : decode cL_law 1338 = .ok (.aload_n 3, 1) := by decide +kernel
theorem dL_law_1339 : decode cL_law 1339 = .ok (.iconst 0, 1) := by decide +kernel
theorem dL_law_1340 : decode cL_law 1340 = .ok (.laload, 1) := by decide +kernel
theorem dL_law_1341 : decode cL_law 1341 = .ok (.iload 6, 2) := by decide +kernel
theorem dL_law_1343 : decode cL_law 1343 = .ok (.i2l, 1) := by decide +kernel
theorem dL_law_1344 : decode cL_law 1344 = .ok (.lcmp, 1) := by decide +kernel
theorem dL_law_1345 : decode cL_law 1345 = .ok (.ifCond .eq 5, 3) := by decide +kernel
theorem dL_law_1348 : decode cL_law 1348 = .ok (.iconst 0, 1) := by decide +kernel
theorem dL_law_1349 : decode cL_law 1349 = .ok (.ireturn, 1) := by decide +kernel
theorem dL_law_1350 : decode cL_law 1350 = .ok (.goto 553, 3) := by decide +kernel
theorem dL_law_1353 : decode cL_law 1353 = .ok (.aload_n 1, 1) := by decide +kernel
theorem dL_law_1354 : decode cL_law 1354 = .ok (.aload_n 0, 1) := by decide +kernel
theorem dL_law_1355 : decode cL_law 1355 = .ok (.iload 4, 2) := by decide +kernel
theorem dL_law_1357 : decode cL_law 1357 = .ok (.iconst 1, 1) := by decide +kernel
theorem dL_law_1358 : decode cL_law 1358 = .ok (.iadd, 1) := by decide +kernel
theorem dL_law_1359 : decode cL_law 1359 = .ok (.iaload, 1) := by decide +kernel
theorem dL_law_1360 : decode cL_law 1360 = .ok (.aload_n 3, 1) := by decide +kernel
theorem dL_law_1361 : decode cL_law 1361 = .ok (.invokestatic 183, 3) := by decide +kernel
theorem dL_law_1364 : decode cL_law 1364 = .ok (.istore 5, 2) := by decide +kernel
theorem dL_law_1366 : decode cL_law 1366 = .ok (.aload_n 2, 1) := by decide +kernel
theorem dL_law_1367 : decode cL_law 1367 = .ok (.aload_n 0, 1) := by decide +kernel
theorem dL_law_1368 : decode cL_law 1368 = .ok (.iload 4, 2) := by decide +kernel
theorem dL_law_1370 : decode cL_law 1370 = .ok (.iconst 1, 1) := by decide +kernel
theorem dL_law_1371 : decode cL_law 1371 = .ok (.iadd, 1) := by decide +kernel
theorem dL_law_1372 : decode cL_law 1372 = .ok (.iaload, 1) := by decide +kernel
theorem dL_law_1373 : decode cL_law 1373 = .ok (.invokevirtual 185, 3) := by decide +kernel
theorem dL_law_1376 : decode cL_law 1376 = .ok (.istore 6, 2) := by decide +kernel
theorem dL_law_1378 : decode cL_law 1378 = .ok (.aload_n 2, 1) := by decide +kernel
theorem dL_law_1379 : decode cL_law 1379 = .ok (.invokevirtual 115, 3) := by decide +kernel
theorem dL_law_1382 : decode cL_law 1382 = .ok (.iload 5, 2) := by decide +kernel
theorem dL_law_1384 : decode cL_law 1384 = .ok (.if_icmp .eq 5, 3) := by decide +kernel
theorem dL_law_1387 : decode cL_law 1387 = .ok (.iconst 0, 1) := by decide +kernel
theorem dL_law_1388 : decode cL_law 1388 = .ok (.ireturn, 1) := by decide +kernel
theorem dL_law_1389 : decode cL_law 1389 = .ok (.iload 5, 2) := by decide +kernel
theorem dL_law_1391 : decode cL_law 1391 = .ok (.ifCond .ne 15, 3) := by decide +kernel
theorem dL_law_1394 : decode cL_law 1394 = .ok (.aload_n 3, 1) := by decide +kernel
theorem dL_law_1395 : decode cL_law 1395 = .ok (.iconst 0, 1) := by decide +kernel
theorem dL_law_1396 : decode cL_law 1396 = .ok (.laload, 1) := by decide +kernel
theorem dL_law_1397 : decode cL_law 1397 = .ok (.iload 6, 2) := by decide +kernel
theorem dL_law_1399 : decode cL_law 1399 = .ok (.i2l, 1) := by decide +kernel
theorem dL_law_1400 : decode cL_law 1400 = .ok (.lcmp, 1) := by decide +kernel
theorem dL_law_1401 : decode cL_law 1401 = .ok (.ifCond .eq 5, 3) := by decide +kernel
theorem dL_law_1404 : decode cL_law 1404 = .ok (.iconst 0, 1) := by decide +kernel
theorem dL_law_1405 : decode cL_law 1405 = .ok (.ireturn, 1) := by decide +kernel
theorem dL_law_1406 : decode cL_law 1406 = .ok (.goto 497, 3) := by decide +kernel
theorem dL_law_1409 : decode cL_law 1409 = .ok (.aload_n 1, 1) := by decide +kernel
theorem dL_law_1410 : decode cL_law 1410 = .ok (.aload_n 0, 1) := by decide +kernel
theorem dL_law_1411 : decode cL_law 1411 = .ok (.iload 4, 2) := by decide +kernel
theorem dL_law_1413 : decode cL_law 1413 = .ok (.iconst 1, 1) := by decide +kernel
theorem dL_law_1414 : decode cL_law 1414 = .ok (.iadd, 1) := by decide +kernel
theorem dL_law_1415 : decode cL_law 1415 = .ok (.iaload, 1) := by decide +kernel
theorem dL_law_1416 : decode cL_law 1416 = .ok (.aload_n 3, 1) := by decide +kernel
theorem dL_law_1417 : decode cL_law 1417 = .ok (.invokestatic 186, 3) := by decide +kernel
theorem dL_law_1420 : decode cL_law 1420 = .ok (.istore 5, 2) := by decide +kernel
theorem dL_law_1422 : decode cL_law 1422 = .ok (.aload_n 2, 1) := by decide +kernel
theorem dL_law_1423 : decode cL_law 1423 = .ok (.aload_n 0, 1) := by decide +kernel
theorem dL_law_1424 : decode cL_law 1424 = .ok (.iload 4, 2) := by decide +kernel
theorem dL_law_1426 : decode cL_law 1426 = .ok (.iconst 1, 1) := by decide +kernel
theorem dL_law_1427 : decode cL_law 1427 = .ok (.iadd, 1) := by decide +kernel
theorem dL_law_1428 : decode cL_law 1428 = .ok (.iaload, 1) := by decide +kernel
theorem dL_law_1429 : decode cL_law 1429 = .ok (.invokevirtual 188, 3) := by decide +kernel
theorem dL_law_1432 : decode cL_law 1432 = .ok (.istore 6, 2) := by decide +kernel
theorem dL_law_1434 : decode cL_law 1434 = .ok (.aload_n 2, 1) := by decide +kernel
theorem dL_law_1435 : decode cL_law 1435 = .ok (.invokevirtual 115, 3) := by decide +kernel
theorem dL_law_1438 : decode cL_law 1438 = .ok (.iload 5, 2) := by decide +kernel
theorem dL_law_1440 : decode cL_law 1440 = .ok (.if_icmp .eq 5, 3) := by decide +kernel
theorem dL_law_1443 : decode cL_law 1443 = .ok (.iconst 0, 1) := by decide +kernel
theorem dL_law_1444 : decode cL_law 1444 = .ok (.ireturn, 1) := by decide +kernel
theorem dL_law_1445 : decode cL_law 1445 = .ok (.iload 5, 2) := by decide +kernel
theorem dL_law_1447 : decode cL_law 1447 = .ok (.ifCond .ne 15, 3) := by decide +kernel
theorem dL_law_1450 : decode cL_law 1450 = .ok (.aload_n 3, 1) := by decide +kernel
theorem dL_law_1451 : decode cL_law 1451 = .ok (.iconst 0, 1) := by decide +kernel
theorem dL_law_1452 : decode cL_law 1452 = .ok (.laload, 1) := by decide +kernel
theorem dL_law_1453 : decode cL_law 1453 = .ok (.iload 6, 2) := by decide +kernel
theorem dL_law_1455 : decode cL_law 1455 = .ok (.i2l, 1) := by decide +kernel
theorem dL_law_1456 : decode cL_law 1456 = .ok (.lcmp, 1) := by decide +kernel
theorem dL_law_1457 : decode cL_law 1457 = .ok (.ifCond .eq 5, 3) := by decide +kernel
theorem dL_law_1460 : decode cL_law 1460 = .ok (.iconst 0, 1) := by decide +kernel
theorem dL_law_1461 : decode cL_law 1461 = .ok (.ireturn, 1) := by decide +kernel
theorem dL_law_1462 : decode cL_law 1462 = .ok (.goto 441, 3) := by decide +kernel
theorem dL_law_1465 : decode cL_law 1465 = .ok (.aload_n 1, 1) := by decide +kernel
theorem dL_law_1466 : decode cL_law 1466 = .ok (.invokevirtual 189, 3) := by decide +kernel
end
section
theorem dL_law_1469 : decode cL_law 1469 = .ok (.aload_n 2, 1) := by decide +kernel
theorem dL_law_1470 : decode cL_law 1470 = .ok (.invokevirtual 192, 3) := by decide +kernel
theorem dL_law_1473 : decode cL_law 1473 = .ok (.if_icmp .eq 430, 3) := by decide +kernel
theorem dL_law_1476 : decode cL_law 1476 = .ok (.iconst 0, 1) := by decide +kernel
theorem dL_law_1477 : decode cL_law 1477 = .ok (.ireturn, 1) := by decide +kernel
theorem dL_law_1478 : decode cL_law 1478 = .ok (.aload_n 1, 1) := by decide +kernel
theorem dL_law_1479 : decode cL_law 1479 = .ok (.invokevirtual 193, 3) := by decide +kernel
theorem dL_law_1482 : decode cL_law 1482 = .ok (.aload_n 2, 1) := by decide +kernel
theorem dL_law_1483 : decode cL_law 1483 = .ok (.invokevirtual 196, 3) := by decide +kernel
theorem dL_law_1486 : decode cL_law 1486 = .ok (.if_icmp .eq 417, 3) := by decide +kernel
theorem dL_law_1489 : decode cL_law 1489 = .ok (.iconst 0, 1) := by decide +kernel
theorem dL_law_1490 : decode cL_law 1490 = .ok (.ireturn, 1) := by decide +kernel
theorem dL_law_1491 : decode cL_law 1491 = .ok (.aload_n 1, 1) := by decide +kernel
theorem dL_law_1492 : decode cL_law 1492 = .ok (.aload_n 0, 1) := by decide +kernel
theorem dL_law_1493 : decode cL_law 1493 = .ok (.iload 4, 2) := by decide +kernel
theorem dL_law_1495 : decode cL_law 1495 = .ok (.iconst 1, 1) := by decide +kernel
theorem dL_law_1496 : decode cL_law 1496 = .ok (.iadd, 1) := by decide +kernel
theorem dL_law_1497 : decode cL_law 1497 = .ok (.iaload, 1) := by decide +kernel
theorem dL_law_1498 : decode cL_law 1498 = .ok (.aload_n 3, 1) := by decide +kernel
theorem dL_law_1499 : decode cL_law 1499 = .ok (.invokestatic 197, 3) := by decide +kernel
theorem dL_law_1502 : decode cL_law 1502 = .ok (.istore 5, 2) := by decide +kernel
theorem dL_law_1504 : decode cL_law 1504 = .ok (.aload_n 2, 1) := by decide +kernel
theorem dL_law_1505 : decode cL_law 1505 = .ok (.aload_n 0, 1) := by decide +kernel
theorem dL_law_1506 : decode cL_law 1506 = .ok (.iload 4, 2) := by decide +kernel
theorem dL_law_1508 : decode cL_law 1508 = .ok (.iconst 1, 1) := by decide +kernel
theorem dL_law_1509 : decode cL_law 1509 = .ok (.iadd, 1) := by decide +kernel
theorem dL_law_1510 : decode cL_law 1510 = .ok (.iaload, 1) := by decide +kernel
theorem dL_law_1511 : decode cL_law 1511 = .ok (.invokevirtual 199, 3) := by decide +kernel
theorem dL_law_1514 : decode cL_law 1514 = .ok (.istore 6, 2) := by decide +kernel
theorem dL_law_1516 : decode cL_law 1516 = .ok (.aload_n 2, 1) := by decide +kernel
theorem dL_law_1517 : decode cL_law 1517 = .ok (.invokevirtual 115, 3) := by decide +kernel
theorem dL_law_1520 : decode cL_law 1520 = .ok (.iload 5, 2) := by decide +kernel
theorem dL_law_1522 : decode cL_law 1522 = .ok (.if_icmp .eq 5, 3) := by decide +kernel
theorem dL_law_1525 : decode cL_law 1525 = .ok (.iconst 0, 1) := by decide +kernel
theorem dL_law_1526 : decode cL_law 1526 = .ok (.ireturn, 1) := by decide +kernel
theorem dL_law_1527 : decode cL_law 1527 = .ok (.iload 5, 2) := by decide +kernel
theorem dL_law_1529 : decode cL_law 1529 = .ok (.ifCond .ne 22, 3) := by decide +kernel
theorem dL_law_1532 : decode cL_law 1532 = .ok (.aload_n 3, 1) := by decide +kernel
theorem dL_law_1533 : decode cL_law 1533 = .ok (.iconst 0, 1) := by decide +kernel
theorem dL_law_1534 : decode cL_law 1534 = .ok (.laload, 1) := by decide +kernel
theorem dL_law_1535 : decode cL_law 1535 = .ok (.iload 6, 2) := by decide +kernel
theorem dL_law_1537 : decode cL_law 1537 = .ok (.ifCond .eq 7, 3) := by decide +kernel
theorem dL_law_1540 : decode cL_law 1540 = .ok (.lconst 1, 1) := by decide +kernel
theorem dL_law_1541 : decode cL_law 1541 = .ok (.goto 4, 3) := by decide +kernel
theorem dL_law_1544 : decode cL_law 1544 = .ok (.lconst 0, 1) := by decide +kernel
theorem dL_law_1545 : decode cL_law 1545 = .ok (.lcmp, 1) := by decide +kernel
theorem dL_law_1546 : decode cL_law 1546 = .ok (.ifCond .eq 5, 3) := by decide +kernel
theorem dL_law_1549 : decode cL_law 1549 = .ok (.iconst 0, 1) := by decide +kernel
theorem dL_law_1550 : decode cL_law 1550 = .ok (.ireturn, 1) := by decide +kernel
theorem dL_law_1551 : decode cL_law 1551 = .ok (.goto 352, 3) := by decide +kernel
theorem dL_law_1554 : decode cL_law 1554 = .ok (.aload_n 1, 1) := by decide +kernel
theorem dL_law_1555 : decode cL_law 1555 = .ok (.aload_n 0, 1) := by decide +kernel
theorem dL_law_1556 : decode cL_law 1556 = .ok (.iload 4, 2) := by decide +kernel
theorem dL_law_1558 : decode cL_law 1558 = .ok (.iconst 1, 1) := by decide +kernel
theorem dL_law_1559 : decode cL_law 1559 = .ok (.iadd, 1) := by decide +kernel
theorem dL_law_1560 : decode cL_law 1560 = .ok (.iaload, 1) := by decide +kernel
theorem dL_law_1561 : decode cL_law 1561 = .ok (.aload_n 3, 1) := by decide +kernel
theorem dL_law_1562 : decode cL_law 1562 = .ok (.invokestatic 200, 3) := by decide +kernel
theorem dL_law_1565 : decode cL_law 1565 = .ok (.istore 5, 2) := by decide +kernel
theorem dL_law_1567 : decode cL_law 1567 = .ok (.aload_n 2, 1) := by decide +kernel
theorem dL_law_1568 : decode cL_law 1568 = .ok (.aload_n 0, 1) := by decide +kernel
theorem dL_law_1569 : decode cL_law 1569 = .ok (.iload 4, 2) := by decide +kernel
theorem dL_law_1571 : decode cL_law 1571 = .ok (.iconst 1, 1) := by decide +kernel
theorem dL_law_1572 : decode cL_law 1572 = .ok (.iadd, 1) := by decide +kernel
theorem dL_law_1573 : decode cL_law 1573 = .ok (.iaload, 1) := by decide +kernel
theorem dL_law_1574 : decode cL_law 1574 = .ok (.invokevirtual 202, 3) := by decide +kernel
theorem dL_law_1577 : decode cL_law 1577 = .ok (.istore 6, 2) := by decide +kernel
theorem dL_law_1579 : decode cL_law 1579 = .ok (.aload_n 2, 1) := by decide +kernel
theorem dL_law_1580 : decode cL_law 1580 = .ok (.invokevirtual 115, 3) := by decide +kernel
theorem dL_law_1583 : decode cL_law 1583 = .ok (.iload 5, 2) := by decide +kernel
theorem dL_law_1585 : decode cL_law 1585 = .ok (.if_icmp .eq 5, 3) := by decide +kernel
theorem dL_law_1588 : decode cL_law 1588 = .ok (.iconst 0, 1) := by decide +kernel
theorem dL_law_1589 : decode cL_law 1589 = .ok (.ireturn, 1) := by decide +kernel
theorem dL_law_1590 : decode cL_law 1590 = .ok (.iload 5, 2) := by decide +kernel
theorem dL_law_1592 : decode cL_law 1592 = .ok (.ifCond .ne 15, 3) := by decide +kernel
theorem dL_law_1595 : decode cL_law 1595 = .ok (.aload_n 3, 1) := by decide +kernel
theorem dL_law_1596 : decode cL_law 1596 = .ok (.iconst 0, 1) := by decide +kernel
theorem dL_law_1597 : decode cL_law 1597 = .ok (.laload, 1) := by decide +kernel
theorem dL_law_1598 : decode cL_law 1598 = .ok (.iload 6, 2) := by decide +kernel
theorem dL_law_1600 : decode cL_law 1600 = .ok (.i2l, 1) := by decide +kernel
theorem dL_law_1601 : decode cL_law 1601 = .ok (.lcmp, 1) := by decide +kernel
theorem dL_law_1602 : decode cL_law 1602 = .ok (.ifCond .eq 5, 3) := by decide +kernel
theorem dL_law_1605 : decode cL_law 1605 = .ok (.iconst 0, 1) := by decide +kernel
theorem dL_law_1606 : decode cL_law 1606 = .ok (.ireturn, 1) := by decide +kernel
theorem dL_law_1607 : decode cL_law 1607 = .ok (.goto 296, 3) := by decide +kernel
theorem dL_law_1610 : decode cL_law 1610 = .ok (.aload_n 1, 1) := by decide +kernel
theorem dL_law_1611 : decode cL_law 1611 = .ok (.aload_n 0, 1) := by decide +kernel
theorem dL_law_1612 : decode cL_law 1612 = .ok (.iload 4, 2) := by decide +kernel
theorem dL_law_1614 : decode cL_law 1614 = .ok (.iconst 1, 1) := by decide +kernel
theorem dL_law_1615 : decode cL_law 1615 = .ok (.iadd, 1) := by decide +kernel
theorem dL_law_1616 : decode cL_law 1616 = .ok (.iaload, 1) := by decide +kernel
theorem dL_law_1617 : decode cL_law 1617 = .ok (.aload_n 3, 1) := by decide +kernel
theorem dL_law_1618 : decode cL_law 1618 = .ok (.invokestatic 203, 3) := by decide +kernel
theorem dL_law_1621 : decode cL_law 1621 = .ok (.istore 5, 2) := by decide +kernel
theorem dL_law_1623 : decode cL_law 1623 = .ok (.aload_n 2, 1) := by decide +kernel
theorem dL_law_1624 : decode cL_law 1624 = .ok (.aload_n 0, 1) := by decide +kernel
theorem dL_law_1625 : decode cL_law 1625 = .ok (.iload 4, 2) := by decide +kernel
theorem dL_law_1627 : decode cL_law 1627 = .ok (.iconst 1, 1) := by decide +kernel
theorem dL_law_1628 : decode cL_law 1628 = .ok (.iadd, 1) := by decide +kernel
theorem dL_law_1629 : decode cL_law 1629 = .ok (.iaload, 1) := by decide +kernel
theorem dL_law_1630 : decode cL_law 1630 = .ok (.invokevirtual 205, 3) := by decide +kernel
theorem dL_law_1633 : decode cL_law 1633 = .ok (.istore 6, 2) := by decide +kernel
theorem dL_law_1635 : decode cL_law 1635 = .ok (.aload_n 2, 1) := by decide +kernel
theorem dL_law_1636 : decode cL_law 1636 = .ok (.invokevirtual 115, 3) := by decide +kernel
theorem dL_law_1639 : decode cL_law 1639 = .ok (.iload 5, 2) := by decide +kernel
theorem dL_law_1641 : decode cL_law 1641 = .ok (.if_icmp .eq 5, 3) := by decide +kernel
theorem dL_law_1644 : decode cL_law 1644 = .ok (.iconst 0, 1) := by decide +kernel
theorem dL_law_1645 : decode cL_law 1645 = .ok (.ireturn, 1) := by decide +kernel
theorem dL_law_1646 : decode cL_law 1646 = .ok (.iload 5, 2) := by decide +kernel
theorem dL_law_1648 : decode cL_law 1648 = .ok (.ifCond .ne 15, 3) := by decide +kernel
theorem dL_law_1651 : decode cL_law 1651 = .ok (.aload_n 3, 1) := by decide +kernel
theorem dL_law_1652 : decode cL_law 1652 = .ok (.iconst 0, 1) := by decide +kernel
theorem dL_law_1653 : decode cL_law 1653 = .ok (.laload, 1) := by decide +kernel
theorem dL_law_1654 : decode cL_law 1654 = .ok (.iload 6, 2) := by decide +kernel
theorem dL_law_1656 : decode cL_law 1656 = .ok (.i2l, 1) := by decide +kernel
theorem dL_law_1657 : decode cL_law 1657 = .ok (.lcmp, 1) := by decide +kernel
theorem dL_law_1658 : decode cL_law 1658 = .ok (.ifCond .eq 5, 3) := by decide +kernel
theorem dL_law_1661 : decode cL_law 1661 = .ok (.iconst 0, 1) := by decide +kernel
theorem dL_law_1662 : decode cL_law 1662 = .ok (.ireturn, 1) := by decide +kernel
theorem dL_law_1663 : decode cL_law 1663 = .ok (.goto 240, 3) := by decide +kernel
theorem dL_law_1666 : decode cL_law 1666 = .ok (.aload_n 1, 1) := by decide +kernel
theorem dL_law_1667 : decode cL_law 1667 = .ok (.aload_n 0, 1) := by decide +kernel
theorem dL_law_1668 : decode cL_law 1668 = .ok (.iload 4, 2) := by decide +kernel
theorem dL_law_1670 : decode cL_law 1670 = .ok (.iconst 1, 1) := by decide +kernel
theorem dL_law_1671 : decode cL_law 1671 = .ok (.iadd, 1) := by decide +kernel
theorem dL_law_1672 : decode cL_law 1672 = .ok (.iaload, 1) := by decide +kernel
theorem dL_law_1673 : decode cL_law 1673 = .ok (.aload_n 3, 1) := by decide +kernel
theorem dL_law_1674 : decode cL_law 1674 = .ok (.invokestatic 206, 3) := by decide +kernel
theorem dL_law_1677 : decode cL_law 1677 = .ok (.istore 5, 2) := by decide +kernel
theorem dL_law_1679 : decode cL_law 1679 = .ok (.aload_n 2, 1) := by decide +kernel
theorem dL_law_1680 : decode cL_law 1680 = .ok (.aload_n 0, 1) := by decide +kernel
theorem dL_law_1681 : decode cL_law 1681 = .ok (.iload 4, 2) := by decide +kernel
theorem dL_law_1683 : decode cL_law 1683 = .ok (.iconst 1, 1) := by decide +kernel
theorem dL_law_1684 : decode cL_law 1684 = .ok (.iadd, 1) := by decide +kernel
theorem dL_law_1685 : decode cL_law 1685 = .ok (.iaload, 1) := by decide +kernel
theorem dL_law_1686 : decode cL_law 1686 = .ok (.invokevirtual 208, 3) := by decide +kernel
theorem dL_law_1689 : decode cL_law 1689 = .ok (.istore 6, 2) := by decide +kernel
theorem dL_law_1691 : decode cL_law 1691 = .ok (.aload_n 2, 1) := by decide +kernel
theorem dL_law_1692 : decode cL_law 1692 = .ok (.invokevirtual 115, 3) := by decide +kernel
theorem dL_law_1695 : decode cL_law 1695 = .ok (.iload 5, 2) := by decide +kernel
theorem dL_law_1697 : decode cL_law 1697 = .ok (.if_icmp .eq 5, 3) := by decide +kernel
theorem dL_law_1700 : decode cL_law 1700 = .ok (.iconst 0, 1) := by decide +kernel
theorem dL_law_1701 : decode cL_law 1701 = .ok (.ireturn, 1) := by decide +kernel
theorem dL_law_1702 : decode cL_law 1702 = .ok (.iload 5, 2) := by decide +kernel
theorem dL_law_1704 : decode cL_law 1704 = .ok (.ifCond .ne 15, 3) := by decide +kernel
theorem dL_law_1707 : decode cL_law 1707 = .ok (.aload_n 3, 1) := by decide +kernel
theorem dL_law_1708 : decode cL_law 1708 = .ok (.iconst 0, 1) := by decide +kernel
theorem dL_law_1709 : decode cL_law 1709 = .ok (.laload, 1) := by decide +kernel
theorem dL_law_1710 : decode cL_law 1710 = .ok (.iload 6, 2) := by decide +kernel
theorem dL_law_1712 : decode cL_law 1712 = .ok (.i2l, 1) := by decide +kernel
theorem dL_law_1713 : decode cL_law 1713 = .ok (.lcmp, 1) := by decide +kernel
theorem dL_law_1714 : decode cL_law 1714 = .ok (.ifCond .eq 5, 3) := by decide +kernel
theorem dL_law_1717 : decode cL_law 1717 = .ok (.iconst 0, 1) := by decide +kernel
theorem dL_law_1718 : decode cL_law 1718 = .ok (.ireturn, 1) := by decide +kernel
theorem dL_law_1719 : decode cL_law 1719 = .ok (.goto 184, 3) := by decide +kernel
theorem dL_law_1722 : decode cL_law 1722 = .ok (.aload_n 1, 1) := by decide +kernel
theorem dL_law_1723 : decode cL_law 1723 = .ok (.aload_n 0, 1) := by decide +kernel
theorem dL_law_1724 : decode cL_law 1724 = .ok (.iload 4, 2) := by decide +kernel
theorem dL_law_1726 : decode cL_law 1726 = .ok (.iconst 1, 1) := by decide +kernel
theorem dL_law_1727 : decode cL_law 1727 = .ok (.iadd, 1) := by decide +kernel
theorem dL_law_1728 : decode cL_law 1728 = .ok (.iaload, 1) := by decide +kernel
theorem dL_law_1729 : decode cL_law 1729 = .ok (.aload_n 3, 1) := by decide +kernel
theorem dL_law_1730 : decode cL_law 1730 = .ok (.invokestatic 209, 3) := by decide +kernel
theorem dL_law_1733 : decode cL_law 1733 = .ok (.istore 5, 2) := by decide +kernel
theorem dL_law_1735 : decode cL_law 1735 = .ok (.aload_n 2, 1) := by decide +kernel
theorem dL_law_1736 : decode cL_law 1736 = .ok (.aload_n 0, 1) := by decide +kernel
theorem dL_law_1737 : decode cL_law 1737 = .ok (.iload 4, 2) := by decide +kernel
theorem dL_law_1739 : decode cL_law 1739 = .ok (.iconst 1, 1) := by decide +kernel
theorem dL_law_1740 : decode cL_law 1740 = .ok (.iadd, 1) := by decide +kernel
theorem dL_law_1741 : decode cL_law 1741 = .ok (.iaload, 1) := by decide +kernel
theorem dL_law_1742 : decode cL_law 1742 = .ok (.invokevirtual 211, 3) := by decide +kernel
theorem dL_law_1745 : decode cL_law 1745 = .ok (.istore 6, 2) := by decide +kernel
theorem dL_law_1747 : decode cL_law 1747 = .ok (.aload_n 2, 1) := by decide +kernel
theorem dL_law_1748 : decode cL_law 1748 = .ok (.invokevirtual 115, 3) := by decide +kernel
theorem dL_law_1751 : decode cL_law 1751 = .ok (.iload 5, 2) := by decide +kernel
theorem dL_law_1753 : decode cL_law 1753 = .ok (.if_icmp .eq 5, 3) := by decide +kernel
theorem dL_law_1756 : decode cL_law 1756 = .ok (.iconst 0, 1) := by decide +kernel
theorem dL_law_1757 : decode cL_law 1757 = .ok (.ireturn, 1) := by decide +kernel
theorem dL_law_1758 : decode cL_law 1758 = .ok (.iload 5, 2) := by decide +kernel
theorem dL_law_1760 : decode cL_law 1760 = .ok (.ifCond .ne 15, 3) := by decide +kernel
theorem dL_law_1763 : decode cL_law 1763 = .ok (.aload_n 3, 1) := by decide +kernel
theorem dL_law_1764 : decode cL_law 1764 = .ok (.iconst 0, 1) := by decide +kernel
theorem dL_law_1765 : decode cL_law 1765 = .ok (.laload, 1) := by decide +kernel
theorem dL_law_1766 : decode cL_law 1766 = .ok (.iload 6, 2) := by decide +kernel
theorem dL_law_1768 : decode cL_law 1768 = .ok (.i2l, 1) := by decide +kernel
theorem dL_law_1769 : decode cL_law 1769 = .ok (.lcmp, 1) := by decide +kernel
theorem dL_law_1770 : decode cL_law 1770 = .ok (.ifCond .eq 5, 3) := by decide +kernel
theorem dL_law_1773 : decode cL_law 1773 = .ok (.iconst 0, 1) := by decide +kernel
theorem dL_law_1774 : decode cL_law 1774 = .ok (.ireturn, 1) := by decide +kernel
theorem dL_law_1775 : decode cL_law 1775 = .ok (.goto 128, 3) := by decide +kernel
theorem dL_law_1778 : decode cL_law 1778 = .ok (.aload_n 1, 1) := by decide +kernel
theorem dL_law_1779 : decode cL_law 1779 = .ok (.invokevirtual 212, 3) := by decide +kernel
theorem dL_law_1782 : decode cL_law 1782 = .ok (.aload_n 2, 1) := by decide +kernel
theorem dL_law_1783 : decode cL_law 1783 = .ok (.invokevirtual 215, 3) := by decide +kernel
theorem dL_law_1786 : decode cL_law 1786 = .ok (.if_icmp .eq 117, 3) := by decide +kernel
theorem dL_law_1789 : decode cL_law 1789 = .ok (.iconst 0, 1) := by decide +kernel
theorem dL_law_1790 : decode cL_law 1790 = .ok (.ireturn, 1) := by decide +kernel
theorem dL_law_1791 : decode cL_law 1791 = .ok (.aload_n 1, 1) := by decide +kernel
theorem dL_law_1792 : decode cL_law 1792 = .ok (.aload_n 0, 1) := by decide +kernel
theorem dL_law_1793 : decode cL_law 1793 = .ok (.iload 4, 2) := by decide +kernel
theorem dL_law_1795 : decode cL_law 1795 = .ok (.iconst 1, 1) := by decide +kernel
theorem dL_law_1796 : decode cL_law 1796 = .ok (.iadd, 1) := by decide +kernel
theorem dL_law_1797 : decode cL_law 1797 = .ok (.iaload, 1) := by decide +kernel
theorem dL_law_1798 : decode cL_law 1798 = .ok (.aload_n 3, 1) := by decide +kernel
theorem dL_law_1799 : decode cL_law 1799 = .ok (.invokestatic 216, 3) := by decide +kernel
theorem dL_law_1802 : decode cL_law 1802 = .ok (.istore 5, 2) := by decide +kernel
theorem dL_law_1804 : decode cL_law 1804 = .ok (.aload_n 2, 1) := by decide +kernel
theorem dL_law_1805 : decode cL_law 1805 = .ok (.aload_n 0, 1) := by decide +kernel
theorem dL_law_1806 : decode cL_law 1806 = .ok (.iload 4, 2) := by decide +kernel
theorem dL_law_1808 : decode cL_law 1808 = .ok (.iconst 1, 1) := by decide +kernel
theorem dL_law_1809 : decode cL_law 1809 = .ok (.iadd, 1) := by decide +kernel
theorem dL_law_1810 : decode cL_law 1810 = .ok (.iaload, 1) := by decide +kernel
theorem dL_law_1811 : decode cL_law 1811 = .ok (.invokevirtual 218, 3) := by decide +kernel
theorem dL_law_1814 : decode cL_law 1814 = .ok (.istore 6, 2) := by decide +kernel
theorem dL_law_1816 : decode cL_law 1816 = .ok (.aload_n 2, 1) := by decide +kernel
theorem dL_law_1817 : decode cL_law 1817 = .ok (.invokevirtual 115, 3) := by decide +kernel
theorem dL_law_1820 : decode cL_law 1820 = .ok (.iload 5, 2) := by decide +kernel
theorem dL_law_1822 : decode cL_law 1822 = .ok (.if_icmp .eq 5, 3) := by decide +kernel
theorem dL_law_1825 : decode cL_law 1825 = .ok (.iconst 0, 1) := by decide +kernel
theorem dL_law_1826 : decode cL_law 1826 = .ok (.ireturn, 1) := by decide +kernel
theorem dL_law_1827 : decode cL_law 1827 = .ok (.iload 5, 2) := by decide +kernel
theorem dL_law_1829 : decode cL_law 1829 = .ok (.ifCond .ne 15, 3) := by decide +kernel
theorem dL_law_1832 : decode cL_law 1832 = .ok (.aload_n 3, 1) := by decide +kernel
theorem dL_law_1833 : decode cL_law 1833 = .ok (.iconst 0, 1) := by decide +kernel
theorem dL_law_1834 : decode cL_law 1834 = .ok (.laload, 1) := by decide +kernel
theorem dL_law_1835 : decode cL_law 1835 = .ok (.iload 6, 2) := by decide +kernel
theorem dL_law_1837 : decode cL_law 1837 = .ok (.i2l, 1) := by decide +kernel
theorem dL_law_1838 : decode cL_law 1838 = .ok (.lcmp, 1) := by decide +kernel
theorem dL_law_1839 : decode cL_law 1839 = .ok (.ifCond .eq 5, 3) := by decide +kernel
theorem dL_law_1842 : decode cL_law 1842 = .ok (.iconst 0, 1) := by decide +kernel
theorem dL_law_1843 : decode cL_law 1843 = .ok (.ireturn, 1) := by decide +kernel
theorem dL_law_1844 : decode cL_law 1844 = .ok (.goto 59, 3) := by decide +kernel
theorem dL_law_1847 : decode cL_law 1847 = .ok (.aload_n 1, 1) := by decide +kernel
theorem dL_law_1848 : decode cL_law 1848 = .ok (.aload_n 0, 1) := by decide +kernel
theorem dL_law_1849 : decode cL_law 1849 = .ok (.iload 4, 2) := by decide +kernel
theorem dL_law_1851 : decode cL_law 1851 = .ok (.iconst 1, 1) := by decide +kernel
theorem dL_law_1852 : decode cL_law 1852 = .ok (.iadd, 1) := by decide +kernel
theorem dL_law_1853 : decode cL_law 1853 = .ok (.iaload, 1) := by decide +kernel
theorem dL_law_1854 : decode cL_law 1854 = .ok (.aload_n 3, 1) := by decide +kernel
theorem dL_law_1855 : decode cL_law 1855 = .ok (.invokestatic 219, 3) := by decide +kernel
theorem dL_law_1858 : decode cL_law 1858 = .ok (.istore 5, 2) := by decide +kernel
theorem dL_law_1860 : decode cL_law 1860 = .ok (.aload_n 2, 1) := by decide +kernel
theorem dL_law_1861 : decode cL_law 1861 = .ok (.aload_n 0, 1) := by decide +kernel
theorem dL_law_1862 : decode cL_law 1862 = .ok (.iload 4, 2) := by decide +kernel
theorem dL_law_1864 : decode cL_law 1864 = .ok (.iconst 1, 1) := by decide +kernel
theorem dL_law_1865 : decode cL_law 1865 = .ok (.iadd, 1) := by decide +kernel
theorem dL_law_1866 : decode cL_law 1866 = .ok (.iaload, 1) := by decide +kernel
theorem dL_law_1867 : decode cL_law 1867 = .ok (.invokevirtual 221, 3) := by decide +kernel
theorem dL_law_1870 : decode cL_law 1870 = .ok (.istore 6, 2) := by decide +kernel
theorem dL_law_1872 : decode cL_law 1872 = .ok (.aload_n 2, 1) := by decide +kernel
theorem dL_law_1873 : decode cL_law 1873 = .ok (.invokevirtual 115, 3) := by decide +kernel
theorem dL_law_1876 : decode cL_law 1876 = .ok (.iload 5, 2) := by decide +kernel
theorem dL_law_1878 : decode cL_law 1878 = .ok (.if_icmp .eq 5, 3) := by decide +kernel
theorem dL_law_1881 : decode cL_law 1881 = .ok (.iconst 0, 1) := by decide +kernel
theorem dL_law_1882 : decode cL_law 1882 = .ok (.ireturn, 1) := by decide +kernel
theorem dL_law_1883 : decode cL_law 1883 = .ok (.iload 5, 2) := by decide +kernel
theorem dL_law_1885 : decode cL_law 1885 = .ok (.ifCond .ne 15, 3) := by decide +kernel
theorem dL_law_1888 : decode cL_law 1888 = .ok (.aload_n 3, 1) := by decide +kernel
theorem dL_law_1889 : decode cL_law 1889 = .ok (.iconst 0, 1) := by decide +kernel
theorem dL_law_1890 : decode cL_law 1890 = .ok (.laload, 1) := by decide +kernel
theorem dL_law_1891 : decode cL_law 1891 = .ok (.iload 6, 2) := by decide +kernel
theorem dL_law_1893 : decode cL_law 1893 = .ok (.i2l, 1) := by decide +kernel
theorem dL_law_1894 : decode cL_law 1894 = .ok (.lcmp, 1) := by decide +kernel
theorem dL_law_1895 : decode cL_law 1895 = .ok (.ifCond .eq 5, 3) := by decide +kernel
theorem dL_law_1898 : decode cL_law 1898 = .ok (.iconst 0, 1) := by decide +kernel
theorem dL_law_1899 : decode cL_law 1899 = .ok (.ireturn, 1) := by decide +kernel
theorem dL_law_1900 : decode cL_law 1900 = .ok (.goto 3, 3) := by decide +kernel
theorem dL_law_1903 : decode cL_law 1903 = .ok (.iinc 4 4, 3) := by decide +kernel
theorem dL_law_1906 : decode cL_law 1906 = .ok (.goto (-1883), 3) := by decide +kernel
theorem dL_law_1909 : decode cL_law 1909 = .ok (.iconst 1, 1) := by decide +kernel
theorem dL_law_1910 : decode cL_law 1910 = .ok (.ireturn, 1) := by decide +kernel
end
section
theorem zz_look : True := trivial
end
