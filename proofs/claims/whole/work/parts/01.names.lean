-- ===== PART A: goes FIRST, ahead of the names: the tables' words, and 'selects' of the private methods out of them =====
/-- a private method of a class that the tables say can be made, by its rows of tables_1 -/
def lw_okq (q : MethodName × Nat) : Prop := (q.1.cls ≠ "java/lang/invoke/MethodHandle" ∧ q.1.cls ≠ "java/lang/invoke/VarHandle") ∧ Cond.instantiable q.1.cls q.2 ∈ tables_1 ∧ Cond.privateMethod q.1 ∈ tables_1 ∧ Cond.instanceMethod q.1 ∈ tables_1
theorem lw_p0 : lw_okq (⟨"NoiseMill", "flourAgrees", "()Z"⟩, 10) := ⟨⟨by decide +kernel, by decide +kernel⟩, List.mem_of_getElem? (i := 39) (by decide +kernel), List.mem_of_getElem? (i := 381) (by decide +kernel), List.mem_of_getElem? (i := 382) (by decide +kernel)⟩
theorem lw_p1 : lw_okq (⟨"NoiseMill", "predictionsAgree", "()Z"⟩, 10) := ⟨⟨by decide +kernel, by decide +kernel⟩, List.mem_of_getElem? (i := 39) (by decide +kernel), List.mem_of_getElem? (i := 392) (by decide +kernel), List.mem_of_getElem? (i := 393) (by decide +kernel)⟩
theorem lw_p2 : lw_okq (⟨"NoiseMill", "simulateDone", "(I)I"⟩, 10) := ⟨⟨by decide +kernel, by decide +kernel⟩, List.mem_of_getElem? (i := 39) (by decide +kernel), List.mem_of_getElem? (i := 396) (by decide +kernel), List.mem_of_getElem? (i := 397) (by decide +kernel)⟩
theorem lw_p3 : lw_okq (⟨"NoiseMill$Noises", "firstWaiting", "()I"⟩, 7) := ⟨⟨by decide +kernel, by decide +kernel⟩, List.mem_of_getElem? (i := 53) (by decide +kernel), List.mem_of_getElem? (i := 440) (by decide +kernel), List.mem_of_getElem? (i := 441) (by decide +kernel)⟩
theorem lw_p4 : lw_okq (⟨"NoiseMill$Noises", "move", "(II)V"⟩, 7) := ⟨⟨by decide +kernel, by decide +kernel⟩, List.mem_of_getElem? (i := 53) (by decide +kernel), List.mem_of_getElem? (i := 448) (by decide +kernel), List.mem_of_getElem? (i := 449) (by decide +kernel)⟩
theorem lw_p5 : lw_okq (⟨"NoiseMill$Mill", "grind", "(I)I"⟩, 7) := ⟨⟨by decide +kernel, by decide +kernel⟩, List.mem_of_getElem? (i := 47) (by decide +kernel), List.mem_of_getElem? (i := 456) (by decide +kernel), List.mem_of_getElem? (i := 457) (by decide +kernel)⟩
theorem lw_p6 : lw_okq (⟨"NoiseMill", "ranksAgree", "()Z"⟩, 10) := ⟨⟨by decide +kernel, by decide +kernel⟩, List.mem_of_getElem? (i := 39) (by decide +kernel), List.mem_of_getElem? (i := 484) (by decide +kernel), List.mem_of_getElem? (i := 485) (by decide +kernel)⟩
theorem lw_p7 : lw_okq (⟨"NoiseMill", "slotAtRank", "(I)I"⟩, 10) := ⟨⟨by decide +kernel, by decide +kernel⟩, List.mem_of_getElem? (i := 39) (by decide +kernel), List.mem_of_getElem? (i := 488) (by decide +kernel), List.mem_of_getElem? (i := 489) (by decide +kernel)⟩
theorem lw_p8 : lw_okq (⟨"java/lang/Throwable", "fillInStackTrace", "(I)Ljava/lang/Throwable;"⟩, 6) := ⟨⟨by decide +kernel, by decide +kernel⟩, List.mem_of_getElem? (i := 745) (by decide +kernel), List.mem_of_getElem? (i := 743) (by decide +kernel), List.mem_of_getElem? (i := 744) (by decide +kernel)⟩
theorem lw_p9 : lw_okq (⟨"NoiseMill", "requireNoise", "(I)I"⟩, 10) := ⟨⟨by decide +kernel, by decide +kernel⟩, List.mem_of_getElem? (i := 39) (by decide +kernel), List.mem_of_getElem? (i := 1152) (by decide +kernel), List.mem_of_getElem? (i := 1153) (by decide +kernel)⟩
theorem lw_p10 : lw_okq (⟨"NoiseMill", "simulateJam", "(I)I"⟩, 10) := ⟨⟨by decide +kernel, by decide +kernel⟩, List.mem_of_getElem? (i := 39) (by decide +kernel), List.mem_of_getElem? (i := 1323) (by decide +kernel), List.mem_of_getElem? (i := 1324) (by decide +kernel)⟩
theorem lw_p11 : lw_okq (⟨"NoiseMill", "requireEntry", "(I)I"⟩, 10) := ⟨⟨by decide +kernel, by decide +kernel⟩, List.mem_of_getElem? (i := 39) (by decide +kernel), List.mem_of_getElem? (i := 1342) (by decide +kernel), List.mem_of_getElem? (i := 1343) (by decide +kernel)⟩
theorem lw_p12 : lw_okq (⟨"NoiseMill$Mill", "isWheelBefore", "(II)Z"⟩, 7) := ⟨⟨by decide +kernel, by decide +kernel⟩, List.mem_of_getElem? (i := 47) (by decide +kernel), List.mem_of_getElem? (i := 1376) (by decide +kernel), List.mem_of_getElem? (i := 1377) (by decide +kernel)⟩
theorem lw_p13 : lw_okq (⟨"NoiseMill$Mill", "isBandBefore", "(II)Z"⟩, 7) := ⟨⟨by decide +kernel, by decide +kernel⟩, List.mem_of_getElem? (i := 47) (by decide +kernel), List.mem_of_getElem? (i := 1391) (by decide +kernel), List.mem_of_getElem? (i := 1392) (by decide +kernel)⟩
theorem lw_p14 : lw_okq (⟨"NoiseMill$Script", "readCommand", "(LNoiseMill$Command;)Z"⟩, 5) := ⟨⟨by decide +kernel, by decide +kernel⟩, List.mem_of_getElem? (i := 212) (by decide +kernel), List.mem_of_getElem? (i := 1490) (by decide +kernel), List.mem_of_getElem? (i := 1491) (by decide +kernel)⟩
theorem lw_p15 : lw_okq (⟨"NoiseMill$Script", "readWord", "()LNoiseMill$Kind;"⟩, 5) := ⟨⟨by decide +kernel, by decide +kernel⟩, List.mem_of_getElem? (i := 212) (by decide +kernel), List.mem_of_getElem? (i := 1494) (by decide +kernel), List.mem_of_getElem? (i := 1495) (by decide +kernel)⟩
def lw_privs_1 : List (MethodName × Nat) := [(⟨"NoiseMill", "flourAgrees", "()Z"⟩, 10), (⟨"NoiseMill", "predictionsAgree", "()Z"⟩, 10), (⟨"NoiseMill", "simulateDone", "(I)I"⟩, 10), (⟨"NoiseMill$Noises", "firstWaiting", "()I"⟩, 7), (⟨"NoiseMill$Noises", "move", "(II)V"⟩, 7), (⟨"NoiseMill$Mill", "grind", "(I)I"⟩, 7), (⟨"NoiseMill", "ranksAgree", "()Z"⟩, 10), (⟨"NoiseMill", "slotAtRank", "(I)I"⟩, 10), (⟨"java/lang/Throwable", "fillInStackTrace", "(I)Ljava/lang/Throwable;"⟩, 6), (⟨"NoiseMill", "requireNoise", "(I)I"⟩, 10), (⟨"NoiseMill", "simulateJam", "(I)I"⟩, 10), (⟨"NoiseMill", "requireEntry", "(I)I"⟩, 10), (⟨"NoiseMill$Mill", "isWheelBefore", "(II)Z"⟩, 7), (⟨"NoiseMill$Mill", "isBandBefore", "(II)Z"⟩, 7), (⟨"NoiseMill$Script", "readCommand", "(LNoiseMill$Command;)Z"⟩, 5), (⟨"NoiseMill$Script", "readWord", "()LNoiseMill$Kind;"⟩, 5)]
theorem lw_r1 : ∀ q ∈ lw_privs_1, lw_okq q := List.forall_mem_cons.mpr ⟨lw_p0, List.forall_mem_cons.mpr ⟨lw_p1, List.forall_mem_cons.mpr ⟨lw_p2, List.forall_mem_cons.mpr ⟨lw_p3, List.forall_mem_cons.mpr ⟨lw_p4, List.forall_mem_cons.mpr ⟨lw_p5, List.forall_mem_cons.mpr ⟨lw_p6, List.forall_mem_cons.mpr ⟨lw_p7, List.forall_mem_cons.mpr ⟨lw_p8, List.forall_mem_cons.mpr ⟨lw_p9, List.forall_mem_cons.mpr ⟨lw_p10, List.forall_mem_cons.mpr ⟨lw_p11, List.forall_mem_cons.mpr ⟨lw_p12, List.forall_mem_cons.mpr ⟨lw_p13, List.forall_mem_cons.mpr ⟨lw_p14, List.forall_mem_cons.mpr ⟨lw_p15, fun _ h => absurd h List.not_mem_nil⟩⟩⟩⟩⟩⟩⟩⟩⟩⟩⟩⟩⟩⟩⟩⟩
theorem lw_p16 : lw_okq (⟨"NoiseMill$Script", "matchLength", "(Ljava/lang/String;)I"⟩, 5) := ⟨⟨by decide +kernel, by decide +kernel⟩, List.mem_of_getElem? (i := 212) (by decide +kernel), List.mem_of_getElem? (i := 1500) (by decide +kernel), List.mem_of_getElem? (i := 1501) (by decide +kernel)⟩
theorem lw_p17 : lw_okq (⟨"NoiseMill$Script", "skip", "(C)Z"⟩, 5) := ⟨⟨by decide +kernel, by decide +kernel⟩, List.mem_of_getElem? (i := 212) (by decide +kernel), List.mem_of_getElem? (i := 1521) (by decide +kernel), List.mem_of_getElem? (i := 1522) (by decide +kernel)⟩
theorem lw_p18 : lw_okq (⟨"NoiseMill$Script", "isDigitNext", "()Z"⟩, 5) := ⟨⟨by decide +kernel, by decide +kernel⟩, List.mem_of_getElem? (i := 212) (by decide +kernel), List.mem_of_getElem? (i := 1525) (by decide +kernel), List.mem_of_getElem? (i := 1526) (by decide +kernel)⟩
theorem lw_p19 : lw_okq (⟨"NoiseMill$Script", "readDigit", "()I"⟩, 5) := ⟨⟨by decide +kernel, by decide +kernel⟩, List.mem_of_getElem? (i := 212) (by decide +kernel), List.mem_of_getElem? (i := 1529) (by decide +kernel), List.mem_of_getElem? (i := 1530) (by decide +kernel)⟩
theorem lw_p20 : lw_okq (⟨"NoiseMill$Script", "readLastNumber", "(LNoiseMill$Command;LNoiseMill$Kind;)Z"⟩, 5) := ⟨⟨by decide +kernel, by decide +kernel⟩, List.mem_of_getElem? (i := 212) (by decide +kernel), List.mem_of_getElem? (i := 1533) (by decide +kernel), List.mem_of_getElem? (i := 1534) (by decide +kernel)⟩
theorem lw_p21 : lw_okq (⟨"NoiseMill", "tryCommands", "()I"⟩, 10) := ⟨⟨by decide +kernel, by decide +kernel⟩, List.mem_of_getElem? (i := 39) (by decide +kernel), List.mem_of_getElem? (i := 1542) (by decide +kernel), List.mem_of_getElem? (i := 1543) (by decide +kernel)⟩
theorem lw_p22 : lw_okq (⟨"NoiseMillModel", "begin", "()V"⟩, 17) := ⟨⟨by decide +kernel, by decide +kernel⟩, List.mem_of_getElem? (i := 1598) (by decide +kernel), List.mem_of_getElem? (i := 1664) (by decide +kernel), List.mem_of_getElem? (i := 1665) (by decide +kernel)⟩
theorem lw_p23 : lw_okq (⟨"NoiseMillModel", "adds", "(III)I"⟩, 17) := ⟨⟨by decide +kernel, by decide +kernel⟩, List.mem_of_getElem? (i := 1598) (by decide +kernel), List.mem_of_getElem? (i := 1671) (by decide +kernel), List.mem_of_getElem? (i := 1672) (by decide +kernel)⟩
theorem lw_p24 : lw_okq (⟨"NoiseMillModel", "fails", "(I)I"⟩, 17) := ⟨⟨by decide +kernel, by decide +kernel⟩, List.mem_of_getElem? (i := 1598) (by decide +kernel), List.mem_of_getElem? (i := 1681) (by decide +kernel), List.mem_of_getElem? (i := 1682) (by decide +kernel)⟩
theorem lw_p25 : lw_okq (⟨"NoiseMillModel", "waiting", "()I"⟩, 17) := ⟨⟨by decide +kernel, by decide +kernel⟩, List.mem_of_getElem? (i := 1598) (by decide +kernel), List.mem_of_getElem? (i := 1685) (by decide +kernel), List.mem_of_getElem? (i := 1686) (by decide +kernel)⟩
theorem lw_p26 : lw_okq (⟨"NoiseMillModel", "waits", "(I)Z"⟩, 17) := ⟨⟨by decide +kernel, by decide +kernel⟩, List.mem_of_getElem? (i := 1598) (by decide +kernel), List.mem_of_getElem? (i := 1689) (by decide +kernel), List.mem_of_getElem? (i := 1690) (by decide +kernel)⟩
theorem lw_p27 : lw_okq (⟨"NoiseMillModel", "holder", "(I)I"⟩, 17) := ⟨⟨by decide +kernel, by decide +kernel⟩, List.mem_of_getElem? (i := 1598) (by decide +kernel), List.mem_of_getElem? (i := 1693) (by decide +kernel), List.mem_of_getElem? (i := 1694) (by decide +kernel)⟩
theorem lw_p28 : lw_okq (⟨"NoiseMillModel", "done", "(I)I"⟩, 17) := ⟨⟨by decide +kernel, by decide +kernel⟩, List.mem_of_getElem? (i := 1598) (by decide +kernel), List.mem_of_getElem? (i := 1697) (by decide +kernel), List.mem_of_getElem? (i := 1698) (by decide +kernel)⟩
theorem lw_p29 : lw_okq (⟨"NoiseMillModel", "kept", "(I)I"⟩, 17) := ⟨⟨by decide +kernel, by decide +kernel⟩, List.mem_of_getElem? (i := 1598) (by decide +kernel), List.mem_of_getElem? (i := 1701) (by decide +kernel), List.mem_of_getElem? (i := 1702) (by decide +kernel)⟩
theorem lw_p30 : lw_okq (⟨"NoiseMillModel", "removes", "(I)I"⟩, 17) := ⟨⟨by decide +kernel, by decide +kernel⟩, List.mem_of_getElem? (i := 1598) (by decide +kernel), List.mem_of_getElem? (i := 1709) (by decide +kernel), List.mem_of_getElem? (i := 1710) (by decide +kernel)⟩
theorem lw_p31 : lw_okq (⟨"NoiseMillModel", "placeOf", "(I)I"⟩, 17) := ⟨⟨by decide +kernel, by decide +kernel⟩, List.mem_of_getElem? (i := 1598) (by decide +kernel), List.mem_of_getElem? (i := 1713) (by decide +kernel), List.mem_of_getElem? (i := 1714) (by decide +kernel)⟩
def lw_privs_2 : List (MethodName × Nat) := [(⟨"NoiseMill$Script", "matchLength", "(Ljava/lang/String;)I"⟩, 5), (⟨"NoiseMill$Script", "skip", "(C)Z"⟩, 5), (⟨"NoiseMill$Script", "isDigitNext", "()Z"⟩, 5), (⟨"NoiseMill$Script", "readDigit", "()I"⟩, 5), (⟨"NoiseMill$Script", "readLastNumber", "(LNoiseMill$Command;LNoiseMill$Kind;)Z"⟩, 5), (⟨"NoiseMill", "tryCommands", "()I"⟩, 10), (⟨"NoiseMillModel", "begin", "()V"⟩, 17), (⟨"NoiseMillModel", "adds", "(III)I"⟩, 17), (⟨"NoiseMillModel", "fails", "(I)I"⟩, 17), (⟨"NoiseMillModel", "waiting", "()I"⟩, 17), (⟨"NoiseMillModel", "waits", "(I)Z"⟩, 17), (⟨"NoiseMillModel", "holder", "(I)I"⟩, 17), (⟨"NoiseMillModel", "done", "(I)I"⟩, 17), (⟨"NoiseMillModel", "kept", "(I)I"⟩, 17), (⟨"NoiseMillModel", "removes", "(I)I"⟩, 17), (⟨"NoiseMillModel", "placeOf", "(I)I"⟩, 17)]
theorem lw_r2 : ∀ q ∈ lw_privs_2, lw_okq q := List.forall_mem_cons.mpr ⟨lw_p16, List.forall_mem_cons.mpr ⟨lw_p17, List.forall_mem_cons.mpr ⟨lw_p18, List.forall_mem_cons.mpr ⟨lw_p19, List.forall_mem_cons.mpr ⟨lw_p20, List.forall_mem_cons.mpr ⟨lw_p21, List.forall_mem_cons.mpr ⟨lw_p22, List.forall_mem_cons.mpr ⟨lw_p23, List.forall_mem_cons.mpr ⟨lw_p24, List.forall_mem_cons.mpr ⟨lw_p25, List.forall_mem_cons.mpr ⟨lw_p26, List.forall_mem_cons.mpr ⟨lw_p27, List.forall_mem_cons.mpr ⟨lw_p28, List.forall_mem_cons.mpr ⟨lw_p29, List.forall_mem_cons.mpr ⟨lw_p30, List.forall_mem_cons.mpr ⟨lw_p31, fun _ h => absurd h List.not_mem_nil⟩⟩⟩⟩⟩⟩⟩⟩⟩⟩⟩⟩⟩⟩⟩⟩
theorem lw_p32 : lw_okq (⟨"NoiseMillModel", "drops", "(I)V"⟩, 17) := ⟨⟨by decide +kernel, by decide +kernel⟩, List.mem_of_getElem? (i := 1598) (by decide +kernel), List.mem_of_getElem? (i := 1717) (by decide +kernel), List.mem_of_getElem? (i := 1718) (by decide +kernel)⟩
theorem lw_p33 : lw_okq (⟨"NoiseMillModel", "gears", "(II)I"⟩, 17) := ⟨⟨by decide +kernel, by decide +kernel⟩, List.mem_of_getElem? (i := 1598) (by decide +kernel), List.mem_of_getElem? (i := 1725) (by decide +kernel), List.mem_of_getElem? (i := 1726) (by decide +kernel)⟩
theorem lw_p34 : lw_okq (⟨"NoiseMillModel", "meshes", "(II)I"⟩, 17) := ⟨⟨by decide +kernel, by decide +kernel⟩, List.mem_of_getElem? (i := 1598) (by decide +kernel), List.mem_of_getElem? (i := 1736) (by decide +kernel), List.mem_of_getElem? (i := 1737) (by decide +kernel)⟩
theorem lw_p35 : lw_okq (⟨"NoiseMillModel", "clears", "(I)I"⟩, 17) := ⟨⟨by decide +kernel, by decide +kernel⟩, List.mem_of_getElem? (i := 1598) (by decide +kernel), List.mem_of_getElem? (i := 1744) (by decide +kernel), List.mem_of_getElem? (i := 1745) (by decide +kernel)⟩
theorem lw_p36 : lw_okq (⟨"NoiseMillModel", "releases", "(I)I"⟩, 17) := ⟨⟨by decide +kernel, by decide +kernel⟩, List.mem_of_getElem? (i := 1598) (by decide +kernel), List.mem_of_getElem? (i := 1752) (by decide +kernel), List.mem_of_getElem? (i := 1753) (by decide +kernel)⟩
theorem lw_p37 : lw_okq (⟨"NoiseMillModel", "ships", "(II)I"⟩, 17) := ⟨⟨by decide +kernel, by decide +kernel⟩, List.mem_of_getElem? (i := 1598) (by decide +kernel), List.mem_of_getElem? (i := 1760) (by decide +kernel), List.mem_of_getElem? (i := 1761) (by decide +kernel)⟩
theorem lw_p38 : lw_okq (⟨"NoiseMillModel", "advances", "(I)I"⟩, 17) := ⟨⟨by decide +kernel, by decide +kernel⟩, List.mem_of_getElem? (i := 1598) (by decide +kernel), List.mem_of_getElem? (i := 1771) (by decide +kernel), List.mem_of_getElem? (i := 1772) (by decide +kernel)⟩
theorem lw_p39 : lw_okq (⟨"NoiseMillModel", "step", "()V"⟩, 17) := ⟨⟨by decide +kernel, by decide +kernel⟩, List.mem_of_getElem? (i := 1598) (by decide +kernel), List.mem_of_getElem? (i := 1775) (by decide +kernel), List.mem_of_getElem? (i := 1776) (by decide +kernel)⟩
theorem lw_p40 : lw_okq (⟨"NoiseMillModel", "acts", "(I)V"⟩, 17) := ⟨⟨by decide +kernel, by decide +kernel⟩, List.mem_of_getElem? (i := 1598) (by decide +kernel), List.mem_of_getElem? (i := 1779) (by decide +kernel), List.mem_of_getElem? (i := 1780) (by decide +kernel)⟩
theorem lw_p41 : lw_okq (⟨"NoiseMillModel", "ranked", "(I)I"⟩, 17) := ⟨⟨by decide +kernel, by decide +kernel⟩, List.mem_of_getElem? (i := 1598) (by decide +kernel), List.mem_of_getElem? (i := 1783) (by decide +kernel), List.mem_of_getElem? (i := 1784) (by decide +kernel)⟩
theorem lw_p42 : lw_okq (⟨"NoiseMillModel", "rank", "(I)I"⟩, 17) := ⟨⟨by decide +kernel, by decide +kernel⟩, List.mem_of_getElem? (i := 1598) (by decide +kernel), List.mem_of_getElem? (i := 1787) (by decide +kernel), List.mem_of_getElem? (i := 1788) (by decide +kernel)⟩
theorem lw_p43 : lw_okq (⟨"NoiseMillModel", "isBefore", "(II)Z"⟩, 17) := ⟨⟨by decide +kernel, by decide +kernel⟩, List.mem_of_getElem? (i := 1598) (by decide +kernel), List.mem_of_getElem? (i := 1791) (by decide +kernel), List.mem_of_getElem? (i := 1792) (by decide +kernel)⟩
theorem lw_p44 : lw_okq (⟨"NoiseMillModel", "grinds", "(I)V"⟩, 17) := ⟨⟨by decide +kernel, by decide +kernel⟩, List.mem_of_getElem? (i := 1598) (by decide +kernel), List.mem_of_getElem? (i := 1795) (by decide +kernel), List.mem_of_getElem? (i := 1796) (by decide +kernel)⟩
theorem lw_p45 : lw_okq (⟨"NoiseMillModel", "sacks", "(II)V"⟩, 17) := ⟨⟨by decide +kernel, by decide +kernel⟩, List.mem_of_getElem? (i := 1598) (by decide +kernel), List.mem_of_getElem? (i := 1799) (by decide +kernel), List.mem_of_getElem? (i := 1800) (by decide +kernel)⟩
theorem lw_p46 : lw_okq (⟨"NoiseMillModel", "finishes", "(II)V"⟩, 17) := ⟨⟨by decide +kernel, by decide +kernel⟩, List.mem_of_getElem? (i := 1598) (by decide +kernel), List.mem_of_getElem? (i := 1803) (by decide +kernel), List.mem_of_getElem? (i := 1804) (by decide +kernel)⟩
theorem lw_p47 : lw_okq (⟨"NoiseMillModel", "noiseNumber", "(II)I"⟩, 17) := ⟨⟨by decide +kernel, by decide +kernel⟩, List.mem_of_getElem? (i := 1598) (by decide +kernel), List.mem_of_getElem? (i := 1831) (by decide +kernel), List.mem_of_getElem? (i := 1832) (by decide +kernel)⟩
def lw_privs_3 : List (MethodName × Nat) := [(⟨"NoiseMillModel", "drops", "(I)V"⟩, 17), (⟨"NoiseMillModel", "gears", "(II)I"⟩, 17), (⟨"NoiseMillModel", "meshes", "(II)I"⟩, 17), (⟨"NoiseMillModel", "clears", "(I)I"⟩, 17), (⟨"NoiseMillModel", "releases", "(I)I"⟩, 17), (⟨"NoiseMillModel", "ships", "(II)I"⟩, 17), (⟨"NoiseMillModel", "advances", "(I)I"⟩, 17), (⟨"NoiseMillModel", "step", "()V"⟩, 17), (⟨"NoiseMillModel", "acts", "(I)V"⟩, 17), (⟨"NoiseMillModel", "ranked", "(I)I"⟩, 17), (⟨"NoiseMillModel", "rank", "(I)I"⟩, 17), (⟨"NoiseMillModel", "isBefore", "(II)Z"⟩, 17), (⟨"NoiseMillModel", "grinds", "(I)V"⟩, 17), (⟨"NoiseMillModel", "sacks", "(II)V"⟩, 17), (⟨"NoiseMillModel", "finishes", "(II)V"⟩, 17), (⟨"NoiseMillModel", "noiseNumber", "(II)I"⟩, 17)]
theorem lw_r3 : ∀ q ∈ lw_privs_3, lw_okq q := List.forall_mem_cons.mpr ⟨lw_p32, List.forall_mem_cons.mpr ⟨lw_p33, List.forall_mem_cons.mpr ⟨lw_p34, List.forall_mem_cons.mpr ⟨lw_p35, List.forall_mem_cons.mpr ⟨lw_p36, List.forall_mem_cons.mpr ⟨lw_p37, List.forall_mem_cons.mpr ⟨lw_p38, List.forall_mem_cons.mpr ⟨lw_p39, List.forall_mem_cons.mpr ⟨lw_p40, List.forall_mem_cons.mpr ⟨lw_p41, List.forall_mem_cons.mpr ⟨lw_p42, List.forall_mem_cons.mpr ⟨lw_p43, List.forall_mem_cons.mpr ⟨lw_p44, List.forall_mem_cons.mpr ⟨lw_p45, List.forall_mem_cons.mpr ⟨lw_p46, List.forall_mem_cons.mpr ⟨lw_p47, fun _ h => absurd h List.not_mem_nil⟩⟩⟩⟩⟩⟩⟩⟩⟩⟩⟩⟩⟩⟩⟩⟩
theorem lw_p48 : lw_okq (⟨"NoiseMillModel", "wheelNumber", "(II)I"⟩, 17) := ⟨⟨by decide +kernel, by decide +kernel⟩, List.mem_of_getElem? (i := 1598) (by decide +kernel), List.mem_of_getElem? (i := 1859) (by decide +kernel), List.mem_of_getElem? (i := 1860) (by decide +kernel)⟩
theorem lw_p49 : lw_okq (⟨"NoiseMillModel", "bandNumber", "(II)I"⟩, 17) := ⟨⟨by decide +kernel, by decide +kernel⟩, List.mem_of_getElem? (i := 1598) (by decide +kernel), List.mem_of_getElem? (i := 1875) (by decide +kernel), List.mem_of_getElem? (i := 1876) (by decide +kernel)⟩
theorem lw_p50 : lw_okq (⟨"NoiseMillModel", "stepsFor", "(I)I"⟩, 17) := ⟨⟨by decide +kernel, by decide +kernel⟩, List.mem_of_getElem? (i := 1598) (by decide +kernel), List.mem_of_getElem? (i := 1932) (by decide +kernel), List.mem_of_getElem? (i := 1933) (by decide +kernel)⟩
theorem lw_p51 : lw_okq (⟨"NoiseMillModel", "logNumber", "(II)I"⟩, 17) := ⟨⟨by decide +kernel, by decide +kernel⟩, List.mem_of_getElem? (i := 1598) (by decide +kernel), List.mem_of_getElem? (i := 1957) (by decide +kernel), List.mem_of_getElem? (i := 1958) (by decide +kernel)⟩
theorem lw_p52 : lw_okq (⟨"NoiseMillModel", "isWheelAhead", "(II)Z"⟩, 17) := ⟨⟨by decide +kernel, by decide +kernel⟩, List.mem_of_getElem? (i := 1598) (by decide +kernel), List.mem_of_getElem? (i := 1973) (by decide +kernel), List.mem_of_getElem? (i := 1974) (by decide +kernel)⟩
theorem lw_p53 : lw_okq (⟨"NoiseMillModel", "isBandAhead", "(II)Z"⟩, 17) := ⟨⟨by decide +kernel, by decide +kernel⟩, List.mem_of_getElem? (i := 1598) (by decide +kernel), List.mem_of_getElem? (i := 1981) (by decide +kernel), List.mem_of_getElem? (i := 1982) (by decide +kernel)⟩
theorem lw_p54 : lw_okq (⟨"NoiseMillModel", "grainsOf", "(I)I"⟩, 17) := ⟨⟨by decide +kernel, by decide +kernel⟩, List.mem_of_getElem? (i := 1598) (by decide +kernel), List.mem_of_getElem? (i := 1985) (by decide +kernel), List.mem_of_getElem? (i := 1986) (by decide +kernel)⟩
theorem lw_p55 : lw_okq (⟨"NoiseMillModel", "writesNumber", "(I)V"⟩, 17) := ⟨⟨by decide +kernel, by decide +kernel⟩, List.mem_of_getElem? (i := 1598) (by decide +kernel), List.mem_of_getElem? (i := 2005) (by decide +kernel), List.mem_of_getElem? (i := 2006) (by decide +kernel)⟩
theorem lw_p56 : lw_okq (⟨"NoiseMillModel", "writes", "(I)V"⟩, 17) := ⟨⟨by decide +kernel, by decide +kernel⟩, List.mem_of_getElem? (i := 1598) (by decide +kernel), List.mem_of_getElem? (i := 2009) (by decide +kernel), List.mem_of_getElem? (i := 2010) (by decide +kernel)⟩
theorem lw_p57 : lw_okq (⟨"NoiseMillModel", "parsesCommand", "(I)V"⟩, 17) := ⟨⟨by decide +kernel, by decide +kernel⟩, List.mem_of_getElem? (i := 1598) (by decide +kernel), List.mem_of_getElem? (i := 2029) (by decide +kernel), List.mem_of_getElem? (i := 2030) (by decide +kernel)⟩
theorem lw_p58 : lw_okq (⟨"NoiseMillModel", "here", "()I"⟩, 17) := ⟨⟨by decide +kernel, by decide +kernel⟩, List.mem_of_getElem? (i := 1598) (by decide +kernel), List.mem_of_getElem? (i := 2033) (by decide +kernel), List.mem_of_getElem? (i := 2034) (by decide +kernel)⟩
theorem lw_p59 : lw_okq (⟨"NoiseMillModel", "needsThree", "(III)V"⟩, 17) := ⟨⟨by decide +kernel, by decide +kernel⟩, List.mem_of_getElem? (i := 1598) (by decide +kernel), List.mem_of_getElem? (i := 2037) (by decide +kernel), List.mem_of_getElem? (i := 2038) (by decide +kernel)⟩
theorem lw_p60 : lw_okq (⟨"NoiseMillModel", "needs", "(I)V"⟩, 17) := ⟨⟨by decide +kernel, by decide +kernel⟩, List.mem_of_getElem? (i := 1598) (by decide +kernel), List.mem_of_getElem? (i := 2041) (by decide +kernel), List.mem_of_getElem? (i := 2042) (by decide +kernel)⟩
theorem lw_p61 : lw_okq (⟨"NoiseMillModel", "digits", "(I)I"⟩, 17) := ⟨⟨by decide +kernel, by decide +kernel⟩, List.mem_of_getElem? (i := 1598) (by decide +kernel), List.mem_of_getElem? (i := 2045) (by decide +kernel), List.mem_of_getElem? (i := 2046) (by decide +kernel)⟩
theorem lw_p62 : lw_okq (⟨"NoiseMillModel", "parsesS", "(I)V"⟩, 17) := ⟨⟨by decide +kernel, by decide +kernel⟩, List.mem_of_getElem? (i := 1598) (by decide +kernel), List.mem_of_getElem? (i := 2049) (by decide +kernel), List.mem_of_getElem? (i := 2050) (by decide +kernel)⟩
theorem lw_p63 : lw_okq (⟨"NoiseMillModel", "carriesOut", "(I)I"⟩, 17) := ⟨⟨by decide +kernel, by decide +kernel⟩, List.mem_of_getElem? (i := 1598) (by decide +kernel), List.mem_of_getElem? (i := 2053) (by decide +kernel), List.mem_of_getElem? (i := 2054) (by decide +kernel)⟩
def lw_privs_4 : List (MethodName × Nat) := [(⟨"NoiseMillModel", "wheelNumber", "(II)I"⟩, 17), (⟨"NoiseMillModel", "bandNumber", "(II)I"⟩, 17), (⟨"NoiseMillModel", "stepsFor", "(I)I"⟩, 17), (⟨"NoiseMillModel", "logNumber", "(II)I"⟩, 17), (⟨"NoiseMillModel", "isWheelAhead", "(II)Z"⟩, 17), (⟨"NoiseMillModel", "isBandAhead", "(II)Z"⟩, 17), (⟨"NoiseMillModel", "grainsOf", "(I)I"⟩, 17), (⟨"NoiseMillModel", "writesNumber", "(I)V"⟩, 17), (⟨"NoiseMillModel", "writes", "(I)V"⟩, 17), (⟨"NoiseMillModel", "parsesCommand", "(I)V"⟩, 17), (⟨"NoiseMillModel", "here", "()I"⟩, 17), (⟨"NoiseMillModel", "needsThree", "(III)V"⟩, 17), (⟨"NoiseMillModel", "needs", "(I)V"⟩, 17), (⟨"NoiseMillModel", "digits", "(I)I"⟩, 17), (⟨"NoiseMillModel", "parsesS", "(I)V"⟩, 17), (⟨"NoiseMillModel", "carriesOut", "(I)I"⟩, 17)]
theorem lw_r4 : ∀ q ∈ lw_privs_4, lw_okq q := List.forall_mem_cons.mpr ⟨lw_p48, List.forall_mem_cons.mpr ⟨lw_p49, List.forall_mem_cons.mpr ⟨lw_p50, List.forall_mem_cons.mpr ⟨lw_p51, List.forall_mem_cons.mpr ⟨lw_p52, List.forall_mem_cons.mpr ⟨lw_p53, List.forall_mem_cons.mpr ⟨lw_p54, List.forall_mem_cons.mpr ⟨lw_p55, List.forall_mem_cons.mpr ⟨lw_p56, List.forall_mem_cons.mpr ⟨lw_p57, List.forall_mem_cons.mpr ⟨lw_p58, List.forall_mem_cons.mpr ⟨lw_p59, List.forall_mem_cons.mpr ⟨lw_p60, List.forall_mem_cons.mpr ⟨lw_p61, List.forall_mem_cons.mpr ⟨lw_p62, List.forall_mem_cons.mpr ⟨lw_p63, fun _ h => absurd h List.not_mem_nil⟩⟩⟩⟩⟩⟩⟩⟩⟩⟩⟩⟩⟩⟩⟩⟩
def lw_privs : List (MethodName × Nat) := lw_privs_1 ++ (lw_privs_2 ++ (lw_privs_3 ++ (lw_privs_4)))
def lw_tbl : List Cond := k2_sels lw_privs ++ tables_1
theorem lw_privs_ok : ∀ q ∈ lw_privs, lw_okq q := by
  show ∀ q ∈ lw_privs_1 ++ (lw_privs_2 ++ (lw_privs_3 ++ (lw_privs_4))), lw_okq q
  exact List.forall_mem_append.mpr ⟨lw_r1, List.forall_mem_append.mpr ⟨lw_r2, List.forall_mem_append.mpr ⟨lw_r3, lw_r4⟩⟩⟩
/-- the streams that the claim lets the run draw from -/
abbrev lw_cs : List Choice := [Jvm.Choice.named "NaN.bits"]
theorem lw_bits : nanBits ∈ lw_cs := by first | decide | exact List.mem_cons_self | simp [lw_cs, nanBits]
-- ===== end of PART A; then your names; then what follows =====
/-! ===== BEGIN printed: names, fields, word lists, decode rows ===== -/
def RX0 : String := "NoiseMill$1"
def TX0 : u_T := fun k => match k with
  | _ => ("", "", "", false)
def tyX0 : Nat → FieldType := fun k => match k with
  | _ => .int
abbrev wsX00 : List Cond := u_ws RX0 TX0 0
theorem nmX0 : ∀ a, a < 0 → ∀ b, b < 0 → a ≠ b → (TX0 a).2.1 ≠ (TX0 b).2.1 := by decide +kernel
theorem tyX0_ok : ∀ k, k < 0 → parseFieldDescriptor (TX0 k).2.2.1 = some (tyX0 k) := by decide +kernel
def RX1 : String := "NoiseMill$Command"
def TX1 : u_T := fun k => match k with
  | 0 => ("NoiseMill$Command", "kind", "LNoiseMill$Kind;", false)
  | _ => ("NoiseMill$Command", "arguments", "[I", true)
def tyX1 : Nat → FieldType := fun k => match k with
  | 0 => .object "NoiseMill$Kind"
  | _ => .array .int
abbrev wsX10 : List Cond := u_ws RX1 TX1 2
theorem nmX1 : ∀ a, a < 2 → ∀ b, b < 2 → a ≠ b → (TX1 a).2.1 ≠ (TX1 b).2.1 := by decide +kernel
theorem tyX1_ok : ∀ k, k < 2 → parseFieldDescriptor (TX1 k).2.2.1 = some (tyX1 k) := by decide +kernel
abbrev cX1_init : ByteArray := prog_3_method_1_code
def yX1_init : MethodName := ⟨RX1, "<init>", "()V"⟩
def RX2 : String := "NoiseMill$Fault"
def TX2 : u_T := fun k => match k with
  | _ => ("", "", "", false)
def tyX2 : Nat → FieldType := fun k => match k with
  | _ => .int
abbrev wsX20 : List Cond := u_ws RX2 TX2 0
theorem nmX2 : ∀ a, a < 0 → ∀ b, b < 0 → a ≠ b → (TX2 a).2.1 ≠ (TX2 b).2.1 := by decide +kernel
theorem tyX2_ok : ∀ k, k < 0 → parseFieldDescriptor (TX2 k).2.2.1 = some (tyX2 k) := by decide +kernel
def RX3 : String := "NoiseMill$History"
def TX3 : u_T := fun k => match k with
  | 0 => ("NoiseMill$History", "states", "[LNoiseMill$Mill;", true)
  | 1 => ("NoiseMill$History", "next", "I", false)
  | _ => ("NoiseMill$History", "count", "I", false)
def tyX3 : Nat → FieldType := fun k => match k with
  | 0 => .array (.object "NoiseMill$Mill")
  | 1 => .int
  | _ => .int
abbrev wsX30 : List Cond := u_ws RX3 TX3 3
theorem nmX3 : ∀ a, a < 3 → ∀ b, b < 3 → a ≠ b → (TX3 a).2.1 ≠ (TX3 b).2.1 := by decide +kernel
theorem tyX3_ok : ∀ k, k < 3 → parseFieldDescriptor (TX3 k).2.2.1 = some (tyX3 k) := by decide +kernel
abbrev cX3_init : ByteArray := prog_5_method_1_code
def yX3_init : MethodName := ⟨RX3, "<init>", "()V"⟩
abbrev cX3_push : ByteArray := prog_5_method_2_code
def yX3_push : MethodName := ⟨RX3, "push", "(LNoiseMill$Mill;)V"⟩
abbrev cX3_popInto : ByteArray := prog_5_method_3_code
def yX3_popInto : MethodName := ⟨RX3, "popInto", "(LNoiseMill$Mill;)V"⟩
abbrev cX3_forget : ByteArray := prog_5_method_4_code
def yX3_forget : MethodName := ⟨RX3, "forget", "()V"⟩
def RX4 : String := "NoiseMill$Kind"
def TX4 : u_T := fun k => match k with
  | _ => ("", "", "", false)
def tyX4 : Nat → FieldType := fun k => match k with
  | _ => .int
abbrev wsX40 : List Cond := u_ws RX4 TX4 0
theorem nmX4 : ∀ a, a < 0 → ∀ b, b < 0 → a ≠ b → (TX4 a).2.1 ≠ (TX4 b).2.1 := by decide +kernel
theorem tyX4_ok : ∀ k, k < 0 → parseFieldDescriptor (TX4 k).2.2.1 = some (tyX4 k) := by decide +kernel
def RX5 : String := "NoiseMill$Log"
def TX5 : u_T := fun k => match k with
  | 0 => ("NoiseMill$Log", "numbers", "[I", true)
  | 1 => ("NoiseMill$Log", "wheels", "[I", true)
  | 2 => ("NoiseMill$Log", "times", "[I", true)
  | _ => ("NoiseMill$Log", "count", "I", false)
def tyX5 : Nat → FieldType := fun k => match k with
  | 0 => .array .int
  | 1 => .array .int
  | 2 => .array .int
  | _ => .int
abbrev wsX50 : List Cond := u_ws RX5 TX5 4
theorem nmX5 : ∀ a, a < 4 → ∀ b, b < 4 → a ≠ b → (TX5 a).2.1 ≠ (TX5 b).2.1 := by decide +kernel
theorem tyX5_ok : ∀ k, k < 4 → parseFieldDescriptor (TX5 k).2.2.1 = some (tyX5 k) := by decide +kernel
abbrev cX5_init : ByteArray := prog_7_method_1_code
def yX5_init : MethodName := ⟨RX5, "<init>", "()V"⟩
abbrev cX5_copyFrom : ByteArray := prog_7_method_2_code
def yX5_copyFrom : MethodName := ⟨RX5, "copyFrom", "(LNoiseMill$Log;)V"⟩
abbrev cX5_remember : ByteArray := prog_7_method_3_code
def yX5_remember : MethodName := ⟨RX5, "remember", "(III)V"⟩
abbrev cX5_rowOf : ByteArray := prog_7_method_4_code
def yX5_rowOf : MethodName := ⟨RX5, "rowOf", "(I)I"⟩
def RX6 : String := "NoiseMill$Mill"
def TX6 : u_T := fun k => match k with
  | 0 => ("NoiseMill$Mill", "noises", "LNoiseMill$Noises;", true)
  | 1 => ("NoiseMill$Mill", "store", "LNoiseMill$Store;", true)
  | 2 => ("NoiseMill$Mill", "log", "LNoiseMill$Log;", true)
  | 3 => ("NoiseMill$Mill", "gears", "[I", true)
  | 4 => ("NoiseMill$Mill", "wears", "[I", true)
  | 5 => ("NoiseMill$Mill", "meshes", "[I", true)
  | _ => ("NoiseMill$Mill", "clock", "I", false)
def tyX6 : Nat → FieldType := fun k => match k with
  | 0 => .object "NoiseMill$Noises"
  | 1 => .object "NoiseMill$Store"
  | 2 => .object "NoiseMill$Log"
  | 3 => .array .int
  | 4 => .array .int
  | 5 => .array .int
  | _ => .int
abbrev wsX60 : List Cond := u_ws RX6 TX6 7
theorem nmX6 : ∀ a, a < 7 → ∀ b, b < 7 → a ≠ b → (TX6 a).2.1 ≠ (TX6 b).2.1 := by decide +kernel
theorem tyX6_ok : ∀ k, k < 7 → parseFieldDescriptor (TX6 k).2.2.1 = some (tyX6 k) := by decide +kernel
abbrev cX6_init : ByteArray := prog_8_method_1_code
def yX6_init : MethodName := ⟨RX6, "<init>", "()V"⟩
abbrev cX6_copyFrom : ByteArray := prog_8_method_2_code
def yX6_copyFrom : MethodName := ⟨RX6, "copyFrom", "(LNoiseMill$Mill;)V"⟩
abbrev cX6_isWheel : ByteArray := prog_8_method_3_code
def yX6_isWheel : MethodName := ⟨RX6, "isWheel", "(I)Z"⟩
abbrev cX6_isBand : ByteArray := prog_8_method_4_code
def yX6_isBand : MethodName := ⟨RX6, "isBand", "(I)Z"⟩
abbrev cX6_isGrade : ByteArray := prog_8_method_5_code
def yX6_isGrade : MethodName := ⟨RX6, "isGrade", "(I)Z"⟩
abbrev cX6_isWithin : ByteArray := prog_8_method_6_code
def yX6_isWithin : MethodName := ⟨RX6, "isWithin", "(III)Z"⟩
abbrev cX6_isStuck : ByteArray := prog_8_method_7_code
def yX6_isStuck : MethodName := ⟨RX6, "isStuck", "(I)Z"⟩
abbrev cX6_faultOfAdding : ByteArray := prog_8_method_8_code
def yX6_faultOfAdding : MethodName := ⟨RX6, "faultOfAdding", "(III)LNoiseMill$Fault;"⟩
abbrev cX6_add : ByteArray := prog_8_method_9_code
def yX6_add : MethodName := ⟨RX6, "add", "(III)I"⟩
abbrev cX6_faultOfRemoving : ByteArray := prog_8_method_10_code
def yX6_faultOfRemoving : MethodName := ⟨RX6, "faultOfRemoving", "(I)LNoiseMill$Fault;"⟩
abbrev cX6_remove : ByteArray := prog_8_method_11_code
def yX6_remove : MethodName := ⟨RX6, "remove", "(I)I"⟩
abbrev cX6_faultOfGear : ByteArray := prog_8_method_12_code
def yX6_faultOfGear : MethodName := ⟨RX6, "faultOfGear", "(II)LNoiseMill$Fault;"⟩
abbrev cX6_changeGear : ByteArray := prog_8_method_13_code
def yX6_changeGear : MethodName := ⟨RX6, "changeGear", "(II)I"⟩
abbrev cX6_faultOfMesh : ByteArray := prog_8_method_14_code
def yX6_faultOfMesh : MethodName := ⟨RX6, "faultOfMesh", "(II)LNoiseMill$Fault;"⟩
abbrev cX6_changeMesh : ByteArray := prog_8_method_15_code
def yX6_changeMesh : MethodName := ⟨RX6, "changeMesh", "(II)I"⟩
abbrev cX6_faultOfClearing : ByteArray := prog_8_method_16_code
def yX6_faultOfClearing : MethodName := ⟨RX6, "faultOfClearing", "(I)LNoiseMill$Fault;"⟩
abbrev cX6_clear : ByteArray := prog_8_method_17_code
def yX6_clear : MethodName := ⟨RX6, "clear", "(I)I"⟩
abbrev cX6_faultOfReleasing : ByteArray := prog_8_method_18_code
def yX6_faultOfReleasing : MethodName := ⟨RX6, "faultOfReleasing", "(I)LNoiseMill$Fault;"⟩
abbrev cX6_release : ByteArray := prog_8_method_19_code
def yX6_release : MethodName := ⟨RX6, "release", "(I)I"⟩
abbrev cX6_faultOfShipping : ByteArray := prog_8_method_20_code
def yX6_faultOfShipping : MethodName := ⟨RX6, "faultOfShipping", "(II)LNoiseMill$Fault;"⟩
abbrev cX6_ship : ByteArray := prog_8_method_21_code
def yX6_ship : MethodName := ⟨RX6, "ship", "(II)I"⟩
abbrev cX6_faultOfAdvancing : ByteArray := prog_8_method_22_code
def yX6_faultOfAdvancing : MethodName := ⟨RX6, "faultOfAdvancing", "(I)LNoiseMill$Fault;"⟩
abbrev cX6_pass : ByteArray := prog_8_method_23_code
def yX6_pass : MethodName := ⟨RX6, "pass", "(I)I"⟩
abbrev cX6_grind : ByteArray := prog_8_method_24_code
def yX6_grind : MethodName := ⟨RX6, "grind", "(I)I"⟩
abbrev cX6_stepsByRate : ByteArray := prog_8_method_25_code
def yX6_stepsByRate : MethodName := ⟨RX6, "stepsByRate", "(I)I"⟩
abbrev cX6_countWheelsBefore : ByteArray := prog_8_method_26_code
def yX6_countWheelsBefore : MethodName := ⟨RX6, "countWheelsBefore", "(I)I"⟩
abbrev cX6_isWheelBefore : ByteArray := prog_8_method_27_code
def yX6_isWheelBefore : MethodName := ⟨RX6, "isWheelBefore", "(II)Z"⟩
abbrev cX6_countBandsBefore : ByteArray := prog_8_method_28_code
def yX6_countBandsBefore : MethodName := ⟨RX6, "countBandsBefore", "(I)I"⟩
abbrev cX6_isBandBefore : ByteArray := prog_8_method_29_code
def yX6_isBandBefore : MethodName := ⟨RX6, "isBandBefore", "(II)Z"⟩
def RX7 : String := "NoiseMill$Noises"
def TX7 : u_T := fun k => match k with
  | 0 => ("NoiseMill$Noises", "numbers", "[I", true)
  | 1 => ("NoiseMill$Noises", "bands", "[I", true)
  | 2 => ("NoiseMill$Noises", "loudnesses", "[I", true)
  | 3 => ("NoiseMill$Noises", "amounts", "[I", true)
  | 4 => ("NoiseMill$Noises", "held", "[Z", true)
  | 5 => ("NoiseMill$Noises", "waiting", "I", false)
  | _ => ("NoiseMill$Noises", "nextNumber", "I", false)
def tyX7 : Nat → FieldType := fun k => match k with
  | 0 => .array .int
  | 1 => .array .int
  | 2 => .array .int
  | 3 => .array .int
  | 4 => .array .boolean
  | 5 => .int
  | _ => .int
abbrev wsX70 : List Cond := u_ws RX7 TX7 7
theorem nmX7 : ∀ a, a < 7 → ∀ b, b < 7 → a ≠ b → (TX7 a).2.1 ≠ (TX7 b).2.1 := by decide +kernel
theorem tyX7_ok : ∀ k, k < 7 → parseFieldDescriptor (TX7 k).2.2.1 = some (tyX7 k) := by decide +kernel
abbrev cX7_init : ByteArray := prog_9_method_1_code
def yX7_init : MethodName := ⟨RX7, "<init>", "()V"⟩
abbrev cX7_copyFrom : ByteArray := prog_9_method_2_code
def yX7_copyFrom : MethodName := ⟨RX7, "copyFrom", "(LNoiseMill$Noises;)V"⟩
abbrev cX7_slotOn : ByteArray := prog_9_method_3_code
def yX7_slotOn : MethodName := ⟨RX7, "slotOn", "(I)I"⟩
abbrev cX7_wheelOfSlot : ByteArray := prog_9_method_4_code
def yX7_wheelOfSlot : MethodName := ⟨RX7, "wheelOfSlot", "(I)I"⟩
abbrev cX7_isWaitingSlot : ByteArray := prog_9_method_5_code
def yX7_isWaitingSlot : MethodName := ⟨RX7, "isWaitingSlot", "(I)Z"⟩
abbrev cX7_isHeld : ByteArray := prog_9_method_6_code
def yX7_isHeld : MethodName := ⟨RX7, "isHeld", "(I)Z"⟩
abbrev cX7_isFull : ByteArray := prog_9_method_7_code
def yX7_isFull : MethodName := ⟨RX7, "isFull", "()Z"⟩
abbrev cX7_slotOf : ByteArray := prog_9_method_8_code
def yX7_slotOf : MethodName := ⟨RX7, "slotOf", "(I)I"⟩
abbrev cX7_append : ByteArray := prog_9_method_9_code
def yX7_append : MethodName := ⟨RX7, "append", "(III)I"⟩
abbrev cX7_removeWaiting : ByteArray := prog_9_method_10_code
def yX7_removeWaiting : MethodName := ⟨RX7, "removeWaiting", "(I)V"⟩
abbrev cX7_takeFirst : ByteArray := prog_9_method_11_code
def yX7_takeFirst : MethodName := ⟨RX7, "takeFirst", "(I)V"⟩
abbrev cX7_putBack : ByteArray := prog_9_method_12_code
def yX7_putBack : MethodName := ⟨RX7, "putBack", "(I)I"⟩
abbrev cX7_leave : ByteArray := prog_9_method_13_code
def yX7_leave : MethodName := ⟨RX7, "leave", "(I)V"⟩
abbrev cX7_move : ByteArray := prog_9_method_14_code
def yX7_move : MethodName := ⟨RX7, "move", "(II)V"⟩
abbrev cX7_firstWaiting : ByteArray := prog_9_method_15_code
def yX7_firstWaiting : MethodName := ⟨RX7, "firstWaiting", "()I"⟩
abbrev cX7_isBefore : ByteArray := prog_9_method_16_code
def yX7_isBefore : MethodName := ⟨RX7, "isBefore", "(II)Z"⟩
abbrev cX7_countBefore : ByteArray := prog_9_method_17_code
def yX7_countBefore : MethodName := ⟨RX7, "countBefore", "(I)I"⟩
abbrev cX7_waitingLoudness : ByteArray := prog_9_method_18_code
def yX7_waitingLoudness : MethodName := ⟨RX7, "waitingLoudness", "()I"⟩
def RX8 : String := "NoiseMill$Script"
def TX8 : u_T := fun k => match k with
  | 0 => ("NoiseMill$Script", "buffer", "[C", true)
  | 1 => ("NoiseMill$Script", "length", "I", false)
  | 2 => ("NoiseMill$Script", "position", "I", false)
  | 3 => ("NoiseMill$Script", "commands", "[LNoiseMill$Command;", true)
  | _ => ("NoiseMill$Script", "commandCount", "I", false)
def tyX8 : Nat → FieldType := fun k => match k with
  | 0 => .array .char
  | 1 => .int
  | 2 => .int
  | 3 => .array (.object "NoiseMill$Command")
  | _ => .int
abbrev wsX80 : List Cond := u_ws RX8 TX8 5
theorem nmX8 : ∀ a, a < 5 → ∀ b, b < 5 → a ≠ b → (TX8 a).2.1 ≠ (TX8 b).2.1 := by decide +kernel
theorem tyX8_ok : ∀ k, k < 5 → parseFieldDescriptor (TX8 k).2.2.1 = some (tyX8 k) := by decide +kernel
abbrev cX8_init : ByteArray := prog_10_method_1_code
def yX8_init : MethodName := ⟨RX8, "<init>", "()V"⟩
abbrev cX8_isFull : ByteArray := prog_10_method_2_code
def yX8_isFull : MethodName := ⟨RX8, "isFull", "()Z"⟩
abbrev cX8_append : ByteArray := prog_10_method_3_code
def yX8_append : MethodName := ⟨RX8, "append", "(C)I"⟩
abbrev cX8_empty : ByteArray := prog_10_method_4_code
def yX8_empty : MethodName := ⟨RX8, "empty", "()V"⟩
abbrev cX8_parse : ByteArray := prog_10_method_5_code
def yX8_parse : MethodName := ⟨RX8, "parse", "()Z"⟩
abbrev cX8_readCommand : ByteArray := prog_10_method_6_code
def yX8_readCommand : MethodName := ⟨RX8, "readCommand", "(LNoiseMill$Command;)Z"⟩
abbrev cX8_readLastNumber : ByteArray := prog_10_method_7_code
def yX8_readLastNumber : MethodName := ⟨RX8, "readLastNumber", "(LNoiseMill$Command;LNoiseMill$Kind;)Z"⟩
abbrev cX8_readWord : ByteArray := prog_10_method_8_code
def yX8_readWord : MethodName := ⟨RX8, "readWord", "()LNoiseMill$Kind;"⟩
abbrev cX8_matchLength : ByteArray := prog_10_method_9_code
def yX8_matchLength : MethodName := ⟨RX8, "matchLength", "(Ljava/lang/String;)I"⟩
abbrev cX8_skip : ByteArray := prog_10_method_10_code
def yX8_skip : MethodName := ⟨RX8, "skip", "(C)Z"⟩
abbrev cX8_isDigitNext : ByteArray := prog_10_method_11_code
def yX8_isDigitNext : MethodName := ⟨RX8, "isDigitNext", "()Z"⟩
abbrev cX8_readDigit : ByteArray := prog_10_method_12_code
def yX8_readDigit : MethodName := ⟨RX8, "readDigit", "()I"⟩
def RX9 : String := "NoiseMill$Store"
def TX9 : u_T := fun k => match k with
  | 0 => ("NoiseMill$Store", "grains", "[I", true)
  | 1 => ("NoiseMill$Store", "shipped", "[I", true)
  | 2 => ("NoiseMill$Store", "records", "[I", true)
  | 3 => ("NoiseMill$Store", "bandsGround", "[Z", true)
  | 4 => ("NoiseMill$Store", "ground", "I", false)
  | 5 => ("NoiseMill$Store", "sieved", "I", false)
  | _ => ("NoiseMill$Store", "spilt", "I", false)
def tyX9 : Nat → FieldType := fun k => match k with
  | 0 => .array .int
  | 1 => .array .int
  | 2 => .array .int
  | 3 => .array .boolean
  | 4 => .int
  | 5 => .int
  | _ => .int
abbrev wsX90 : List Cond := u_ws RX9 TX9 7
theorem nmX9 : ∀ a, a < 7 → ∀ b, b < 7 → a ≠ b → (TX9 a).2.1 ≠ (TX9 b).2.1 := by decide +kernel
theorem tyX9_ok : ∀ k, k < 7 → parseFieldDescriptor (TX9 k).2.2.1 = some (tyX9 k) := by decide +kernel
abbrev cX9_init : ByteArray := prog_11_method_1_code
def yX9_init : MethodName := ⟨RX9, "<init>", "()V"⟩
abbrev cX9_copyFrom : ByteArray := prog_11_method_2_code
def yX9_copyFrom : MethodName := ⟨RX9, "copyFrom", "(LNoiseMill$Store;)V"⟩
abbrev cX9_row : ByteArray := prog_11_method_3_code
def yX9_row : MethodName := ⟨RX9, "row", "(II)I"⟩
abbrev cX9_receive : ByteArray := prog_11_method_4_code
def yX9_receive : MethodName := ⟨RX9, "receive", "(III)V"⟩
abbrev cX9_sendOff : ByteArray := prog_11_method_5_code
def yX9_sendOff : MethodName := ⟨RX9, "sendOff", "(II)V"⟩
abbrev cX9_full : ByteArray := prog_11_method_6_code
def yX9_full : MethodName := ⟨RX9, "full", "(I)I"⟩
abbrev cX9_open : ByteArray := prog_11_method_7_code
def yX9_open : MethodName := ⟨RX9, "open", "(I)I"⟩
abbrev cX9_lost : ByteArray := prog_11_method_8_code
def yX9_lost : MethodName := ⟨RX9, "lost", "()I"⟩
abbrev cX9_countGroundBands : ByteArray := prog_11_method_9_code
def yX9_countGroundBands : MethodName := ⟨RX9, "countGroundBands", "()I"⟩
abbrev cX9_recordedOfBand : ByteArray := prog_11_method_10_code
def yX9_recordedOfBand : MethodName := ⟨RX9, "recordedOfBand", "(I)I"⟩
abbrev cX9_recordedLessShipped : ByteArray := prog_11_method_11_code
def yX9_recordedLessShipped : MethodName := ⟨RX9, "recordedLessShipped", "(I)I"⟩
abbrev cX9_recordedAndLost : ByteArray := prog_11_method_12_code
def yX9_recordedAndLost : MethodName := ⟨RX9, "recordedAndLost", "()I"⟩
def RX10 : String := "NoiseMill$WaitingQueue"
def TX10 : u_T := fun k => match k with
  | 0 => ("NoiseMill$WaitingQueue", "slots", "[I", true)
  | _ => ("NoiseMill$WaitingQueue", "size", "I", false)
def tyX10 : Nat → FieldType := fun k => match k with
  | 0 => .array .int
  | _ => .int
abbrev wsX100 : List Cond := u_ws RX10 TX10 2
theorem nmX10 : ∀ a, a < 2 → ∀ b, b < 2 → a ≠ b → (TX10 a).2.1 ≠ (TX10 b).2.1 := by decide +kernel
theorem tyX10_ok : ∀ k, k < 2 → parseFieldDescriptor (TX10 k).2.2.1 = some (tyX10 k) := by decide +kernel
abbrev cX10_init : ByteArray := prog_12_method_1_code
def yX10_init : MethodName := ⟨RX10, "<init>", "()V"⟩
abbrev cX10_fill : ByteArray := prog_12_method_2_code
def yX10_fill : MethodName := ⟨RX10, "fill", "(LNoiseMill$Noises;)V"⟩
abbrev cX10_take : ByteArray := prog_12_method_3_code
def yX10_take : MethodName := ⟨RX10, "take", "(LNoiseMill$Noises;)I"⟩
def RX11 : String := "NoiseMill"
def TX11 : u_T := fun k => match k with
  | 0 => ("NoiseMill", "now", "LNoiseMill$Mill;", true)
  | 1 => ("NoiseMill", "trial", "LNoiseMill$Mill;", true)
  | 2 => ("NoiseMill", "snapshot", "LNoiseMill$Mill;", true)
  | 3 => ("NoiseMill", "hasSnapshot", "Z", false)
  | 4 => ("NoiseMill", "past", "LNoiseMill$History;", true)
  | 5 => ("NoiseMill", "queue", "LNoiseMill$WaitingQueue;", true)
  | 6 => ("NoiseMill", "script", "LNoiseMill$Script;", true)
  | 7 => ("NoiseMill", "output", "Ljava/lang/StringBuilder;", true)
  | 8 => ("NoiseMill", "latestErrorPosition", "I", false)
  | _ => ("NoiseMill", "latestFailedCommand", "I", false)
def tyX11 : Nat → FieldType := fun k => match k with
  | 0 => .object "NoiseMill$Mill"
  | 1 => .object "NoiseMill$Mill"
  | 2 => .object "NoiseMill$Mill"
  | 3 => .boolean
  | 4 => .object "NoiseMill$History"
  | 5 => .object "NoiseMill$WaitingQueue"
  | 6 => .object "NoiseMill$Script"
  | 7 => .object "java/lang/StringBuilder"
  | 8 => .int
  | _ => .int
abbrev wsX110 : List Cond := u_ws RX11 TX11 10
theorem nmX11 : ∀ a, a < 10 → ∀ b, b < 10 → a ≠ b → (TX11 a).2.1 ≠ (TX11 b).2.1 := by decide +kernel
theorem tyX11_ok : ∀ k, k < 10 → parseFieldDescriptor (TX11 k).2.2.1 = some (tyX11 k) := by decide +kernel
abbrev cX11_init : ByteArray := prog_1_method_1_code
def yX11_init : MethodName := ⟨RX11, "<init>", "()V"⟩
abbrev cX11_addNoise : ByteArray := prog_1_method_2_code
def yX11_addNoise : MethodName := ⟨RX11, "addNoise", "(III)I"⟩
abbrev cX11_removeNoise : ByteArray := prog_1_method_3_code
def yX11_removeNoise : MethodName := ⟨RX11, "removeNoise", "(I)I"⟩
abbrev cX11_setGear : ByteArray := prog_1_method_4_code
def yX11_setGear : MethodName := ⟨RX11, "setGear", "(II)I"⟩
abbrev cX11_setMesh : ByteArray := prog_1_method_5_code
def yX11_setMesh : MethodName := ⟨RX11, "setMesh", "(II)I"⟩
abbrev cX11_clearWheel : ByteArray := prog_1_method_6_code
def yX11_clearWheel : MethodName := ⟨RX11, "clearWheel", "(I)I"⟩
abbrev cX11_releaseNoise : ByteArray := prog_1_method_7_code
def yX11_releaseNoise : MethodName := ⟨RX11, "releaseNoise", "(I)I"⟩
abbrev cX11_shipSacks : ByteArray := prog_1_method_8_code
def yX11_shipSacks : MethodName := ⟨RX11, "shipSacks", "(II)I"⟩
abbrev cX11_advance : ByteArray := prog_1_method_9_code
def yX11_advance : MethodName := ⟨RX11, "advance", "(I)I"⟩
abbrev cX11_time : ByteArray := prog_1_method_10_code
def yX11_time : MethodName := ⟨RX11, "time", "()I"⟩
abbrev cX11_waitingCount : ByteArray := prog_1_method_11_code
def yX11_waitingCount : MethodName := ⟨RX11, "waitingCount", "()I"⟩
abbrev cX11_waitingAt : ByteArray := prog_1_method_12_code
def yX11_waitingAt : MethodName := ⟨RX11, "waitingAt", "(I)I"⟩
abbrev cX11_rankOf : ByteArray := prog_1_method_13_code
def yX11_rankOf : MethodName := ⟨RX11, "rankOf", "(I)I"⟩
abbrev cX11_exists : ByteArray := prog_1_method_14_code
def yX11_exists : MethodName := ⟨RX11, "exists", "(I)Z"⟩
abbrev cX11_band : ByteArray := prog_1_method_15_code
def yX11_band : MethodName := ⟨RX11, "band", "(I)I"⟩
abbrev cX11_loudness : ByteArray := prog_1_method_16_code
def yX11_loudness : MethodName := ⟨RX11, "loudness", "(I)I"⟩
abbrev cX11_amount : ByteArray := prog_1_method_17_code
def yX11_amount : MethodName := ⟨RX11, "amount", "(I)I"⟩
abbrev cX11_isWaiting : ByteArray := prog_1_method_18_code
def yX11_isWaiting : MethodName := ⟨RX11, "isWaiting", "(I)Z"⟩
abbrev cX11_wheelOf : ByteArray := prog_1_method_19_code
def yX11_wheelOf : MethodName := ⟨RX11, "wheelOf", "(I)I"⟩
abbrev cX11_noiseOn : ByteArray := prog_1_method_20_code
def yX11_noiseOn : MethodName := ⟨RX11, "noiseOn", "(I)I"⟩
abbrev cX11_gear : ByteArray := prog_1_method_21_code
def yX11_gear : MethodName := ⟨RX11, "gear", "(I)I"⟩
abbrev cX11_wear : ByteArray := prog_1_method_22_code
def yX11_wear : MethodName := ⟨RX11, "wear", "(I)I"⟩
abbrev cX11_isJammed : ByteArray := prog_1_method_23_code
def yX11_isJammed : MethodName := ⟨RX11, "isJammed", "(I)Z"⟩
abbrev cX11_mesh : ByteArray := prog_1_method_24_code
def yX11_mesh : MethodName := ⟨RX11, "mesh", "(I)I"⟩
abbrev cX11_isBandGround : ByteArray := prog_1_method_25_code
def yX11_isBandGround : MethodName := ⟨RX11, "isBandGround", "(I)Z"⟩
abbrev cX11_groundBands : ByteArray := prog_1_method_26_code
def yX11_groundBands : MethodName := ⟨RX11, "groundBands", "()I"⟩
abbrev cX11_flour : ByteArray := prog_1_method_27_code
def yX11_flour : MethodName := ⟨RX11, "flour", "(I)I"⟩
abbrev cX11_flourByRecords : ByteArray := prog_1_method_28_code
def yX11_flourByRecords : MethodName := ⟨RX11, "flourByRecords", "(I)I"⟩
abbrev cX11_fullSacks : ByteArray := prog_1_method_29_code
def yX11_fullSacks : MethodName := ⟨RX11, "fullSacks", "(I)I"⟩
abbrev cX11_openSack : ByteArray := prog_1_method_30_code
def yX11_openSack : MethodName := ⟨RX11, "openSack", "(I)I"⟩
abbrev cX11_shippedSacks : ByteArray := prog_1_method_31_code
def yX11_shippedSacks : MethodName := ⟨RX11, "shippedSacks", "(I)I"⟩
abbrev cX11_recorded : ByteArray := prog_1_method_32_code
def yX11_recorded : MethodName := ⟨RX11, "recorded", "(II)I"⟩
abbrev cX11_groundTotal : ByteArray := prog_1_method_33_code
def yX11_groundTotal : MethodName := ⟨RX11, "groundTotal", "()I"⟩
abbrev cX11_groundByParts : ByteArray := prog_1_method_34_code
def yX11_groundByParts : MethodName := ⟨RX11, "groundByParts", "()I"⟩
abbrev cX11_lostInSieves : ByteArray := prog_1_method_35_code
def yX11_lostInSieves : MethodName := ⟨RX11, "lostInSieves", "()I"⟩
abbrev cX11_lostForRoom : ByteArray := prog_1_method_36_code
def yX11_lostForRoom : MethodName := ⟨RX11, "lostForRoom", "()I"⟩
abbrev cX11_stepsUntilDone : ByteArray := prog_1_method_37_code
def yX11_stepsUntilDone : MethodName := ⟨RX11, "stepsUntilDone", "(I)I"⟩
abbrev cX11_stepsUntilDoneByRate : ByteArray := prog_1_method_38_code
def yX11_stepsUntilDoneByRate : MethodName := ⟨RX11, "stepsUntilDoneByRate", "(I)I"⟩
abbrev cX11_stepsUntilJam : ByteArray := prog_1_method_39_code
def yX11_stepsUntilJam : MethodName := ⟨RX11, "stepsUntilJam", "(I)I"⟩
abbrev cX11_groundWithin : ByteArray := prog_1_method_40_code
def yX11_groundWithin : MethodName := ⟨RX11, "groundWithin", "(I)I"⟩
abbrev cX11_doneCount : ByteArray := prog_1_method_41_code
def yX11_doneCount : MethodName := ⟨RX11, "doneCount", "()I"⟩
abbrev cX11_doneNumber : ByteArray := prog_1_method_42_code
def yX11_doneNumber : MethodName := ⟨RX11, "doneNumber", "(I)I"⟩
abbrev cX11_doneWheel : ByteArray := prog_1_method_43_code
def yX11_doneWheel : MethodName := ⟨RX11, "doneWheel", "(I)I"⟩
abbrev cX11_doneTime : ByteArray := prog_1_method_44_code
def yX11_doneTime : MethodName := ⟨RX11, "doneTime", "(I)I"⟩
abbrev cX11_wheelByWear : ByteArray := prog_1_method_45_code
def yX11_wheelByWear : MethodName := ⟨RX11, "wheelByWear", "(I)I"⟩
abbrev cX11_bandByGrains : ByteArray := prog_1_method_46_code
def yX11_bandByGrains : MethodName := ⟨RX11, "bandByGrains", "(I)I"⟩
abbrev cX11_meanLoudness : ByteArray := prog_1_method_47_code
def yX11_meanLoudness : MethodName := ⟨RX11, "meanLoudness", "()D"⟩
abbrev cX11_lostShare : ByteArray := prog_1_method_48_code
def yX11_lostShare : MethodName := ⟨RX11, "lostShare", "()F"⟩
abbrev cX11_isConsistent : ByteArray := prog_1_method_49_code
def yX11_isConsistent : MethodName := ⟨RX11, "isConsistent", "()Z"⟩
abbrev cX11_renderWheel : ByteArray := prog_1_method_50_code
def yX11_renderWheel : MethodName := ⟨RX11, "renderWheel", "(I)I"⟩
abbrev cX11_renderSacks : ByteArray := prog_1_method_51_code
def yX11_renderSacks : MethodName := ⟨RX11, "renderSacks", "()I"⟩
abbrev cX11_outputAt : ByteArray := prog_1_method_52_code
def yX11_outputAt : MethodName := ⟨RX11, "outputAt", "(I)C"⟩
abbrev cX11_type : ByteArray := prog_1_method_53_code
def yX11_type : MethodName := ⟨RX11, "type", "(C)I"⟩
abbrev cX11_runScript : ByteArray := prog_1_method_54_code
def yX11_runScript : MethodName := ⟨RX11, "runScript", "()I"⟩
abbrev cX11_errorPosition : ByteArray := prog_1_method_55_code
def yX11_errorPosition : MethodName := ⟨RX11, "errorPosition", "()I"⟩
abbrev cX11_failedCommand : ByteArray := prog_1_method_56_code
def yX11_failedCommand : MethodName := ⟨RX11, "failedCommand", "()I"⟩
abbrev cX11_undo : ByteArray := prog_1_method_57_code
def yX11_undo : MethodName := ⟨RX11, "undo", "()I"⟩
abbrev cX11_save : ByteArray := prog_1_method_58_code
def yX11_save : MethodName := ⟨RX11, "save", "()I"⟩
abbrev cX11_restore : ByteArray := prog_1_method_59_code
def yX11_restore : MethodName := ⟨RX11, "restore", "()I"⟩
abbrev cX11_refuse : ByteArray := prog_1_method_60_code
def yX11_refuse : MethodName := ⟨RX11, "refuse", "(LNoiseMill$Fault;)V"⟩
abbrev cX11_requireWheel : ByteArray := prog_1_method_61_code
def yX11_requireWheel : MethodName := ⟨RX11, "requireWheel", "(I)V"⟩
abbrev cX11_requireBand : ByteArray := prog_1_method_62_code
def yX11_requireBand : MethodName := ⟨RX11, "requireBand", "(I)V"⟩
abbrev cX11_requireGrade : ByteArray := prog_1_method_63_code
def yX11_requireGrade : MethodName := ⟨RX11, "requireGrade", "(I)V"⟩
abbrev cX11_requireNoise : ByteArray := prog_1_method_64_code
def yX11_requireNoise : MethodName := ⟨RX11, "requireNoise", "(I)I"⟩
abbrev cX11_requireEntry : ByteArray := prog_1_method_65_code
def yX11_requireEntry : MethodName := ⟨RX11, "requireEntry", "(I)I"⟩
abbrev cX11_requireSteps : ByteArray := prog_1_method_66_code
def yX11_requireSteps : MethodName := ⟨RX11, "requireSteps", "(I)I"⟩
abbrev cX11_slotAtRank : ByteArray := prog_1_method_67_code
def yX11_slotAtRank : MethodName := ⟨RX11, "slotAtRank", "(I)I"⟩
abbrev cX11_simulateDone : ByteArray := prog_1_method_68_code
def yX11_simulateDone : MethodName := ⟨RX11, "simulateDone", "(I)I"⟩
abbrev cX11_simulateJam : ByteArray := prog_1_method_69_code
def yX11_simulateJam : MethodName := ⟨RX11, "simulateJam", "(I)I"⟩
abbrev cX11_flourAgrees : ByteArray := prog_1_method_70_code
def yX11_flourAgrees : MethodName := ⟨RX11, "flourAgrees", "()Z"⟩
abbrev cX11_predictionsAgree : ByteArray := prog_1_method_71_code
def yX11_predictionsAgree : MethodName := ⟨RX11, "predictionsAgree", "()Z"⟩
abbrev cX11_ranksAgree : ByteArray := prog_1_method_72_code
def yX11_ranksAgree : MethodName := ⟨RX11, "ranksAgree", "()Z"⟩
abbrev cX11_tryCommands : ByteArray := prog_1_method_73_code
def yX11_tryCommands : MethodName := ⟨RX11, "tryCommands", "()I"⟩
abbrev cX11_faultOfCommand : ByteArray := prog_1_method_74_code
def yX11_faultOfCommand : MethodName := ⟨RX11, "faultOfCommand", "(LNoiseMill$Mill;LNoiseMill$Command;)LNoiseMill$Fault;"⟩
abbrev cX11_perform : ByteArray := prog_1_method_75_code
def yX11_perform : MethodName := ⟨RX11, "perform", "(LNoiseMill$Mill;LNoiseMill$Command;)I"⟩
def RX12 : String := "NoiseMillModel"
def TX12 : u_T := fun k => match k with
  | 0 => ("NoiseMillModel", "g", "[I", true)
  | 1 => ("NoiseMillModel", "before", "[I", true)
  | 2 => ("NoiseMillModel", "ahead", "[I", true)
  | 3 => ("NoiseMillModel", "history", "[I", true)
  | 4 => ("NoiseMillModel", "changes", "I", false)
  | 5 => ("NoiseMillModel", "savedState", "[I", true)
  | 6 => ("NoiseMillModel", "hasSaved", "Z", false)
  | 7 => ("NoiseMillModel", "buffer", "[C", true)
  | 8 => ("NoiseMillModel", "typed", "I", false)
  | 9 => ("NoiseMillModel", "errorAt", "I", false)
  | 10 => ("NoiseMillModel", "failedAt", "I", false)
  | 11 => ("NoiseMillModel", "letters", "[C", true)
  | 12 => ("NoiseMillModel", "outputLength", "I", false)
  | 13 => ("NoiseMillModel", "thrown", "I", false)
  | 14 => ("NoiseMillModel", "spot", "I", false)
  | 15 => ("NoiseMillModel", "isWrong", "Z", false)
  | _ => ("NoiseMillModel", "parsed", "[I", true)
def tyX12 : Nat → FieldType := fun k => match k with
  | 0 => .array .int
  | 1 => .array .int
  | 2 => .array .int
  | 3 => .array .int
  | 4 => .int
  | 5 => .array .int
  | 6 => .boolean
  | 7 => .array .char
  | 8 => .int
  | 9 => .int
  | 10 => .int
  | 11 => .array .char
  | 12 => .int
  | 13 => .int
  | 14 => .int
  | 15 => .boolean
  | _ => .array .int
abbrev wsX120 : List Cond := u_ws RX12 TX12 17
theorem nmX12 : ∀ a, a < 17 → ∀ b, b < 17 → a ≠ b → (TX12 a).2.1 ≠ (TX12 b).2.1 := by decide +kernel
theorem tyX12_ok : ∀ k, k < 17 → parseFieldDescriptor (TX12 k).2.2.1 = some (tyX12 k) := by decide +kernel
abbrev cX12_init : ByteArray := prog_14_method_1_code
def yX12_init : MethodName := ⟨RX12, "<init>", "()V"⟩
abbrev cX12_thrown : ByteArray := prog_14_method_2_code
def yX12_thrown : MethodName := ⟨RX12, "thrown", "()I"⟩
abbrev cX12_in : ByteArray := prog_14_method_3_code
def yX12_in : MethodName := ⟨RX12, "in", "(III)Z"⟩
abbrev cX12_done : ByteArray := prog_14_method_4_code
def yX12_done : MethodName := ⟨RX12, "done", "(I)I"⟩
abbrev cX12_fails : ByteArray := prog_14_method_5_code
def yX12_fails : MethodName := ⟨RX12, "fails", "(I)I"⟩
abbrev cX12_copy : ByteArray := prog_14_method_6_code
def yX12_copy : MethodName := ⟨RX12, "copy", "([II[II)V"⟩
abbrev cX12_begin : ByteArray := prog_14_method_7_code
def yX12_begin : MethodName := ⟨RX12, "begin", "()V"⟩
abbrev cX12_kept : ByteArray := prog_14_method_8_code
def yX12_kept : MethodName := ⟨RX12, "kept", "(I)I"⟩
abbrev cX12_isWheel : ByteArray := prog_14_method_9_code
def yX12_isWheel : MethodName := ⟨RX12, "isWheel", "(I)Z"⟩
abbrev cX12_isBand : ByteArray := prog_14_method_10_code
def yX12_isBand : MethodName := ⟨RX12, "isBand", "(I)Z"⟩
abbrev cX12_isGrade : ByteArray := prog_14_method_11_code
def yX12_isGrade : MethodName := ⟨RX12, "isGrade", "(I)Z"⟩
abbrev cX12_placeOf : ByteArray := prog_14_method_12_code
def yX12_placeOf : MethodName := ⟨RX12, "placeOf", "(I)I"⟩
abbrev cX12_holder : ByteArray := prog_14_method_13_code
def yX12_holder : MethodName := ⟨RX12, "holder", "(I)I"⟩
abbrev cX12_waits : ByteArray := prog_14_method_14_code
def yX12_waits : MethodName := ⟨RX12, "waits", "(I)Z"⟩
abbrev cX12_waiting : ByteArray := prog_14_method_15_code
def yX12_waiting : MethodName := ⟨RX12, "waiting", "()I"⟩
abbrev cX12_isBefore : ByteArray := prog_14_method_16_code
def yX12_isBefore : MethodName := ⟨RX12, "isBefore", "(II)Z"⟩
abbrev cX12_rank : ByteArray := prog_14_method_17_code
def yX12_rank : MethodName := ⟨RX12, "rank", "(I)I"⟩
abbrev cX12_ranked : ByteArray := prog_14_method_18_code
def yX12_ranked : MethodName := ⟨RX12, "ranked", "(I)I"⟩
abbrev cX12_adds : ByteArray := prog_14_method_19_code
def yX12_adds : MethodName := ⟨RX12, "adds", "(III)I"⟩
abbrev cX12_addNoise : ByteArray := prog_14_method_20_code
def yX12_addNoise : MethodName := ⟨RX12, "addNoise", "(III)I"⟩
abbrev cX12_drops : ByteArray := prog_14_method_21_code
def yX12_drops : MethodName := ⟨RX12, "drops", "(I)V"⟩
abbrev cX12_removes : ByteArray := prog_14_method_22_code
def yX12_removes : MethodName := ⟨RX12, "removes", "(I)I"⟩
abbrev cX12_removeNoise : ByteArray := prog_14_method_23_code
def yX12_removeNoise : MethodName := ⟨RX12, "removeNoise", "(I)I"⟩
abbrev cX12_gears : ByteArray := prog_14_method_24_code
def yX12_gears : MethodName := ⟨RX12, "gears", "(II)I"⟩
abbrev cX12_setGear : ByteArray := prog_14_method_25_code
def yX12_setGear : MethodName := ⟨RX12, "setGear", "(II)I"⟩
abbrev cX12_meshes : ByteArray := prog_14_method_26_code
def yX12_meshes : MethodName := ⟨RX12, "meshes", "(II)I"⟩
abbrev cX12_setMesh : ByteArray := prog_14_method_27_code
def yX12_setMesh : MethodName := ⟨RX12, "setMesh", "(II)I"⟩
abbrev cX12_clears : ByteArray := prog_14_method_28_code
def yX12_clears : MethodName := ⟨RX12, "clears", "(I)I"⟩
abbrev cX12_clearWheel : ByteArray := prog_14_method_29_code
def yX12_clearWheel : MethodName := ⟨RX12, "clearWheel", "(I)I"⟩
abbrev cX12_releases : ByteArray := prog_14_method_30_code
def yX12_releases : MethodName := ⟨RX12, "releases", "(I)I"⟩
abbrev cX12_releaseNoise : ByteArray := prog_14_method_31_code
def yX12_releaseNoise : MethodName := ⟨RX12, "releaseNoise", "(I)I"⟩
abbrev cX12_ships : ByteArray := prog_14_method_32_code
def yX12_ships : MethodName := ⟨RX12, "ships", "(II)I"⟩
abbrev cX12_shipSacks : ByteArray := prog_14_method_33_code
def yX12_shipSacks : MethodName := ⟨RX12, "shipSacks", "(II)I"⟩
abbrev cX12_sacks : ByteArray := prog_14_method_34_code
def yX12_sacks : MethodName := ⟨RX12, "sacks", "(II)V"⟩
abbrev cX12_finishes : ByteArray := prog_14_method_35_code
def yX12_finishes : MethodName := ⟨RX12, "finishes", "(II)V"⟩
abbrev cX12_grinds : ByteArray := prog_14_method_36_code
def yX12_grinds : MethodName := ⟨RX12, "grinds", "(I)V"⟩
abbrev cX12_acts : ByteArray := prog_14_method_37_code
def yX12_acts : MethodName := ⟨RX12, "acts", "(I)V"⟩
abbrev cX12_step : ByteArray := prog_14_method_38_code
def yX12_step : MethodName := ⟨RX12, "step", "()V"⟩
abbrev cX12_advances : ByteArray := prog_14_method_39_code
def yX12_advances : MethodName := ⟨RX12, "advances", "(I)I"⟩
abbrev cX12_advance : ByteArray := prog_14_method_40_code
def yX12_advance : MethodName := ⟨RX12, "advance", "(I)I"⟩
abbrev cX12_time : ByteArray := prog_14_method_41_code
def yX12_time : MethodName := ⟨RX12, "time", "()I"⟩
abbrev cX12_waitingCount : ByteArray := prog_14_method_42_code
def yX12_waitingCount : MethodName := ⟨RX12, "waitingCount", "()I"⟩
abbrev cX12_waitingAt : ByteArray := prog_14_method_43_code
def yX12_waitingAt : MethodName := ⟨RX12, "waitingAt", "(I)I"⟩
abbrev cX12_rankOf : ByteArray := prog_14_method_44_code
def yX12_rankOf : MethodName := ⟨RX12, "rankOf", "(I)I"⟩
abbrev cX12_exists : ByteArray := prog_14_method_45_code
def yX12_exists : MethodName := ⟨RX12, "exists", "(I)Z"⟩
abbrev cX12_noiseNumber : ByteArray := prog_14_method_46_code
def yX12_noiseNumber : MethodName := ⟨RX12, "noiseNumber", "(II)I"⟩
abbrev cX12_band : ByteArray := prog_14_method_47_code
def yX12_band : MethodName := ⟨RX12, "band", "(I)I"⟩
abbrev cX12_loudness : ByteArray := prog_14_method_48_code
def yX12_loudness : MethodName := ⟨RX12, "loudness", "(I)I"⟩
abbrev cX12_amount : ByteArray := prog_14_method_49_code
def yX12_amount : MethodName := ⟨RX12, "amount", "(I)I"⟩
abbrev cX12_isWaiting : ByteArray := prog_14_method_50_code
def yX12_isWaiting : MethodName := ⟨RX12, "isWaiting", "(I)Z"⟩
abbrev cX12_wheelOf : ByteArray := prog_14_method_51_code
def yX12_wheelOf : MethodName := ⟨RX12, "wheelOf", "(I)I"⟩
abbrev cX12_noiseOn : ByteArray := prog_14_method_52_code
def yX12_noiseOn : MethodName := ⟨RX12, "noiseOn", "(I)I"⟩
abbrev cX12_wheelNumber : ByteArray := prog_14_method_53_code
def yX12_wheelNumber : MethodName := ⟨RX12, "wheelNumber", "(II)I"⟩
abbrev cX12_gear : ByteArray := prog_14_method_54_code
def yX12_gear : MethodName := ⟨RX12, "gear", "(I)I"⟩
abbrev cX12_wear : ByteArray := prog_14_method_55_code
def yX12_wear : MethodName := ⟨RX12, "wear", "(I)I"⟩
abbrev cX12_isJammed : ByteArray := prog_14_method_56_code
def yX12_isJammed : MethodName := ⟨RX12, "isJammed", "(I)Z"⟩
abbrev cX12_bandNumber : ByteArray := prog_14_method_57_code
def yX12_bandNumber : MethodName := ⟨RX12, "bandNumber", "(II)I"⟩
abbrev cX12_mesh : ByteArray := prog_14_method_58_code
def yX12_mesh : MethodName := ⟨RX12, "mesh", "(I)I"⟩
abbrev cX12_isBandGround : ByteArray := prog_14_method_59_code
def yX12_isBandGround : MethodName := ⟨RX12, "isBandGround", "(I)Z"⟩
abbrev cX12_groundBands : ByteArray := prog_14_method_60_code
def yX12_groundBands : MethodName := ⟨RX12, "groundBands", "()I"⟩
abbrev cX12_flour : ByteArray := prog_14_method_61_code
def yX12_flour : MethodName := ⟨RX12, "flour", "(I)I"⟩
abbrev cX12_flourByRecords : ByteArray := prog_14_method_62_code
def yX12_flourByRecords : MethodName := ⟨RX12, "flourByRecords", "(I)I"⟩
abbrev cX12_fullSacks : ByteArray := prog_14_method_63_code
def yX12_fullSacks : MethodName := ⟨RX12, "fullSacks", "(I)I"⟩
abbrev cX12_openSack : ByteArray := prog_14_method_64_code
def yX12_openSack : MethodName := ⟨RX12, "openSack", "(I)I"⟩
abbrev cX12_shippedSacks : ByteArray := prog_14_method_65_code
def yX12_shippedSacks : MethodName := ⟨RX12, "shippedSacks", "(I)I"⟩
abbrev cX12_recorded : ByteArray := prog_14_method_66_code
def yX12_recorded : MethodName := ⟨RX12, "recorded", "(II)I"⟩
abbrev cX12_groundTotal : ByteArray := prog_14_method_67_code
def yX12_groundTotal : MethodName := ⟨RX12, "groundTotal", "()I"⟩
abbrev cX12_groundByParts : ByteArray := prog_14_method_68_code
def yX12_groundByParts : MethodName := ⟨RX12, "groundByParts", "()I"⟩
abbrev cX12_lostInSieves : ByteArray := prog_14_method_69_code
def yX12_lostInSieves : MethodName := ⟨RX12, "lostInSieves", "()I"⟩
abbrev cX12_lostForRoom : ByteArray := prog_14_method_70_code
def yX12_lostForRoom : MethodName := ⟨RX12, "lostForRoom", "()I"⟩
abbrev cX12_stepsFor : ByteArray := prog_14_method_71_code
def yX12_stepsFor : MethodName := ⟨RX12, "stepsFor", "(I)I"⟩
abbrev cX12_stepsUntilDone : ByteArray := prog_14_method_72_code
def yX12_stepsUntilDone : MethodName := ⟨RX12, "stepsUntilDone", "(I)I"⟩
abbrev cX12_stepsUntilDoneByRate : ByteArray := prog_14_method_73_code
def yX12_stepsUntilDoneByRate : MethodName := ⟨RX12, "stepsUntilDoneByRate", "(I)I"⟩
abbrev cX12_stepsUntilJam : ByteArray := prog_14_method_74_code
def yX12_stepsUntilJam : MethodName := ⟨RX12, "stepsUntilJam", "(I)I"⟩
abbrev cX12_groundWithin : ByteArray := prog_14_method_75_code
def yX12_groundWithin : MethodName := ⟨RX12, "groundWithin", "(I)I"⟩
abbrev cX12_doneCount : ByteArray := prog_14_method_76_code
def yX12_doneCount : MethodName := ⟨RX12, "doneCount", "()I"⟩
abbrev cX12_logNumber : ByteArray := prog_14_method_77_code
def yX12_logNumber : MethodName := ⟨RX12, "logNumber", "(II)I"⟩
abbrev cX12_doneNumber : ByteArray := prog_14_method_78_code
def yX12_doneNumber : MethodName := ⟨RX12, "doneNumber", "(I)I"⟩
abbrev cX12_doneWheel : ByteArray := prog_14_method_79_code
def yX12_doneWheel : MethodName := ⟨RX12, "doneWheel", "(I)I"⟩
abbrev cX12_doneTime : ByteArray := prog_14_method_80_code
def yX12_doneTime : MethodName := ⟨RX12, "doneTime", "(I)I"⟩
abbrev cX12_isWheelAhead : ByteArray := prog_14_method_81_code
def yX12_isWheelAhead : MethodName := ⟨RX12, "isWheelAhead", "(II)Z"⟩
abbrev cX12_wheelByWear : ByteArray := prog_14_method_82_code
def yX12_wheelByWear : MethodName := ⟨RX12, "wheelByWear", "(I)I"⟩
abbrev cX12_grainsOf : ByteArray := prog_14_method_83_code
def yX12_grainsOf : MethodName := ⟨RX12, "grainsOf", "(I)I"⟩
abbrev cX12_isBandAhead : ByteArray := prog_14_method_84_code
def yX12_isBandAhead : MethodName := ⟨RX12, "isBandAhead", "(II)Z"⟩
abbrev cX12_bandByGrains : ByteArray := prog_14_method_85_code
def yX12_bandByGrains : MethodName := ⟨RX12, "bandByGrains", "(I)I"⟩
abbrev cX12_meanLoudness : ByteArray := prog_14_method_86_code
def yX12_meanLoudness : MethodName := ⟨RX12, "meanLoudness", "()D"⟩
abbrev cX12_lostShare : ByteArray := prog_14_method_87_code
def yX12_lostShare : MethodName := ⟨RX12, "lostShare", "()F"⟩
abbrev cX12_isConsistent : ByteArray := prog_14_method_88_code
def yX12_isConsistent : MethodName := ⟨RX12, "isConsistent", "()Z"⟩
abbrev cX12_writes : ByteArray := prog_14_method_89_code
def yX12_writes : MethodName := ⟨RX12, "writes", "(I)V"⟩
abbrev cX12_writesNumber : ByteArray := prog_14_method_90_code
def yX12_writesNumber : MethodName := ⟨RX12, "writesNumber", "(I)V"⟩
abbrev cX12_renderWheel : ByteArray := prog_14_method_91_code
def yX12_renderWheel : MethodName := ⟨RX12, "renderWheel", "(I)I"⟩
abbrev cX12_renderSacks : ByteArray := prog_14_method_92_code
def yX12_renderSacks : MethodName := ⟨RX12, "renderSacks", "()I"⟩
abbrev cX12_outputAt : ByteArray := prog_14_method_93_code
def yX12_outputAt : MethodName := ⟨RX12, "outputAt", "(I)C"⟩
abbrev cX12_type : ByteArray := prog_14_method_94_code
def yX12_type : MethodName := ⟨RX12, "type", "(C)I"⟩
abbrev cX12_here : ByteArray := prog_14_method_95_code
def yX12_here : MethodName := ⟨RX12, "here", "()I"⟩
abbrev cX12_needs : ByteArray := prog_14_method_96_code
def yX12_needs : MethodName := ⟨RX12, "needs", "(I)V"⟩
abbrev cX12_needsThree : ByteArray := prog_14_method_97_code
def yX12_needsThree : MethodName := ⟨RX12, "needsThree", "(III)V"⟩
abbrev cX12_digits : ByteArray := prog_14_method_98_code
def yX12_digits : MethodName := ⟨RX12, "digits", "(I)I"⟩
abbrev cX12_parsesS : ByteArray := prog_14_method_99_code
def yX12_parsesS : MethodName := ⟨RX12, "parsesS", "(I)V"⟩
abbrev cX12_parsesCommand : ByteArray := prog_14_method_100_code
def yX12_parsesCommand : MethodName := ⟨RX12, "parsesCommand", "(I)V"⟩
abbrev cX12_carriesOut : ByteArray := prog_14_method_101_code
def yX12_carriesOut : MethodName := ⟨RX12, "carriesOut", "(I)I"⟩
abbrev cX12_runScript : ByteArray := prog_14_method_102_code
def yX12_runScript : MethodName := ⟨RX12, "runScript", "()I"⟩
abbrev cX12_errorPosition : ByteArray := prog_14_method_103_code
def yX12_errorPosition : MethodName := ⟨RX12, "errorPosition", "()I"⟩
abbrev cX12_failedCommand : ByteArray := prog_14_method_104_code
def yX12_failedCommand : MethodName := ⟨RX12, "failedCommand", "()I"⟩
abbrev cX12_undo : ByteArray := prog_14_method_105_code
def yX12_undo : MethodName := ⟨RX12, "undo", "()I"⟩
abbrev cX12_save : ByteArray := prog_14_method_106_code
def yX12_save : MethodName := ⟨RX12, "save", "()I"⟩
abbrev cX12_restore : ByteArray := prog_14_method_107_code
def yX12_restore : MethodName := ⟨RX12, "restore", "()I"⟩
def RJx145de : String := "java/io/Serializable"
def TJx145de : u_T := fun k => match k with
  | _ => ("", "", "", false)
def tyJx145de : Nat → FieldType := fun k => match k with
  | _ => .int
abbrev wsJx145de0 : List Cond := u_ws RJx145de TJx145de 0
theorem nmJx145de : ∀ a, a < 0 → ∀ b, b < 0 → a ≠ b → (TJx145de a).2.1 ≠ (TJx145de b).2.1 := by decide +kernel
theorem tyJx145de_ok : ∀ k, k < 0 → parseFieldDescriptor (TJx145de k).2.2.1 = some (tyJx145de k) := by decide +kernel
def RJ5 : String := "java/lang/AbstractStringBuilder"
def TJ5 : u_T := fun k => match k with
  | _ => ("", "", "", false)
def tyJ5 : Nat → FieldType := fun k => match k with
  | _ => .int
abbrev wsJ50 : List Cond := u_ws RJ5 TJ5 0
theorem nmJ5 : ∀ a, a < 0 → ∀ b, b < 0 → a ≠ b → (TJ5 a).2.1 ≠ (TJ5 b).2.1 := by decide +kernel
theorem tyJ5_ok : ∀ k, k < 0 → parseFieldDescriptor (TJ5 k).2.2.1 = some (tyJ5 k) := by decide +kernel
abbrev cJ5_init_d00df : ByteArray := prog_16_method_2_code
def yJ5_init_d00df : MethodName := ⟨RJ5, "<init>", "(I)V"⟩
abbrev cJ5_length_8abf5 : ByteArray := prog_16_method_6_code
def yJ5_length_8abf5 : MethodName := ⟨RJ5, "length", "()I"⟩
abbrev cJ5_ensureCapacityInternal_d00df : ByteArray := prog_16_method_9_code
def yJ5_ensureCapacityInternal_d00df : MethodName := ⟨RJ5, "ensureCapacityInternal", "(I)V"⟩
abbrev cJ5_newCapacity_0f7a4 : ByteArray := prog_16_method_10_code
def yJ5_newCapacity_0f7a4 : MethodName := ⟨RJ5, "newCapacity", "(I)I"⟩
abbrev cJ5_inflate_da8c8 : ByteArray := prog_16_method_11_code
def yJ5_inflate_da8c8 : MethodName := ⟨RJ5, "inflate", "()V"⟩
abbrev cJ5_setLength_d00df : ByteArray := prog_16_method_13_code
def yJ5_setLength_d00df : MethodName := ⟨RJ5, "setLength", "(I)V"⟩
abbrev cJ5_charAt_5068e : ByteArray := prog_16_method_14_code
def yJ5_charAt_5068e : MethodName := ⟨RJ5, "charAt", "(I)C"⟩
abbrev cJ5_append_cf1ce : ByteArray := prog_16_method_22_code
def yJ5_append_cf1ce : MethodName := ⟨RJ5, "append", "(Ljava/lang/String;)Ljava/lang/AbstractStringBuilder;"⟩
abbrev cJ5_appendNull_278bc : ByteArray := prog_16_method_26_code
def yJ5_appendNull_278bc : MethodName := ⟨RJ5, "appendNull", "()Ljava/lang/AbstractStringBuilder;"⟩
abbrev cJ5_append_3fe6f : ByteArray := prog_16_method_31_code
def yJ5_append_3fe6f : MethodName := ⟨RJ5, "append", "(C)Ljava/lang/AbstractStringBuilder;"⟩
abbrev cJ5_append_c97b9 : ByteArray := prog_16_method_32_code
def yJ5_append_c97b9 : MethodName := ⟨RJ5, "append", "(I)Ljava/lang/AbstractStringBuilder;"⟩
abbrev cJ5_getValue_6d5f1 : ByteArray := prog_16_method_64_code
def yJ5_getValue_6d5f1 : MethodName := ⟨RJ5, "getValue", "()[B"⟩
abbrev cJ5_isLatin1_aae02 : ByteArray := prog_16_method_68_code
def yJ5_isLatin1_aae02 : MethodName := ⟨RJ5, "isLatin1", "()Z"⟩
abbrev cJ5_inflateIfNeededFor_a7421 : ByteArray := prog_16_method_71_code
def yJ5_inflateIfNeededFor_a7421 : MethodName := ⟨RJ5, "inflateIfNeededFor", "(Ljava/lang/String;)V"⟩
abbrev cJ5_putStringAt_47b60 : ByteArray := prog_16_method_73_code
def yJ5_putStringAt_47b60 : MethodName := ⟨RJ5, "putStringAt", "(ILjava/lang/String;)V"⟩
def RJx2cfe8 : String := "java/lang/Appendable"
def TJx2cfe8 : u_T := fun k => match k with
  | _ => ("", "", "", false)
def tyJx2cfe8 : Nat → FieldType := fun k => match k with
  | _ => .int
abbrev wsJx2cfe80 : List Cond := u_ws RJx2cfe8 TJx2cfe8 0
theorem nmJx2cfe8 : ∀ a, a < 0 → ∀ b, b < 0 → a ≠ b → (TJx2cfe8 a).2.1 ≠ (TJx2cfe8 b).2.1 := by decide +kernel
theorem tyJx2cfe8_ok : ∀ k, k < 0 → parseFieldDescriptor (TJx2cfe8 k).2.2.1 = some (tyJx2cfe8 k) := by decide +kernel
def RJx00060 : String := "java/lang/ArrayIndexOutOfBoundsException"
def TJx00060 : u_T := fun k => match k with
  | 0 => ("java/lang/Throwable", "cause", "Ljava/lang/Throwable;", false)
  | 1 => ("java/lang/Throwable", "stackTrace", "[Ljava/lang/StackTraceElement;", false)
  | 2 => ("java/lang/Throwable", "suppressedExceptions", "Ljava/util/List;", false)
  | 3 => ("java/lang/Throwable", "detailMessage", "Ljava/lang/String;", false)
  | 4 => ("java/lang/Throwable", "backtrace", "Ljava/lang/Object;", false)
  | _ => ("java/lang/Throwable", "depth", "I", false)
def tyJx00060 : Nat → FieldType := fun k => match k with
  | 0 => .object "java/lang/Throwable"
  | 1 => .array (.object "java/lang/StackTraceElement")
  | 2 => .object "java/util/List"
  | 3 => .object "java/lang/String"
  | 4 => .object "java/lang/Object"
  | _ => .int
abbrev wsJx000600 : List Cond := u_ws RJx00060 TJx00060 6
theorem nmJx00060 : ∀ a, a < 6 → ∀ b, b < 6 → a ≠ b → (TJx00060 a).2.1 ≠ (TJx00060 b).2.1 := by decide +kernel
theorem tyJx00060_ok : ∀ k, k < 6 → parseFieldDescriptor (TJx00060 k).2.2.1 = some (tyJx00060 k) := by decide +kernel
abbrev cJx00060_init_a7421 : ByteArray := prog_19_method_2_code
def yJx00060_init_a7421 : MethodName := ⟨RJx00060, "<init>", "(Ljava/lang/String;)V"⟩
abbrev cJx00060_init_d00df : ByteArray := prog_19_method_3_code
def yJx00060_init_d00df : MethodName := ⟨RJx00060, "<init>", "(I)V"⟩
def RJx9f9b0 : String := "java/lang/CharSequence"
def TJx9f9b0 : u_T := fun k => match k with
  | _ => ("", "", "", false)
def tyJx9f9b0 : Nat → FieldType := fun k => match k with
  | _ => .int
abbrev wsJx9f9b00 : List Cond := u_ws RJx9f9b0 TJx9f9b0 0
theorem nmJx9f9b0 : ∀ a, a < 0 → ∀ b, b < 0 → a ≠ b → (TJx9f9b0 a).2.1 ≠ (TJx9f9b0 b).2.1 := by decide +kernel
theorem tyJx9f9b0_ok : ∀ k, k < 0 → parseFieldDescriptor (TJx9f9b0 k).2.2.1 = some (tyJx9f9b0 k) := by decide +kernel
def RJx8e188 : String := "java/lang/Cloneable"
def TJx8e188 : u_T := fun k => match k with
  | _ => ("", "", "", false)
def tyJx8e188 : Nat → FieldType := fun k => match k with
  | _ => .int
abbrev wsJx8e1880 : List Cond := u_ws RJx8e188 TJx8e188 0
theorem nmJx8e188 : ∀ a, a < 0 → ∀ b, b < 0 → a ≠ b → (TJx8e188 a).2.1 ≠ (TJx8e188 b).2.1 := by decide +kernel
theorem tyJx8e188_ok : ∀ k, k < 0 → parseFieldDescriptor (TJx8e188 k).2.2.1 = some (tyJx8e188 k) := by decide +kernel
def RJxb160c : String := "java/lang/Comparable"
def TJxb160c : u_T := fun k => match k with
  | _ => ("", "", "", false)
def tyJxb160c : Nat → FieldType := fun k => match k with
  | _ => .int
abbrev wsJxb160c0 : List Cond := u_ws RJxb160c TJxb160c 0
theorem nmJxb160c : ∀ a, a < 0 → ∀ b, b < 0 → a ≠ b → (TJxb160c a).2.1 ≠ (TJxb160c b).2.1 := by decide +kernel
theorem tyJxb160c_ok : ∀ k, k < 0 → parseFieldDescriptor (TJxb160c k).2.2.1 = some (tyJxb160c k) := by decide +kernel
def RJx29ce0 : String := "java/lang/Enum"
def TJx29ce0 : u_T := fun k => match k with
  | _ => ("", "", "", false)
def tyJx29ce0 : Nat → FieldType := fun k => match k with
  | _ => .int
abbrev wsJx29ce00 : List Cond := u_ws RJx29ce0 TJx29ce0 0
theorem nmJx29ce0 : ∀ a, a < 0 → ∀ b, b < 0 → a ≠ b → (TJx29ce0 a).2.1 ≠ (TJx29ce0 b).2.1 := by decide +kernel
theorem tyJx29ce0_ok : ∀ k, k < 0 → parseFieldDescriptor (TJx29ce0 k).2.2.1 = some (tyJx29ce0 k) := by decide +kernel
abbrev cJx29ce0_ordinal_8abf5 : ByteArray := prog_23_method_2_code
def yJx29ce0_ordinal_8abf5 : MethodName := ⟨RJx29ce0, "ordinal", "()I"⟩
def RJ6 : String := "java/lang/Integer"
def TJ6 : u_T := fun k => match k with
  | _ => ("", "", "", false)
def tyJ6 : Nat → FieldType := fun k => match k with
  | _ => .int
abbrev wsJ60 : List Cond := u_ws RJ6 TJ6 0
theorem nmJ6 : ∀ a, a < 0 → ∀ b, b < 0 → a ≠ b → (TJ6 a).2.1 ≠ (TJ6 b).2.1 := by decide +kernel
theorem tyJ6_ok : ∀ k, k < 0 → parseFieldDescriptor (TJ6 k).2.2.1 = some (tyJ6 k) := by decide +kernel
abbrev cJ6_getChars_ba4f3 : ByteArray := prog_28_method_12_code
def yJ6_getChars_ba4f3 : MethodName := ⟨RJ6, "getChars", "(II[B)I"⟩
abbrev cJ6_stringSize_0f7a4 : ByteArray := prog_28_method_13_code
def yJ6_stringSize_0f7a4 : MethodName := ⟨RJ6, "stringSize", "(I)I"⟩
def RJ9 : String := "java/lang/Math"
def TJ9 : u_T := fun k => match k with
  | _ => ("", "", "", false)
def tyJ9 : Nat → FieldType := fun k => match k with
  | _ => .int
abbrev wsJ90 : List Cond := u_ws RJ9 TJ9 0
theorem nmJ9 : ∀ a, a < 0 → ∀ b, b < 0 → a ≠ b → (TJ9 a).2.1 ≠ (TJ9 b).2.1 := by decide +kernel
theorem tyJ9_ok : ∀ k, k < 0 → parseFieldDescriptor (TJ9 k).2.2.1 = some (tyJ9 k) := by decide +kernel
abbrev cJ9_floorMod_7cf53 : ByteArray := prog_29_method_50_code
def yJ9_floorMod_7cf53 : MethodName := ⟨RJ9, "floorMod", "(II)I"⟩
abbrev cJ9_max_7cf53 : ByteArray := prog_29_method_65_code
def yJ9_max_7cf53 : MethodName := ⟨RJ9, "max", "(II)I"⟩
abbrev cJ9_min_7cf53 : ByteArray := prog_29_method_69_code
def yJ9_min_7cf53 : MethodName := ⟨RJ9, "min", "(II)I"⟩
def RJxd2413 : String := "java/lang/Number"
def TJxd2413 : u_T := fun k => match k with
  | _ => ("", "", "", false)
def tyJxd2413 : Nat → FieldType := fun k => match k with
  | _ => .int
abbrev wsJxd24130 : List Cond := u_ws RJxd2413 TJxd2413 0
theorem nmJxd2413 : ∀ a, a < 0 → ∀ b, b < 0 → a ≠ b → (TJxd2413 a).2.1 ≠ (TJxd2413 b).2.1 := by decide +kernel
theorem tyJxd2413_ok : ∀ k, k < 0 → parseFieldDescriptor (TJxd2413 k).2.2.1 = some (tyJxd2413 k) := by decide +kernel
def RJ0 : String := "java/lang/String"
def TJ0 : u_T := fun k => match k with
  | 0 => ("java/lang/String", "value", "[B", true)
  | 1 => ("java/lang/String", "coder", "B", true)
  | 2 => ("java/lang/String", "hash", "I", false)
  | _ => ("java/lang/String", "hashIsZero", "Z", false)
def tyJ0 : Nat → FieldType := fun k => match k with
  | 0 => .array .byte
  | 1 => .byte
  | 2 => .int
  | _ => .boolean
abbrev wsJ00 : List Cond := u_ws RJ0 TJ0 4
theorem nmJ0 : ∀ a, a < 4 → ∀ b, b < 4 → a ≠ b → (TJ0 a).2.1 ≠ (TJ0 b).2.1 := by decide +kernel
theorem tyJ0_ok : ∀ k, k < 4 → parseFieldDescriptor (TJ0 k).2.2.1 = some (tyJ0 k) := by decide +kernel
abbrev cJ0_init_81219 : ByteArray := prog_32_method_53_code
def yJ0_init_81219 : MethodName := ⟨RJ0, "<init>", "(Ljava/lang/StringBuilder;)V"⟩
abbrev cJ0_length_8abf5 : ByteArray := prog_32_method_54_code
def yJ0_length_8abf5 : MethodName := ⟨RJ0, "length", "()I"⟩
abbrev cJ0_charAt_5068e : ByteArray := prog_32_method_56_code
def yJ0_charAt_5068e : MethodName := ⟨RJ0, "charAt", "(I)C"⟩
abbrev cJ0_getBytes_840e7 : ByteArray := prog_32_method_147_code
def yJ0_getBytes_840e7 : MethodName := ⟨RJ0, "getBytes", "([BIB)V"⟩
abbrev cJ0_init_db425 : ByteArray := prog_32_method_150_code
def yJ0_init_db425 : MethodName := ⟨RJ0, "<init>", "(Ljava/lang/AbstractStringBuilder;Ljava/lang/Void;)V"⟩
abbrev cJ0_coder_7d493 : ByteArray := prog_32_method_152_code
def yJ0_coder_7d493 : MethodName := ⟨RJ0, "coder", "()B"⟩
abbrev cJ0_isLatin1_aae02 : ByteArray := prog_32_method_154_code
def yJ0_isLatin1_aae02 : MethodName := ⟨RJ0, "isLatin1", "()Z"⟩
abbrev cJ0_checkIndex_df160 : ByteArray := prog_32_method_155_code
def yJ0_checkIndex_df160 : MethodName := ⟨RJ0, "checkIndex", "(II)V"⟩
abbrev cJ0_checkBoundsOffCount_cabcc : ByteArray := prog_32_method_157_code
def yJ0_checkBoundsOffCount_cabcc : MethodName := ⟨RJ0, "checkBoundsOffCount", "(III)I"⟩
abbrev cJ0_checkBoundsBeginEnd_23922 : ByteArray := prog_32_method_158_code
def yJ0_checkBoundsBeginEnd_23922 : MethodName := ⟨RJ0, "checkBoundsBeginEnd", "(III)V"⟩
def RJ4 : String := "java/lang/StringBuilder"
def TJ4 : u_T := fun k => match k with
  | 0 => ("java/lang/AbstractStringBuilder", "value", "[B", false)
  | 1 => ("java/lang/AbstractStringBuilder", "coder", "B", false)
  | 2 => ("java/lang/AbstractStringBuilder", "maybeLatin1", "Z", false)
  | _ => ("java/lang/AbstractStringBuilder", "count", "I", false)
def tyJ4 : Nat → FieldType := fun k => match k with
  | 0 => .array .byte
  | 1 => .byte
  | 2 => .boolean
  | _ => .int
abbrev wsJ40 : List Cond := u_ws RJ4 TJ4 4
theorem nmJ4 : ∀ a, a < 4 → ∀ b, b < 4 → a ≠ b → (TJ4 a).2.1 ≠ (TJ4 b).2.1 := by decide +kernel
theorem tyJ4_ok : ∀ k, k < 4 → parseFieldDescriptor (TJ4 k).2.2.1 = some (tyJ4 k) := by decide +kernel
abbrev cJ4_init_da8c8 : ByteArray := prog_33_method_1_code
def yJ4_init_da8c8 : MethodName := ⟨RJ4, "<init>", "()V"⟩
abbrev cJ4_append_15ec4 : ByteArray := prog_33_method_7_code
def yJ4_append_15ec4 : MethodName := ⟨RJ4, "append", "(Ljava/lang/String;)Ljava/lang/StringBuilder;"⟩
abbrev cJ4_append_cf468 : ByteArray := prog_33_method_14_code
def yJ4_append_cf468 : MethodName := ⟨RJ4, "append", "(C)Ljava/lang/StringBuilder;"⟩
abbrev cJ4_append_bf812 : ByteArray := prog_33_method_15_code
def yJ4_append_bf812 : MethodName := ⟨RJ4, "append", "(I)Ljava/lang/StringBuilder;"⟩
abbrev cJ4_toString_0e30d : ByteArray := prog_33_method_42_code
def yJ4_toString_0e30d : MethodName := ⟨RJ4, "toString", "()Ljava/lang/String;"⟩
abbrev cJ4_charAt_5068e : ByteArray := prog_33_method_88_code
def yJ4_charAt_5068e : MethodName := ⟨RJ4, "charAt", "(I)C"⟩
abbrev cJ4_setLength_d00df : ByteArray := prog_33_method_89_code
def yJ4_setLength_d00df : MethodName := ⟨RJ4, "setLength", "(I)V"⟩
abbrev cJ4_length_8abf5 : ByteArray := prog_33_method_93_code
def yJ4_length_8abf5 : MethodName := ⟨RJ4, "length", "()I"⟩
def RJx7c733 : String := "java/lang/StringIndexOutOfBoundsException"
def TJx7c733 : u_T := fun k => match k with
  | 0 => ("java/lang/Throwable", "backtrace", "Ljava/lang/Object;", false)
  | 1 => ("java/lang/Throwable", "detailMessage", "Ljava/lang/String;", false)
  | 2 => ("java/lang/Throwable", "cause", "Ljava/lang/Throwable;", false)
  | 3 => ("java/lang/Throwable", "stackTrace", "[Ljava/lang/StackTraceElement;", false)
  | 4 => ("java/lang/Throwable", "depth", "I", false)
  | _ => ("java/lang/Throwable", "suppressedExceptions", "Ljava/util/List;", false)
def tyJx7c733 : Nat → FieldType := fun k => match k with
  | 0 => .object "java/lang/Object"
  | 1 => .object "java/lang/String"
  | 2 => .object "java/lang/Throwable"
  | 3 => .array (.object "java/lang/StackTraceElement")
  | 4 => .int
  | _ => .object "java/util/List"
abbrev wsJx7c7330 : List Cond := u_ws RJx7c733 TJx7c733 6
theorem nmJx7c733 : ∀ a, a < 6 → ∀ b, b < 6 → a ≠ b → (TJx7c733 a).2.1 ≠ (TJx7c733 b).2.1 := by decide +kernel
theorem tyJx7c733_ok : ∀ k, k < 6 → parseFieldDescriptor (TJx7c733 k).2.2.1 = some (tyJx7c733 k) := by decide +kernel
abbrev cJx7c733_init_d00df : ByteArray := prog_34_method_3_code
def yJx7c733_init_d00df : MethodName := ⟨RJx7c733, "<init>", "(I)V"⟩
def RJ1 : String := "java/lang/StringLatin1"
def TJ1 : u_T := fun k => match k with
  | _ => ("", "", "", false)
def tyJ1 : Nat → FieldType := fun k => match k with
  | _ => .int
abbrev wsJ10 : List Cond := u_ws RJ1 TJ1 0
theorem nmJ1 : ∀ a, a < 0 → ∀ b, b < 0 → a ≠ b → (TJ1 a).2.1 ≠ (TJ1 b).2.1 := by decide +kernel
theorem tyJ1_ok : ∀ k, k < 0 → parseFieldDescriptor (TJ1 k).2.2.1 = some (tyJ1 k) := by decide +kernel
abbrev cJ1_charAt_3b067 : ByteArray := prog_35_method_2_code
def yJ1_charAt_3b067 : MethodName := ⟨RJ1, "charAt", "([BI)C"⟩
abbrev cJ1_canEncode_fc78d : ByteArray := prog_35_method_3_code
def yJ1_canEncode_fc78d : MethodName := ⟨RJ1, "canEncode", "(C)Z"⟩
abbrev cJ1_fillNull_b72d1 : ByteArray := prog_35_method_48_code
def yJ1_fillNull_b72d1 : MethodName := ⟨RJ1, "fillNull", "([BII)V"⟩
abbrev cJ1_inflate_0e8fd : ByteArray := prog_35_method_50_code
def yJ1_inflate_0e8fd : MethodName := ⟨RJ1, "inflate", "([BI[BII)V"⟩
def RJ2 : String := "java/lang/StringUTF16"
def TJ2 : u_T := fun k => match k with
  | _ => ("", "", "", false)
def tyJ2 : Nat → FieldType := fun k => match k with
  | _ => .int
abbrev wsJ20 : List Cond := u_ws RJ2 TJ2 0
theorem nmJ2 : ∀ a, a < 0 → ∀ b, b < 0 → a ≠ b → (TJ2 a).2.1 ≠ (TJ2 b).2.1 := by decide +kernel
theorem tyJ2_ok : ∀ k, k < 0 → parseFieldDescriptor (TJ2 k).2.2.1 = some (tyJ2 k) := by decide +kernel
abbrev cJ2_newBytesFor_77867 : ByteArray := prog_36_method_2_code
def yJ2_newBytesFor_77867 : MethodName := ⟨RJ2, "newBytesFor", "(I)[B"⟩
abbrev cJ2_newBytesLength_0f7a4 : ByteArray := prog_36_method_3_code
def yJ2_newBytesLength_0f7a4 : MethodName := ⟨RJ2, "newBytesLength", "(I)I"⟩
abbrev cJ2_putChar_b72d1 : ByteArray := prog_36_method_4_code
def yJ2_putChar_b72d1 : MethodName := ⟨RJ2, "putChar", "([BII)V"⟩
abbrev cJ2_getChar_3b067 : ByteArray := prog_36_method_5_code
def yJ2_getChar_3b067 : MethodName := ⟨RJ2, "getChar", "([BI)C"⟩
abbrev cJ2_length_9d52b : ByteArray := prog_36_method_6_code
def yJ2_length_9d52b : MethodName := ⟨RJ2, "length", "([B)I"⟩
abbrev cJ2_coderFromArrayLen_85cad : ByteArray := prog_36_method_15_code
def yJ2_coderFromArrayLen_85cad : MethodName := ⟨RJ2, "coderFromArrayLen", "([BI)B"⟩
abbrev cJ2_compress_39247 : ByteArray := prog_36_method_17_code
def yJ2_compress_39247 : MethodName := ⟨RJ2, "compress", "([BII)[B"⟩
abbrev cJ2_compress_5af95 : ByteArray := prog_36_method_22_code
def yJ2_compress_5af95 : MethodName := ⟨RJ2, "compress", "([BI[BII)I"⟩
abbrev cJ2_fillNull_b72d1 : ByteArray := prog_36_method_70_code
def yJ2_fillNull_b72d1 : MethodName := ⟨RJ2, "fillNull", "([BII)V"⟩
abbrev cJ2_putCharSB_b72d1 : ByteArray := prog_36_method_71_code
def yJ2_putCharSB_b72d1 : MethodName := ⟨RJ2, "putCharSB", "([BII)V"⟩
abbrev cJ2_getChars_46870 : ByteArray := prog_36_method_77_code
def yJ2_getChars_46870 : MethodName := ⟨RJ2, "getChars", "(III[B)I"⟩
abbrev cJ2_putCharsAt_cd4e5 : ByteArray := prog_36_method_81_code
def yJ2_putCharsAt_cd4e5 : MethodName := ⟨RJ2, "putCharsAt", "([BICCCC)I"⟩
abbrev cJ2_charAt_3b067 : ByteArray := prog_36_method_83_code
def yJ2_charAt_3b067 : MethodName := ⟨RJ2, "charAt", "([BI)C"⟩
abbrev cJ2_inflate_0e8fd : ByteArray := prog_36_method_86_code
def yJ2_inflate_0e8fd : MethodName := ⟨RJ2, "inflate", "([BI[BII)V"⟩
abbrev cJ2_getChars_ba4f3 : ByteArray := prog_36_method_89_code
def yJ2_getChars_ba4f3 : MethodName := ⟨RJ2, "getChars", "(II[B)I"⟩
abbrev cJ2_checkIndex_2214a : ByteArray := prog_36_method_91_code
def yJ2_checkIndex_2214a : MethodName := ⟨RJ2, "checkIndex", "(I[B)V"⟩
abbrev cJ2_checkBoundsBeginEnd_d044e : ByteArray := prog_36_method_93_code
def yJ2_checkBoundsBeginEnd_d044e : MethodName := ⟨RJ2, "checkBoundsBeginEnd", "(II[B)V"⟩
abbrev cJ2_checkBoundsOffCount_d044e : ByteArray := prog_36_method_94_code
def yJ2_checkBoundsOffCount_d044e : MethodName := ⟨RJ2, "checkBoundsOffCount", "(II[B)V"⟩
def RJ10 : String := "java/lang/System"
def TJ10 : u_T := fun k => match k with
  | _ => ("", "", "", false)
def tyJ10 : Nat → FieldType := fun k => match k with
  | _ => .int
abbrev wsJ100 : List Cond := u_ws RJ10 TJ10 0
theorem nmJ10 : ∀ a, a < 0 → ∀ b, b < 0 → a ≠ b → (TJ10 a).2.1 ≠ (TJ10 b).2.1 := by decide +kernel
theorem tyJ10_ok : ∀ k, k < 0 → parseFieldDescriptor (TJ10 k).2.2.1 = some (tyJ10 k) := by decide +kernel
def RJxfd54e : String := "java/lang/constant/Constable"
def TJxfd54e : u_T := fun k => match k with
  | _ => ("", "", "", false)
def tyJxfd54e : Nat → FieldType := fun k => match k with
  | _ => .int
abbrev wsJxfd54e0 : List Cond := u_ws RJxfd54e TJxfd54e 0
theorem nmJxfd54e : ∀ a, a < 0 → ∀ b, b < 0 → a ≠ b → (TJxfd54e a).2.1 ≠ (TJxfd54e b).2.1 := by decide +kernel
theorem tyJxfd54e_ok : ∀ k, k < 0 → parseFieldDescriptor (TJxfd54e k).2.2.1 = some (tyJxfd54e k) := by decide +kernel
def RJx3cf43 : String := "java/lang/constant/ConstantDesc"
def TJx3cf43 : u_T := fun k => match k with
  | _ => ("", "", "", false)
def tyJx3cf43 : Nat → FieldType := fun k => match k with
  | _ => .int
abbrev wsJx3cf430 : List Cond := u_ws RJx3cf43 TJx3cf43 0
theorem nmJx3cf43 : ∀ a, a < 0 → ∀ b, b < 0 → a ≠ b → (TJx3cf43 a).2.1 ≠ (TJx3cf43 b).2.1 := by decide +kernel
theorem tyJx3cf43_ok : ∀ k, k < 0 → parseFieldDescriptor (TJx3cf43 k).2.2.1 = some (tyJx3cf43 k) := by decide +kernel
def RJ7 : String := "java/util/Arrays"
def TJ7 : u_T := fun k => match k with
  | _ => ("", "", "", false)
def tyJ7 : Nat → FieldType := fun k => match k with
  | _ => .int
abbrev wsJ70 : List Cond := u_ws RJ7 TJ7 0
theorem nmJ7 : ∀ a, a < 0 → ∀ b, b < 0 → a ≠ b → (TJ7 a).2.1 ≠ (TJ7 b).2.1 := by decide +kernel
theorem tyJ7_ok : ∀ k, k < 0 → parseFieldDescriptor (TJ7 k).2.2.1 = some (tyJ7 k) := by decide +kernel
abbrev cJ7_rangeCheck_23922 : ByteArray := prog_42_method_30_code
def yJ7_rangeCheck_23922 : MethodName := ⟨RJ7, "rangeCheck", "(III)V"⟩
abbrev cJ7_fill_eb02e : ByteArray := prog_42_method_110_code
def yJ7_fill_eb02e : MethodName := ⟨RJ7, "fill", "([BIIB)V"⟩
abbrev cJ7_copyOf_9075b : ByteArray := prog_42_method_121_code
def yJ7_copyOf_9075b : MethodName := ⟨RJ7, "copyOf", "([BI)[B"⟩
abbrev cJ7_checkLength_df160 : ByteArray := prog_42_method_131_code
def yJ7_checkLength_df160 : MethodName := ⟨RJ7, "checkLength", "(II)V"⟩
abbrev cJ7_copyOfRange_39247 : ByteArray := prog_42_method_132_code
def yJ7_copyOfRange_39247 : MethodName := ⟨RJ7, "copyOfRange", "([BII)[B"⟩
abbrev cJ7_copyOfRangeByte_39247 : ByteArray := prog_42_method_133_code
def yJ7_copyOfRangeByte_39247 : MethodName := ⟨RJ7, "copyOfRangeByte", "([BII)[B"⟩
def RJ8 : String := "jdk/internal/util/ArraysSupport"
def TJ8 : u_T := fun k => match k with
  | _ => ("", "", "", false)
def tyJ8 : Nat → FieldType := fun k => match k with
  | _ => .int
abbrev wsJ80 : List Cond := u_ws RJ8 TJ8 0
theorem nmJ8 : ∀ a, a < 0 → ∀ b, b < 0 → a ≠ b → (TJ8 a).2.1 ≠ (TJ8 b).2.1 := by decide +kernel
theorem tyJ8_ok : ∀ k, k < 0 → parseFieldDescriptor (TJ8 k).2.2.1 = some (tyJ8 k) := by decide +kernel
abbrev cJ8_newLength_cabcc : ByteArray := prog_44_method_27_code
def yJ8_newLength_cabcc : MethodName := ⟨RJ8, "newLength", "(III)I"⟩
abbrev cJ8_hugeLength_7cf53 : ByteArray := prog_44_method_28_code
def yJ8_hugeLength_7cf53 : MethodName := ⟨RJ8, "hugeLength", "(II)I"⟩
def RJ3 : String := "jdk/internal/util/Preconditions"
def TJ3 : u_T := fun k => match k with
  | _ => ("", "", "", false)
def tyJ3 : Nat → FieldType := fun k => match k with
  | _ => .int
abbrev wsJ30 : List Cond := u_ws RJ3 TJ3 0
theorem nmJ3 : ∀ a, a < 0 → ∀ b, b < 0 → a ≠ b → (TJ3 a).2.1 ≠ (TJ3 b).2.1 := by decide +kernel
theorem tyJ3_ok : ∀ k, k < 0 → parseFieldDescriptor (TJ3 k).2.2.1 = some (tyJ3 k) := by decide +kernel
abbrev cJ3_checkIndex_8e157 : ByteArray := prog_45_method_11_code
def yJ3_checkIndex_8e157 : MethodName := ⟨RJ3, "checkIndex", "(IILjava/util/function/BiFunction;)I"⟩
abbrev cJ3_checkFromToIndex_8c36e : ByteArray := prog_45_method_12_code
def yJ3_checkFromToIndex_8c36e : MethodName := ⟨RJ3, "checkFromToIndex", "(IIILjava/util/function/BiFunction;)I"⟩
abbrev cJ3_checkFromIndexSize_8c36e : ByteArray := prog_45_method_13_code
def yJ3_checkFromIndexSize_8c36e : MethodName := ⟨RJ3, "checkFromIndexSize", "(IIILjava/util/function/BiFunction;)I"⟩
def RL : String := "NoiseMillLaw"
abbrev cL_addNoise : ByteArray := method_3_code
def yL_addNoise : MethodName := ⟨RL, "addNoise", "(LNoiseMill;III[J)I"⟩
abbrev cL_removeNoise : ByteArray := method_4_code
def yL_removeNoise : MethodName := ⟨RL, "removeNoise", "(LNoiseMill;I[J)I"⟩
abbrev cL_setGear : ByteArray := method_5_code
def yL_setGear : MethodName := ⟨RL, "setGear", "(LNoiseMill;II[J)I"⟩
abbrev cL_setMesh : ByteArray := method_6_code
def yL_setMesh : MethodName := ⟨RL, "setMesh", "(LNoiseMill;II[J)I"⟩
abbrev cL_clearWheel : ByteArray := method_7_code
def yL_clearWheel : MethodName := ⟨RL, "clearWheel", "(LNoiseMill;I[J)I"⟩
abbrev cL_releaseNoise : ByteArray := method_8_code
def yL_releaseNoise : MethodName := ⟨RL, "releaseNoise", "(LNoiseMill;I[J)I"⟩
abbrev cL_shipSacks : ByteArray := method_9_code
def yL_shipSacks : MethodName := ⟨RL, "shipSacks", "(LNoiseMill;II[J)I"⟩
abbrev cL_advance : ByteArray := method_10_code
def yL_advance : MethodName := ⟨RL, "advance", "(LNoiseMill;I[J)I"⟩
abbrev cL_waitingAt : ByteArray := method_11_code
def yL_waitingAt : MethodName := ⟨RL, "waitingAt", "(LNoiseMill;I[J)I"⟩
abbrev cL_rankOf : ByteArray := method_12_code
def yL_rankOf : MethodName := ⟨RL, "rankOf", "(LNoiseMill;I[J)I"⟩
abbrev cL_band : ByteArray := method_13_code
def yL_band : MethodName := ⟨RL, "band", "(LNoiseMill;I[J)I"⟩
abbrev cL_loudness : ByteArray := method_14_code
def yL_loudness : MethodName := ⟨RL, "loudness", "(LNoiseMill;I[J)I"⟩
abbrev cL_amount : ByteArray := method_15_code
def yL_amount : MethodName := ⟨RL, "amount", "(LNoiseMill;I[J)I"⟩
abbrev cL_isWaiting : ByteArray := method_16_code
def yL_isWaiting : MethodName := ⟨RL, "isWaiting", "(LNoiseMill;I[J)I"⟩
abbrev cL_wheelOf : ByteArray := method_17_code
def yL_wheelOf : MethodName := ⟨RL, "wheelOf", "(LNoiseMill;I[J)I"⟩
abbrev cL_noiseOn : ByteArray := method_18_code
def yL_noiseOn : MethodName := ⟨RL, "noiseOn", "(LNoiseMill;I[J)I"⟩
abbrev cL_gear : ByteArray := method_19_code
def yL_gear : MethodName := ⟨RL, "gear", "(LNoiseMill;I[J)I"⟩
abbrev cL_wear : ByteArray := method_20_code
def yL_wear : MethodName := ⟨RL, "wear", "(LNoiseMill;I[J)I"⟩
abbrev cL_isJammed : ByteArray := method_21_code
def yL_isJammed : MethodName := ⟨RL, "isJammed", "(LNoiseMill;I[J)I"⟩
abbrev cL_mesh : ByteArray := method_22_code
def yL_mesh : MethodName := ⟨RL, "mesh", "(LNoiseMill;I[J)I"⟩
abbrev cL_isBandGround : ByteArray := method_23_code
def yL_isBandGround : MethodName := ⟨RL, "isBandGround", "(LNoiseMill;I[J)I"⟩
abbrev cL_flour : ByteArray := method_24_code
def yL_flour : MethodName := ⟨RL, "flour", "(LNoiseMill;I[J)I"⟩
abbrev cL_flourByRecords : ByteArray := method_25_code
def yL_flourByRecords : MethodName := ⟨RL, "flourByRecords", "(LNoiseMill;I[J)I"⟩
abbrev cL_fullSacks : ByteArray := method_26_code
def yL_fullSacks : MethodName := ⟨RL, "fullSacks", "(LNoiseMill;I[J)I"⟩
abbrev cL_openSack : ByteArray := method_27_code
def yL_openSack : MethodName := ⟨RL, "openSack", "(LNoiseMill;I[J)I"⟩
abbrev cL_shippedSacks : ByteArray := method_28_code
def yL_shippedSacks : MethodName := ⟨RL, "shippedSacks", "(LNoiseMill;I[J)I"⟩
abbrev cL_recorded : ByteArray := method_29_code
def yL_recorded : MethodName := ⟨RL, "recorded", "(LNoiseMill;II[J)I"⟩
abbrev cL_stepsUntilDone : ByteArray := method_30_code
def yL_stepsUntilDone : MethodName := ⟨RL, "stepsUntilDone", "(LNoiseMill;I[J)I"⟩
abbrev cL_stepsUntilDoneByRate : ByteArray := method_31_code
def yL_stepsUntilDoneByRate : MethodName := ⟨RL, "stepsUntilDoneByRate", "(LNoiseMill;I[J)I"⟩
abbrev cL_stepsUntilJam : ByteArray := method_32_code
def yL_stepsUntilJam : MethodName := ⟨RL, "stepsUntilJam", "(LNoiseMill;I[J)I"⟩
abbrev cL_groundWithin : ByteArray := method_33_code
def yL_groundWithin : MethodName := ⟨RL, "groundWithin", "(LNoiseMill;I[J)I"⟩
abbrev cL_doneNumber : ByteArray := method_34_code
def yL_doneNumber : MethodName := ⟨RL, "doneNumber", "(LNoiseMill;I[J)I"⟩
abbrev cL_doneWheel : ByteArray := method_35_code
def yL_doneWheel : MethodName := ⟨RL, "doneWheel", "(LNoiseMill;I[J)I"⟩
abbrev cL_doneTime : ByteArray := method_36_code
def yL_doneTime : MethodName := ⟨RL, "doneTime", "(LNoiseMill;I[J)I"⟩
abbrev cL_wheelByWear : ByteArray := method_37_code
def yL_wheelByWear : MethodName := ⟨RL, "wheelByWear", "(LNoiseMill;I[J)I"⟩
abbrev cL_bandByGrains : ByteArray := method_38_code
def yL_bandByGrains : MethodName := ⟨RL, "bandByGrains", "(LNoiseMill;I[J)I"⟩
abbrev cL_meanLoudness : ByteArray := method_39_code
def yL_meanLoudness : MethodName := ⟨RL, "meanLoudness", "(LNoiseMill;[D)I"⟩
abbrev cL_lostShare : ByteArray := method_40_code
def yL_lostShare : MethodName := ⟨RL, "lostShare", "(LNoiseMill;[D)I"⟩
abbrev cL_renderWheel : ByteArray := method_41_code
def yL_renderWheel : MethodName := ⟨RL, "renderWheel", "(LNoiseMill;I[J)I"⟩
abbrev cL_outputAt : ByteArray := method_42_code
def yL_outputAt : MethodName := ⟨RL, "outputAt", "(LNoiseMill;I[J)I"⟩
abbrev cL_type : ByteArray := method_43_code
def yL_type : MethodName := ⟨RL, "type", "(LNoiseMill;C[J)I"⟩
abbrev cL_runScript : ByteArray := method_44_code
def yL_runScript : MethodName := ⟨RL, "runScript", "(LNoiseMill;[J)I"⟩
abbrev cL_errorPosition : ByteArray := method_45_code
def yL_errorPosition : MethodName := ⟨RL, "errorPosition", "(LNoiseMill;[J)I"⟩
abbrev cL_failedCommand : ByteArray := method_46_code
def yL_failedCommand : MethodName := ⟨RL, "failedCommand", "(LNoiseMill;[J)I"⟩
abbrev cL_undo : ByteArray := method_47_code
def yL_undo : MethodName := ⟨RL, "undo", "(LNoiseMill;[J)I"⟩
abbrev cL_restore : ByteArray := method_48_code
def yL_restore : MethodName := ⟨RL, "restore", "(LNoiseMill;[J)I"⟩
abbrev cL_law : ByteArray := code
def yL_law : MethodName := ⟨RL, "law", "([I)Z"⟩
abbrev vwCl : List vw_C := [(RJ0, TJ0, 4), (RJ4, TJ4, 4), (RJx00060, TJx00060, 6), (RJx7c733, TJx7c733, 6), (RX1, TX1, 2), (RX3, TX3, 3), (RX5, TX5, 4), (RX6, TX6, 7), (RX7, TX7, 7), (RX8, TX8, 5), (RX9, TX9, 7), (RX10, TX10, 2), (RX11, TX11, 10), (RX12, TX12, 17)]
-- ===== the big list: every good word of the tables =====
def BIG : List Cond := lw_tbl.filter goodWord
theorem big_in {w : Cond} (h : w ∈ lw_tbl) (hg : goodWord w = true) : w ∈ BIG := List.mem_filter.mpr ⟨h, hg⟩
theorem big_good : GoodIn BIG BIG := fun w h => ⟨h, good_of_word (List.mem_filter.mp h).2⟩
theorem big_sub : ∀ w ∈ BIG, w ∈ lw_tbl := fun w h => (List.mem_filter.mp h).1
theorem bg1 {w : Cond} (h : w ∈ tables_1_1) (hg : goodWord w = true) : w ∈ BIG := big_in (List.mem_append_right _ (show w ∈ tables_1 from (List.mem_append_left _ h))) hg
theorem bg2 {w : Cond} (h : w ∈ tables_1_2) (hg : goodWord w = true) : w ∈ BIG := big_in (List.mem_append_right _ (show w ∈ tables_1 from (List.mem_append_right _ (List.mem_append_left _ h)))) hg
theorem bg3 {w : Cond} (h : w ∈ tables_1_3) (hg : goodWord w = true) : w ∈ BIG := big_in (List.mem_append_right _ (show w ∈ tables_1 from (List.mem_append_right _ (List.mem_append_right _ (List.mem_append_left _ h))))) hg
theorem bg4 {w : Cond} (h : w ∈ tables_1_4) (hg : goodWord w = true) : w ∈ BIG := big_in (List.mem_append_right _ (show w ∈ tables_1 from (List.mem_append_right _ (List.mem_append_right _ (List.mem_append_right _ (List.mem_append_left _ h)))))) hg
theorem bg5 {w : Cond} (h : w ∈ tables_1_5) (hg : goodWord w = true) : w ∈ BIG := big_in (List.mem_append_right _ (show w ∈ tables_1 from (List.mem_append_right _ (List.mem_append_right _ (List.mem_append_right _ (List.mem_append_right _ (List.mem_append_left _ h))))))) hg
theorem bg6 {w : Cond} (h : w ∈ tables_1_6) (hg : goodWord w = true) : w ∈ BIG := big_in (List.mem_append_right _ (show w ∈ tables_1 from (List.mem_append_right _ (List.mem_append_right _ (List.mem_append_right _ (List.mem_append_right _ (List.mem_append_right _ (List.mem_append_left _ h)))))))) hg
theorem bg7 {w : Cond} (h : w ∈ tables_1_7) (hg : goodWord w = true) : w ∈ BIG := big_in (List.mem_append_right _ (show w ∈ tables_1 from (List.mem_append_right _ (List.mem_append_right _ (List.mem_append_right _ (List.mem_append_right _ (List.mem_append_right _ (List.mem_append_right _ (List.mem_append_left _ h))))))))) hg
theorem bg8 {w : Cond} (h : w ∈ tables_1_8) (hg : goodWord w = true) : w ∈ BIG := big_in (List.mem_append_right _ (show w ∈ tables_1 from (List.mem_append_right _ (List.mem_append_right _ (List.mem_append_right _ (List.mem_append_right _ (List.mem_append_right _ (List.mem_append_right _ (List.mem_append_right _ (List.mem_append_left _ h)))))))))) hg
theorem bg9 {w : Cond} (h : w ∈ tables_1_9) (hg : goodWord w = true) : w ∈ BIG := big_in (List.mem_append_right _ (show w ∈ tables_1 from (List.mem_append_right _ (List.mem_append_right _ (List.mem_append_right _ (List.mem_append_right _ (List.mem_append_right _ (List.mem_append_right _ (List.mem_append_right _ (List.mem_append_right _ h)))))))))) hg
theorem bgs {w : Cond} (h : w ∈ k2_sels lw_privs) (hg : goodWord w = true) : w ∈ BIG := big_in (List.mem_append_left _ h) hg
