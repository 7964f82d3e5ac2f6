section
-- ===== PART A: goes FIRST, ahead of the names: the tables' words, and 'selects' of the private methods out of them =====
/-- a private method of a class that the tables say can be made, by its rows of tables_1 -/
def lw_okq (q : MethodName × Nat) : Prop := (q.1.cls ≠ "java/lang/invoke/MethodHandle" ∧ q.1.cls ≠ "java/lang/invoke/VarHandle") ∧ Cond.instantiable q.1.cls q.2 ∈ tables_1 ∧ Cond.privateMethod q.1 ∈ tables_1 ∧ Cond.instanceMethod q.1 ∈ tables_1
theorem lw_p0 : lw_okq (⟨"java/lang/Throwable", "fillInStackTrace", "(I)Ljava/lang/Throwable;"⟩, 6) := ⟨⟨by decide +kernel, by decide +kernel⟩, List.mem_of_getElem? (i := 87) (by decide +kernel), List.mem_of_getElem? (i := 85) (by decide +kernel), List.mem_of_getElem? (i := 86) (by decide +kernel)⟩
theorem lw_p1 : lw_okq (⟨"Exportcover", "payWhatIsDue", "()V"⟩, 14) := ⟨⟨by decide +kernel, by decide +kernel⟩, List.mem_of_getElem? (i := 138) (by decide +kernel), List.mem_of_getElem? (i := 136) (by decide +kernel), List.mem_of_getElem? (i := 137) (by decide +kernel)⟩
theorem lw_p2 : lw_okq (⟨"Exportcover", "settle", "(LExportcover$Shipment;LExportcover$Chest;I)V"⟩, 14) := ⟨⟨by decide +kernel, by decide +kernel⟩, List.mem_of_getElem? (i := 138) (by decide +kernel), List.mem_of_getElem? (i := 184) (by decide +kernel), List.mem_of_getElem? (i := 185) (by decide +kernel)⟩
theorem lw_p3 : lw_okq (⟨"Exportcover$Damage", "dueOf", "(I)I"⟩, 7) := ⟨⟨by decide +kernel, by decide +kernel⟩, List.mem_of_getElem? (i := 202) (by decide +kernel), List.mem_of_getElem? (i := 200) (by decide +kernel), List.mem_of_getElem? (i := 201) (by decide +kernel)⟩
theorem lw_p4 : lw_okq (⟨"Exportcover", "chestOfRival", "(I)LExportcover$Chest;"⟩, 14) := ⟨⟨by decide +kernel, by decide +kernel⟩, List.mem_of_getElem? (i := 138) (by decide +kernel), List.mem_of_getElem? (i := 205) (by decide +kernel), List.mem_of_getElem? (i := 206) (by decide +kernel)⟩
theorem lw_p5 : lw_okq (⟨"Exportcover", "payWhatIsPutOff", "()V"⟩, 14) := ⟨⟨by decide +kernel, by decide +kernel⟩, List.mem_of_getElem? (i := 138) (by decide +kernel), List.mem_of_getElem? (i := 209) (by decide +kernel), List.mem_of_getElem? (i := 210) (by decide +kernel)⟩
theorem lw_p6 : lw_okq (⟨"Exportcover", "policyAt", "(I)LExportcover$Policy;"⟩, 14) := ⟨⟨by decide +kernel, by decide +kernel⟩, List.mem_of_getElem? (i := 138) (by decide +kernel), List.mem_of_getElem? (i := 222) (by decide +kernel), List.mem_of_getElem? (i := 223) (by decide +kernel)⟩
theorem lw_p7 : lw_okq (⟨"Exportcover", "figureOfPolicy", "(LExportcover$Policy;I)I"⟩, 14) := ⟨⟨by decide +kernel, by decide +kernel⟩, List.mem_of_getElem? (i := 138) (by decide +kernel), List.mem_of_getElem? (i := 243) (by decide +kernel), List.mem_of_getElem? (i := 244) (by decide +kernel)⟩
theorem lw_p8 : lw_okq (⟨"Exportcover", "countOfShipmentsUnder", "(LExportcover$Policy;)I"⟩, 14) := ⟨⟨by decide +kernel, by decide +kernel⟩, List.mem_of_getElem? (i := 138) (by decide +kernel), List.mem_of_getElem? (i := 247) (by decide +kernel), List.mem_of_getElem? (i := 248) (by decide +kernel)⟩
theorem lw_p9 : lw_okq (⟨"Exportcover", "premiumsUnder", "(LExportcover$Policy;)I"⟩, 14) := ⟨⟨by decide +kernel, by decide +kernel⟩, List.mem_of_getElem? (i := 138) (by decide +kernel), List.mem_of_getElem? (i := 251) (by decide +kernel), List.mem_of_getElem? (i := 252) (by decide +kernel)⟩
theorem lw_p10 : lw_okq (⟨"Exportcover", "shipmentAt", "(I)LExportcover$Shipment;"⟩, 14) := ⟨⟨by decide +kernel, by decide +kernel⟩, List.mem_of_getElem? (i := 138) (by decide +kernel), List.mem_of_getElem? (i := 259) (by decide +kernel), List.mem_of_getElem? (i := 260) (by decide +kernel)⟩
theorem lw_p11 : lw_okq (⟨"Exportcover", "figureOfShipment", "(LExportcover$Shipment;I)I"⟩, 14) := ⟨⟨by decide +kernel, by decide +kernel⟩, List.mem_of_getElem? (i := 138) (by decide +kernel), List.mem_of_getElem? (i := 264) (by decide +kernel), List.mem_of_getElem? (i := 265) (by decide +kernel)⟩
theorem lw_p12 : lw_okq (⟨"Exportcover", "figureOfBooks", "(I)I"⟩, 14) := ⟨⟨by decide +kernel, by decide +kernel⟩, List.mem_of_getElem? (i := 138) (by decide +kernel), List.mem_of_getElem? (i := 286) (by decide +kernel), List.mem_of_getElem? (i := 287) (by decide +kernel)⟩
theorem lw_p13 : lw_okq (⟨"Exportcover", "balance", "()I"⟩, 14) := ⟨⟨by decide +kernel, by decide +kernel⟩, List.mem_of_getElem? (i := 138) (by decide +kernel), List.mem_of_getElem? (i := 290) (by decide +kernel), List.mem_of_getElem? (i := 291) (by decide +kernel)⟩
theorem lw_p14 : lw_okq (⟨"Exportcover", "countOfMarked", "(I)I"⟩, 14) := ⟨⟨by decide +kernel, by decide +kernel⟩, List.mem_of_getElem? (i := 138) (by decide +kernel), List.mem_of_getElem? (i := 294) (by decide +kernel), List.mem_of_getElem? (i := 295) (by decide +kernel)⟩
theorem lw_p15 : lw_okq (⟨"Exportcover", "countOfSuspect", "()I"⟩, 14) := ⟨⟨by decide +kernel, by decide +kernel⟩, List.mem_of_getElem? (i := 138) (by decide +kernel), List.mem_of_getElem? (i := 298) (by decide +kernel), List.mem_of_getElem? (i := 299) (by decide +kernel)⟩
def lw_privs_1 : List (MethodName × Nat) := [(⟨"java/lang/Throwable", "fillInStackTrace", "(I)Ljava/lang/Throwable;"⟩, 6), (⟨"Exportcover", "payWhatIsDue", "()V"⟩, 14), (⟨"Exportcover", "settle", "(LExportcover$Shipment;LExportcover$Chest;I)V"⟩, 14), (⟨"Exportcover$Damage", "dueOf", "(I)I"⟩, 7), (⟨"Exportcover", "chestOfRival", "(I)LExportcover$Chest;"⟩, 14), (⟨"Exportcover", "payWhatIsPutOff", "()V"⟩, 14), (⟨"Exportcover", "policyAt", "(I)LExportcover$Policy;"⟩, 14), (⟨"Exportcover", "figureOfPolicy", "(LExportcover$Policy;I)I"⟩, 14), (⟨"Exportcover", "countOfShipmentsUnder", "(LExportcover$Policy;)I"⟩, 14), (⟨"Exportcover", "premiumsUnder", "(LExportcover$Policy;)I"⟩, 14), (⟨"Exportcover", "shipmentAt", "(I)LExportcover$Shipment;"⟩, 14), (⟨"Exportcover", "figureOfShipment", "(LExportcover$Shipment;I)I"⟩, 14), (⟨"Exportcover", "figureOfBooks", "(I)I"⟩, 14), (⟨"Exportcover", "balance", "()I"⟩, 14), (⟨"Exportcover", "countOfMarked", "(I)I"⟩, 14), (⟨"Exportcover", "countOfSuspect", "()I"⟩, 14)]
theorem lw_r1 : ∀ q ∈ lw_privs_1, lw_okq q := List.forall_mem_cons.mpr ⟨lw_p0, List.forall_mem_cons.mpr ⟨lw_p1, List.forall_mem_cons.mpr ⟨lw_p2, List.forall_mem_cons.mpr ⟨lw_p3, List.forall_mem_cons.mpr ⟨lw_p4, List.forall_mem_cons.mpr ⟨lw_p5, List.forall_mem_cons.mpr ⟨lw_p6, List.forall_mem_cons.mpr ⟨lw_p7, List.forall_mem_cons.mpr ⟨lw_p8, List.forall_mem_cons.mpr ⟨lw_p9, List.forall_mem_cons.mpr ⟨lw_p10, List.forall_mem_cons.mpr ⟨lw_p11, List.forall_mem_cons.mpr ⟨lw_p12, List.forall_mem_cons.mpr ⟨lw_p13, List.forall_mem_cons.mpr ⟨lw_p14, List.forall_mem_cons.mpr ⟨lw_p15, fun _ h => absurd h List.not_mem_nil⟩⟩⟩⟩⟩⟩⟩⟩⟩⟩⟩⟩⟩⟩⟩⟩
theorem lw_p16 : lw_okq (⟨"Exportcover", "isSuspect", "(LExportcover$Shipment;)Z"⟩, 14) := ⟨⟨by decide +kernel, by decide +kernel⟩, List.mem_of_getElem? (i := 138) (by decide +kernel), List.mem_of_getElem? (i := 302) (by decide +kernel), List.mem_of_getElem? (i := 303) (by decide +kernel)⟩
theorem lw_p17 : lw_okq (⟨"Exportcover", "reachedFrom", "(I)I"⟩, 14) := ⟨⟨by decide +kernel, by decide +kernel⟩, List.mem_of_getElem? (i := 138) (by decide +kernel), List.mem_of_getElem? (i := 306) (by decide +kernel), List.mem_of_getElem? (i := 307) (by decide +kernel)⟩
theorem lw_p18 : lw_okq (⟨"Exportcover", "areChestsSound", "()Z"⟩, 14) := ⟨⟨by decide +kernel, by decide +kernel⟩, List.mem_of_getElem? (i := 138) (by decide +kernel), List.mem_of_getElem? (i := 319) (by decide +kernel), List.mem_of_getElem? (i := 320) (by decide +kernel)⟩
theorem lw_p19 : lw_okq (⟨"Exportcover$Shipment", "isDamageSound", "()Z"⟩, 16) := ⟨⟨by decide +kernel, by decide +kernel⟩, List.mem_of_getElem? (i := 330) (by decide +kernel), List.mem_of_getElem? (i := 328) (by decide +kernel), List.mem_of_getElem? (i := 329) (by decide +kernel)⟩
theorem lw_p20 : lw_okq (⟨"Exportcover", "digestOfLands", "(J)J"⟩, 14) := ⟨⟨by decide +kernel, by decide +kernel⟩, List.mem_of_getElem? (i := 138) (by decide +kernel), List.mem_of_getElem? (i := 347) (by decide +kernel), List.mem_of_getElem? (i := 348) (by decide +kernel)⟩
theorem lw_p21 : lw_okq (⟨"Exportcover", "figureOfLand", "(LExportcover$Land;I)I"⟩, 14) := ⟨⟨by decide +kernel, by decide +kernel⟩, List.mem_of_getElem? (i := 138) (by decide +kernel), List.mem_of_getElem? (i := 352) (by decide +kernel), List.mem_of_getElem? (i := 353) (by decide +kernel)⟩
theorem lw_p22 : lw_okq (⟨"Exportcover", "riskIn", "(LExportcover$Land;)I"⟩, 14) := ⟨⟨by decide +kernel, by decide +kernel⟩, List.mem_of_getElem? (i := 138) (by decide +kernel), List.mem_of_getElem? (i := 357) (by decide +kernel), List.mem_of_getElem? (i := 358) (by decide +kernel)⟩
theorem lw_p23 : lw_okq (⟨"Exportcover", "digestOfBuyers", "(J)J"⟩, 14) := ⟨⟨by decide +kernel, by decide +kernel⟩, List.mem_of_getElem? (i := 138) (by decide +kernel), List.mem_of_getElem? (i := 379) (by decide +kernel), List.mem_of_getElem? (i := 380) (by decide +kernel)⟩
theorem lw_p24 : lw_okq (⟨"Exportcover", "figureOfBuyer", "(LExportcover$Buyer;I)I"⟩, 14) := ⟨⟨by decide +kernel, by decide +kernel⟩, List.mem_of_getElem? (i := 138) (by decide +kernel), List.mem_of_getElem? (i := 383) (by decide +kernel), List.mem_of_getElem? (i := 384) (by decide +kernel)⟩
theorem lw_p25 : lw_okq (⟨"Exportcover", "debtOf", "(LExportcover$Buyer;)I"⟩, 14) := ⟨⟨by decide +kernel, by decide +kernel⟩, List.mem_of_getElem? (i := 138) (by decide +kernel), List.mem_of_getElem? (i := 387) (by decide +kernel), List.mem_of_getElem? (i := 388) (by decide +kernel)⟩
theorem lw_p26 : lw_okq (⟨"Exportcover", "digestOfExporters", "(J)J"⟩, 14) := ⟨⟨by decide +kernel, by decide +kernel⟩, List.mem_of_getElem? (i := 138) (by decide +kernel), List.mem_of_getElem? (i := 391) (by decide +kernel), List.mem_of_getElem? (i := 392) (by decide +kernel)⟩
theorem lw_p27 : lw_okq (⟨"Exportcover", "figureOfExporter", "(LExportcover$Exporter;I)I"⟩, 14) := ⟨⟨by decide +kernel, by decide +kernel⟩, List.mem_of_getElem? (i := 138) (by decide +kernel), List.mem_of_getElem? (i := 395) (by decide +kernel), List.mem_of_getElem? (i := 396) (by decide +kernel)⟩
theorem lw_p28 : lw_okq (⟨"Exportcover", "countOfRunningPolicies", "(LExportcover$Exporter;)I"⟩, 14) := ⟨⟨by decide +kernel, by decide +kernel⟩, List.mem_of_getElem? (i := 138) (by decide +kernel), List.mem_of_getElem? (i := 399) (by decide +kernel), List.mem_of_getElem? (i := 400) (by decide +kernel)⟩
theorem lw_p29 : lw_okq (⟨"Exportcover", "countOfShipmentsBy", "(LExportcover$Exporter;)I"⟩, 14) := ⟨⟨by decide +kernel, by decide +kernel⟩, List.mem_of_getElem? (i := 138) (by decide +kernel), List.mem_of_getElem? (i := 403) (by decide +kernel), List.mem_of_getElem? (i := 404) (by decide +kernel)⟩
theorem lw_p30 : lw_okq (⟨"Exportcover", "isInCircle", "(LExportcover$Exporter;)Z"⟩, 14) := ⟨⟨by decide +kernel, by decide +kernel⟩, List.mem_of_getElem? (i := 138) (by decide +kernel), List.mem_of_getElem? (i := 407) (by decide +kernel), List.mem_of_getElem? (i := 408) (by decide +kernel)⟩
theorem lw_p31 : lw_okq (⟨"Exportcover", "digestOfPolicies", "(J)J"⟩, 14) := ⟨⟨by decide +kernel, by decide +kernel⟩, List.mem_of_getElem? (i := 138) (by decide +kernel), List.mem_of_getElem? (i := 411) (by decide +kernel), List.mem_of_getElem? (i := 412) (by decide +kernel)⟩
def lw_privs_2 : List (MethodName × Nat) := [(⟨"Exportcover", "isSuspect", "(LExportcover$Shipment;)Z"⟩, 14), (⟨"Exportcover", "reachedFrom", "(I)I"⟩, 14), (⟨"Exportcover", "areChestsSound", "()Z"⟩, 14), (⟨"Exportcover$Shipment", "isDamageSound", "()Z"⟩, 16), (⟨"Exportcover", "digestOfLands", "(J)J"⟩, 14), (⟨"Exportcover", "figureOfLand", "(LExportcover$Land;I)I"⟩, 14), (⟨"Exportcover", "riskIn", "(LExportcover$Land;)I"⟩, 14), (⟨"Exportcover", "digestOfBuyers", "(J)J"⟩, 14), (⟨"Exportcover", "figureOfBuyer", "(LExportcover$Buyer;I)I"⟩, 14), (⟨"Exportcover", "debtOf", "(LExportcover$Buyer;)I"⟩, 14), (⟨"Exportcover", "digestOfExporters", "(J)J"⟩, 14), (⟨"Exportcover", "figureOfExporter", "(LExportcover$Exporter;I)I"⟩, 14), (⟨"Exportcover", "countOfRunningPolicies", "(LExportcover$Exporter;)I"⟩, 14), (⟨"Exportcover", "countOfShipmentsBy", "(LExportcover$Exporter;)I"⟩, 14), (⟨"Exportcover", "isInCircle", "(LExportcover$Exporter;)Z"⟩, 14), (⟨"Exportcover", "digestOfPolicies", "(J)J"⟩, 14)]
theorem lw_r2 : ∀ q ∈ lw_privs_2, lw_okq q := List.forall_mem_cons.mpr ⟨lw_p16, List.forall_mem_cons.mpr ⟨lw_p17, List.forall_mem_cons.mpr ⟨lw_p18, List.forall_mem_cons.mpr ⟨lw_p19, List.forall_mem_cons.mpr ⟨lw_p20, List.forall_mem_cons.mpr ⟨lw_p21, List.forall_mem_cons.mpr ⟨lw_p22, List.forall_mem_cons.mpr ⟨lw_p23, List.forall_mem_cons.mpr ⟨lw_p24, List.forall_mem_cons.mpr ⟨lw_p25, List.forall_mem_cons.mpr ⟨lw_p26, List.forall_mem_cons.mpr ⟨lw_p27, List.forall_mem_cons.mpr ⟨lw_p28, List.forall_mem_cons.mpr ⟨lw_p29, List.forall_mem_cons.mpr ⟨lw_p30, List.forall_mem_cons.mpr ⟨lw_p31, fun _ h => absurd h List.not_mem_nil⟩⟩⟩⟩⟩⟩⟩⟩⟩⟩⟩⟩⟩⟩⟩⟩
theorem lw_p32 : lw_okq (⟨"Exportcover", "riskUnder", "(LExportcover$Policy;LExportcover$Buyer;)I"⟩, 14) := ⟨⟨by decide +kernel, by decide +kernel⟩, List.mem_of_getElem? (i := 138) (by decide +kernel), List.mem_of_getElem? (i := 419) (by decide +kernel), List.mem_of_getElem? (i := 420) (by decide +kernel)⟩
theorem lw_p33 : lw_okq (⟨"Exportcover", "digestOfShipments", "(J)J"⟩, 14) := ⟨⟨by decide +kernel, by decide +kernel⟩, List.mem_of_getElem? (i := 138) (by decide +kernel), List.mem_of_getElem? (i := 423) (by decide +kernel), List.mem_of_getElem? (i := 424) (by decide +kernel)⟩
theorem lw_p34 : lw_okq (⟨"Exportcover", "chanceOfSet", "(I)D"⟩, 14) := ⟨⟨by decide +kernel, by decide +kernel⟩, List.mem_of_getElem? (i := 138) (by decide +kernel), List.mem_of_getElem? (i := 790) (by decide +kernel), List.mem_of_getElem? (i := 791) (by decide +kernel)⟩
theorem lw_p35 : lw_okq (⟨"Exportcover", "addLand", "(II)LExportcover$Land;"⟩, 14) := ⟨⟨by decide +kernel, by decide +kernel⟩, List.mem_of_getElem? (i := 138) (by decide +kernel), List.mem_of_getElem? (i := 903) (by decide +kernel), List.mem_of_getElem? (i := 904) (by decide +kernel)⟩
theorem lw_p36 : lw_okq (⟨"java/util/ArrayList", "add", "(Ljava/lang/Object;[Ljava/lang/Object;I)V"⟩, 3) := ⟨⟨by decide +kernel, by decide +kernel⟩, List.mem_of_getElem? (i := 812) (by decide +kernel), List.mem_of_getElem? (i := 948) (by decide +kernel), List.mem_of_getElem? (i := 949) (by decide +kernel)⟩
theorem lw_p37 : lw_okq (⟨"java/util/ArrayList", "grow", "()[Ljava/lang/Object;"⟩, 3) := ⟨⟨by decide +kernel, by decide +kernel⟩, List.mem_of_getElem? (i := 812) (by decide +kernel), List.mem_of_getElem? (i := 952) (by decide +kernel), List.mem_of_getElem? (i := 953) (by decide +kernel)⟩
theorem lw_p38 : lw_okq (⟨"java/util/ArrayList", "grow", "(I)[Ljava/lang/Object;"⟩, 3) := ⟨⟨by decide +kernel, by decide +kernel⟩, List.mem_of_getElem? (i := 812) (by decide +kernel), List.mem_of_getElem? (i := 956) (by decide +kernel), List.mem_of_getElem? (i := 957) (by decide +kernel)⟩
theorem lw_p39 : lw_okq (⟨"Exportcover", "addExporter", "()LExportcover$Exporter;"⟩, 14) := ⟨⟨by decide +kernel, by decide +kernel⟩, List.mem_of_getElem? (i := 138) (by decide +kernel), List.mem_of_getElem? (i := 993) (by decide +kernel), List.mem_of_getElem? (i := 994) (by decide +kernel)⟩
theorem lw_p40 : lw_okq (⟨"Exportcover", "landAt", "(I)LExportcover$Land;"⟩, 14) := ⟨⟨by decide +kernel, by decide +kernel⟩, List.mem_of_getElem? (i := 138) (by decide +kernel), List.mem_of_getElem? (i := 1024) (by decide +kernel), List.mem_of_getElem? (i := 1025) (by decide +kernel)⟩
theorem lw_p41 : lw_okq (⟨"Exportcover", "addBuyer", "(LExportcover$Land;I)LExportcover$Buyer;"⟩, 14) := ⟨⟨by decide +kernel, by decide +kernel⟩, List.mem_of_getElem? (i := 138) (by decide +kernel), List.mem_of_getElem? (i := 1029) (by decide +kernel), List.mem_of_getElem? (i := 1030) (by decide +kernel)⟩
theorem lw_p42 : lw_okq (⟨"Exportcover", "buyerAt", "(I)LExportcover$Buyer;"⟩, 14) := ⟨⟨by decide +kernel, by decide +kernel⟩, List.mem_of_getElem? (i := 138) (by decide +kernel), List.mem_of_getElem? (i := 1080) (by decide +kernel), List.mem_of_getElem? (i := 1081) (by decide +kernel)⟩
theorem lw_p43 : lw_okq (⟨"Exportcover", "exporterAt", "(I)LExportcover$Exporter;"⟩, 14) := ⟨⟨by decide +kernel, by decide +kernel⟩, List.mem_of_getElem? (i := 138) (by decide +kernel), List.mem_of_getElem? (i := 1090) (by decide +kernel), List.mem_of_getElem? (i := 1091) (by decide +kernel)⟩
theorem lw_p44 : lw_okq (⟨"Exportcover", "reasonOf", "(LExportcover$Policy;LExportcover$Buyer;II)I"⟩, 14) := ⟨⟨by decide +kernel, by decide +kernel⟩, List.mem_of_getElem? (i := 138) (by decide +kernel), List.mem_of_getElem? (i := 1225) (by decide +kernel), List.mem_of_getElem? (i := 1226) (by decide +kernel)⟩
theorem lw_p45 : lw_okq (⟨"Exportcover", "refusalOf", "(LExportcover$Policy;LExportcover$Buyer;I)I"⟩, 14) := ⟨⟨by decide +kernel, by decide +kernel⟩, List.mem_of_getElem? (i := 138) (by decide +kernel), List.mem_of_getElem? (i := 1229) (by decide +kernel), List.mem_of_getElem? (i := 1230) (by decide +kernel)⟩
theorem lw_p46 : lw_okq (⟨"Exportcover", "isCoverStopped", "(LExportcover$Policy;LExportcover$Buyer;)Z"⟩, 14) := ⟨⟨by decide +kernel, by decide +kernel⟩, List.mem_of_getElem? (i := 138) (by decide +kernel), List.mem_of_getElem? (i := 1235) (by decide +kernel), List.mem_of_getElem? (i := 1236) (by decide +kernel)⟩
theorem lw_p47 : lw_okq (⟨"Exportcover", "roomFor", "(LExportcover$Policy;LExportcover$Buyer;)I"⟩, 14) := ⟨⟨by decide +kernel, by decide +kernel⟩, List.mem_of_getElem? (i := 138) (by decide +kernel), List.mem_of_getElem? (i := 1243) (by decide +kernel), List.mem_of_getElem? (i := 1244) (by decide +kernel)⟩
def lw_privs_3 : List (MethodName × Nat) := [(⟨"Exportcover", "riskUnder", "(LExportcover$Policy;LExportcover$Buyer;)I"⟩, 14), (⟨"Exportcover", "digestOfShipments", "(J)J"⟩, 14), (⟨"Exportcover", "chanceOfSet", "(I)D"⟩, 14), (⟨"Exportcover", "addLand", "(II)LExportcover$Land;"⟩, 14), (⟨"java/util/ArrayList", "add", "(Ljava/lang/Object;[Ljava/lang/Object;I)V"⟩, 3), (⟨"java/util/ArrayList", "grow", "()[Ljava/lang/Object;"⟩, 3), (⟨"java/util/ArrayList", "grow", "(I)[Ljava/lang/Object;"⟩, 3), (⟨"Exportcover", "addExporter", "()LExportcover$Exporter;"⟩, 14), (⟨"Exportcover", "landAt", "(I)LExportcover$Land;"⟩, 14), (⟨"Exportcover", "addBuyer", "(LExportcover$Land;I)LExportcover$Buyer;"⟩, 14), (⟨"Exportcover", "buyerAt", "(I)LExportcover$Buyer;"⟩, 14), (⟨"Exportcover", "exporterAt", "(I)LExportcover$Exporter;"⟩, 14), (⟨"Exportcover", "reasonOf", "(LExportcover$Policy;LExportcover$Buyer;II)I"⟩, 14), (⟨"Exportcover", "refusalOf", "(LExportcover$Policy;LExportcover$Buyer;I)I"⟩, 14), (⟨"Exportcover", "isCoverStopped", "(LExportcover$Policy;LExportcover$Buyer;)Z"⟩, 14), (⟨"Exportcover", "roomFor", "(LExportcover$Policy;LExportcover$Buyer;)I"⟩, 14)]
theorem lw_r3 : ∀ q ∈ lw_privs_3, lw_okq q := List.forall_mem_cons.mpr ⟨lw_p32, List.forall_mem_cons.mpr ⟨lw_p33, List.forall_mem_cons.mpr ⟨lw_p34, List.forall_mem_cons.mpr ⟨lw_p35, List.forall_mem_cons.mpr ⟨lw_p36, List.forall_mem_cons.mpr ⟨lw_p37, List.forall_mem_cons.mpr ⟨lw_p38, List.forall_mem_cons.mpr ⟨lw_p39, List.forall_mem_cons.mpr ⟨lw_p40, List.forall_mem_cons.mpr ⟨lw_p41, List.forall_mem_cons.mpr ⟨lw_p42, List.forall_mem_cons.mpr ⟨lw_p43, List.forall_mem_cons.mpr ⟨lw_p44, List.forall_mem_cons.mpr ⟨lw_p45, List.forall_mem_cons.mpr ⟨lw_p46, List.forall_mem_cons.mpr ⟨lw_p47, fun _ h => absurd h List.not_mem_nil⟩⟩⟩⟩⟩⟩⟩⟩⟩⟩⟩⟩⟩⟩⟩⟩
theorem lw_p48 : lw_okq (⟨"Exportcover", "spaceIn", "(LExportcover$Land;)I"⟩, 14) := ⟨⟨by decide +kernel, by decide +kernel⟩, List.mem_of_getElem? (i := 138) (by decide +kernel), List.mem_of_getElem? (i := 1248) (by decide +kernel), List.mem_of_getElem? (i := 1249) (by decide +kernel)⟩
theorem lw_p49 : lw_okq (⟨"Exportcover", "insuredOf", "(LExportcover$Policy;LExportcover$Buyer;II)I"⟩, 14) := ⟨⟨by decide +kernel, by decide +kernel⟩, List.mem_of_getElem? (i := 138) (by decide +kernel), List.mem_of_getElem? (i := 1252) (by decide +kernel), List.mem_of_getElem? (i := 1253) (by decide +kernel)⟩
theorem lw_p50 : lw_okq (⟨"Exportcover", "takePremium", "(LExportcover$Shipment;)V"⟩, 14) := ⟨⟨by decide +kernel, by decide +kernel⟩, List.mem_of_getElem? (i := 138) (by decide +kernel), List.mem_of_getElem? (i := 1260) (by decide +kernel), List.mem_of_getElem? (i := 1261) (by decide +kernel)⟩
theorem lw_p51 : lw_okq (⟨"Exportcover", "firstToPay", "(LExportcover$Buyer;)LExportcover$Shipment;"⟩, 14) := ⟨⟨by decide +kernel, by decide +kernel⟩, List.mem_of_getElem? (i := 138) (by decide +kernel), List.mem_of_getElem? (i := 1268) (by decide +kernel), List.mem_of_getElem? (i := 1269) (by decide +kernel)⟩
theorem lw_p52 : lw_okq (⟨"Exportcover", "payBack", "(LExportcover$Shipment;)V"⟩, 14) := ⟨⟨by decide +kernel, by decide +kernel⟩, List.mem_of_getElem? (i := 138) (by decide +kernel), List.mem_of_getElem? (i := 1362) (by decide +kernel), List.mem_of_getElem? (i := 1363) (by decide +kernel)⟩
theorem lw_p53 : lw_okq (⟨"Exportcover", "since", "(IZ)I"⟩, 14) := ⟨⟨by decide +kernel, by decide +kernel⟩, List.mem_of_getElem? (i := 138) (by decide +kernel), List.mem_of_getElem? (i := 1370) (by decide +kernel), List.mem_of_getElem? (i := 1371) (by decide +kernel)⟩
def lw_privs_4 : List (MethodName × Nat) := [(⟨"Exportcover", "spaceIn", "(LExportcover$Land;)I"⟩, 14), (⟨"Exportcover", "insuredOf", "(LExportcover$Policy;LExportcover$Buyer;II)I"⟩, 14), (⟨"Exportcover", "takePremium", "(LExportcover$Shipment;)V"⟩, 14), (⟨"Exportcover", "firstToPay", "(LExportcover$Buyer;)LExportcover$Shipment;"⟩, 14), (⟨"Exportcover", "payBack", "(LExportcover$Shipment;)V"⟩, 14), (⟨"Exportcover", "since", "(IZ)I"⟩, 14)]
theorem lw_r4 : ∀ q ∈ lw_privs_4, lw_okq q := List.forall_mem_cons.mpr ⟨lw_p48, List.forall_mem_cons.mpr ⟨lw_p49, List.forall_mem_cons.mpr ⟨lw_p50, List.forall_mem_cons.mpr ⟨lw_p51, List.forall_mem_cons.mpr ⟨lw_p52, List.forall_mem_cons.mpr ⟨lw_p53, fun _ h => absurd h List.not_mem_nil⟩⟩⟩⟩⟩⟩
def lw_privs : List (MethodName × Nat) := lw_privs_1 ++ (lw_privs_2 ++ (lw_privs_3 ++ (lw_privs_4)))
def lw_tbl : List Cond := k2_sels lw_privs ++ tables_1
theorem lw_privs_ok : ∀ q ∈ lw_privs, lw_okq q := by
  show ∀ q ∈ lw_privs_1 ++ (lw_privs_2 ++ (lw_privs_3 ++ (lw_privs_4))), lw_okq q
  exact List.forall_mem_append.mpr ⟨lw_r1, List.forall_mem_append.mpr ⟨lw_r2, List.forall_mem_append.mpr ⟨lw_r3, lw_r4⟩⟩⟩
/-- the streams that the claim lets the run draw from -/
abbrev lw_cs : List Choice := [Jvm.Choice.named "NaN.bits"]
theorem lw_bits : nanBits ∈ lw_cs := by first | decide | exact List.mem_cons_self | simp [lw_cs, nanBits]

/-! ===== BEGIN words of one list among another's, by their places ===== -/
theorem goodIn_r {big : List Cond} (ws : List Cond) (ps : List Nat) (hp : ws = ps.filterMap (fun i => big[i]?)) (h : ws.all goodWord = true) : GoodIn big ws := by
  intro w hw
  have h1 := List.all_eq_true.mp h w hw
  rw [hp] at hw
  obtain ⟨i, -, hi⟩ := List.mem_filterMap.mp hw
  have hm : w ∈ big := by first | exact List.mem_of_getElem? hi | exact List.getElem?_mem hi
  exact ⟨hm, good_of_word h1⟩
theorem goodIn_app {big a b : List Cond} (ha : GoodIn big a) (hb : GoodIn big b) : GoodIn big (a ++ b) := fun w h => (List.mem_append.mp h).elim (ha w) (hb w)
theorem goodIn_ca {big a b : List Cond} {c : Cond} (ha : GoodIn big (c :: a)) (hb : GoodIn big b) : GoodIn big (c :: (a ++ b)) := fun w h => (List.mem_cons.mp h).elim (fun e => ha w (List.mem_cons.mpr (Or.inl e))) (fun h => (List.mem_append.mp h).elim (fun h => ha w (List.mem_cons.mpr (Or.inr h))) (hb w))
theorem goodIn_sub {big ws : List Cond} (hm : ∀ w ∈ ws, w ∈ big) (h : ws.all goodWord = true) : GoodIn big ws := fun w hw => ⟨hm w hw, good_of_word (List.all_eq_true.mp h w hw)⟩
/-! ===== END ===== -/

/-! ===== BEGIN exceptions that leave a method, and their catching by the caller (launches without stack traces) ===== -/
section VXA
/-! The laws vx_back, vx_callV, vx_callS, vx_callSW, vx_throw0, vx_throwS follow proofs of the library, with one case more: JvmDerived/Free/Laws.lean (Back.of_free), Shelf42/LK1.lean (callV, callS), Shelf/KitTraced.lean (throwNew0V, throwNewS). -/
/-- where a method has thrown q: the class by its name, the cell, what was written, the world -/
def vx_T (XC : String → State → State → Prop) (st : State) (q : Addr) (t : State) (mc ms : Nat) (free : Addr → Prop) : Prop :=
  ∃ (E : String) (ce : Cell) (L : List Loc), XC E st t ∧ t.heap[q]? = some ce ∧ ce.vm = .none ∧ st.vm.findClass E = some ce.cls ∧ st.WarmedH t.vm ∧ st.sameButNew ({ t with vm := st.vm } : State) L mc ms ∧ ∀ z ∈ L, free z.base
def vx_Q (Qc : Array Value → State → Outcome → State → Prop) (XC : String → State → State → Prop) (mc ms : Nat) (free : Addr → Prop) : Array Value → State → Outcome → State → Prop := fun a st o t =>
  (Qc a st o t ∧ ∃ L, FrameEnd st o t L mc ms ∧ ∀ q ∈ L, free q.base) ∨ ∃ q, o = .threw q ∧ vx_T XC st q t mc ms free
/-- a callee that returns or throws -/
def vx_Met (l : Launch) (y : MethodName) (ws : List Cond) (rm : Room) (Pc : Array Value → State → Prop) (Qc : Array Value → State → Outcome → State → Prop) (XC : String → State → State → Prop) (mc ms : Nat) (free : Addr → Prop) : Prop :=
  MetFree l y (headSpec ws rm) Pc (fun _ _ _ _ _ => True) (vx_Q Qc XC mc ms free)
def vx_Post (XC : String → State → State → Prop) (mc ms : Nat) (free : Addr → Prop) : Pt → Array Value → Addr → Pt → Prop := fun A a q B =>
  ∃ (g : JFrame) (mk : MethodId) (t : State) (L : List Loc) (E : String) (ce : Cell), B.U.heap = t.heap ∧ B.U.vm = t.vm ∧ XC E (A.U.calling g mk a) t ∧ t.heap[q]? = some ce ∧ ce.vm = .none ∧ A.U.vm.findClass E = some ce.cls ∧ B.locs = A.locs ++ L ∧ (∀ z ∈ L, free z.base) ∧ B.cells = A.cells + mc ∧ B.slots = A.slots + ms
def vx_Back (l : Launch) (R : Room) (p : Program) (e : Env) (below : List Frame) (s : State) (sargs : Array Value) (y : MethodName) (len W9 : Nat)
    (Pre : Pt → Array Value → Prop) (Post : Pt → Array Value → Option Value → Pt → Prop) (PostX : Pt → Array Value → Addr → Pt → Prop) : Prop :=
  ∀ (m : MethodId) (meth : Method) (c : Code) (A : Pt) (g : JFrame) (ig : Instr) (mk : MethodId) (a : Array Value),
    Stand p l e R s m sargs below meth c A.U A.locs A.cells A.slots → g.method = m → g.locals.size = c.maxLocals → decode c.code g.pc = .ok (ig, len) →
    2 * g.monitorRoom + (g.stack.map fun v => v.category).sum ≤ W9 → A.U.methodNamed? y = some mk → Pre A a →
    (∃ (v : Option Value) (B : Pt), Stand p l e R s m sargs below meth c B.U B.locs B.cells B.slots ∧ Post A a v B ∧
      Steps p.tables e below (doInvoke e (A.U.setTop g) [] mk a).1 (B.U.setTop { g with pc := g.pc + len, stack := v.toList ++ g.stack })) ∨
    (∃ (q : Addr) (B : Pt), Stand p l e R s m sargs below meth c B.U B.locs B.cells B.slots ∧ PostX A a q B ∧
      Steps p.tables e below (doInvoke e (A.U.setTop g) [] mk a).1 ((B.U.setTop g).pushFrame (.throwing q)))
section Payer
variable {l : Launch} {R : Room} {p : Program} {e : Env} {below : List Frame} {s : State} {sargs : Array Value} {y : MethodName} {len W9 : Nat}
theorem vx_back {ws : List Cond} {rm : Room} {Pc : Array Value → State → Prop} {Qc : Array Value → State → Outcome → State → Prop} {XC : String → State → State → Prop} {mc ms : Nat} {free : Addr → Prop} {bytes : ByteArray} {maxL : Nat} {ret : Option FieldType}
    (hM : vx_Met l y ws rm Pc Qc XC mc ms free) (hblind : FrameBlind Pc) (hrc : rm.cells = mc) (hrs : rm.slots = ms)
    (hframes : rm.frames + 1 ≤ R.frames) (hlocals : W9 + (maxL + 11) + rm.locals ≤ R.locals)
    (hws : ∀ w ∈ ws, ∀ a' U, s.WarmedH U.vm → w.before a' U = true) (hcode : Cond.code y bytes maxL ret ∈ ws) (hinit : ∀ a' U, s.WarmedH U.vm → (Cond.initialized y.cls).before a' U = true) :
    vx_Back l R p e below s sargs y len W9 (PreOf R mc ms Pc) (PostOf Qc mc ms free) (vx_Post XC mc ms free) := by
  intro m meth c A g ig mk a X hg hsize hdg hW hn hp
  have h1 : (headSpec ws rm).pre.before a A.U = true := atoms_intro fun w hw => hws w hw _ _ X.warmed
  have h2 : (Cond.code y bytes maxL ret).before a A.U = true := hws _ hcode _ _ X.warmed
  have h3 : (Cond.initialized y.cls).before a A.U = true := hinit _ _ X.warmed
  have h4 : A.cells + (headSpec ws rm).room.cells ≤ R.cells := by rw [show (headSpec ws rm).room.cells = mc from hrc]; exact hp.1
  have h5 : A.slots + (headSpec ws rm).room.slots ≤ R.slots := by rw [show (headSpec ws rm).room.slots = ms from hrs]; exact hp.2.1
  have hPc : Pc a (A.U.calling g mk a) := hblind _ _ _ _ hp.2.2
  obtain ⟨U, Ls, c0, s0⟩ := A
  dsimp only [Pt.U, Pt.locs, Pt.cells, Pt.slots] at h1 h2 h3 h4 h5 X hn hPc ⊢
  obtain ⟨methY, cY, hmY, hcY, -, hlY, -, -, -, -⟩ := Cond.code_spec hn h2
  obtain ⟨kY, hkY, -⟩ := className_of_methodNamed hn
  have hinitY : kY.init = .initialized := Cond.initialized_spec (findClass_of_methodNamed hn) hkY h3
  have h : At U g.method c below := by rw [hg]; exact X.here
  have hlocals9 : W9 + (maxL + 11) + (headSpec ws rm).room.locals ≤ R.locals := hlocals
  have happ : (headSpec ws rm).appliesLoose y e.platform (U.calling g mk a) = true :=
    Spec.appliesLoose_calling (g := g) h hdg hn hkY hinitY
      (X.room_calling (g := g) (R' := (headSpec ws rm).room) hsize hmY hcY hframes (by rw [hlY]; omega) h4 h5) h1
  obtain ⟨mid, hmid⟩ := h.above
  have hfr : (U.setTop g).frames = (.java g :: mid) ++ below := by rw [State.frames_setTop' g h.top, hmid]; rfl
  obtain ⟨o, s₂, hsteps, -, hend, hq⟩ := Steps.callFree hM p X.admits X.cas X.clock (acts := []) hfr happ hPc trivial
  have hq' : vx_Q Qc XC mc ms free a (U.calling g mk a) o s₂ := hq
  rw [State.frames_setTop' g h.top] at hend
  obtain ⟨g₀, hg0⟩ := Option.isSome_iff_exists.mp h.top
  obtain ⟨r, hr⟩ := State.topJava?_eq_some.mp hg0
  have hr' : (({ U with heap := s₂.heap, slotsUsed := s₂.slotsUsed } : State).setVm s₂.vm).frames = .java g₀ :: r := hr
  rcases hq' with ⟨hqc, L, hfe, hL⟩ | ⟨q, rfl, E, ce, L, hx, hce, hcv, hcl, hW₂, hsm, hL⟩
  · obtain ⟨⟨v, rfl⟩, hW₂, e2, q2, q3, q4, q5, q6⟩ := id hfe
    have e3 : s₂ = ({ (U.calling g mk a).setFrames s₂.frames with heap := s₂.heap, slotsUsed := s₂.slotsUsed } : State).setVm s₂.vm := by
      have : s₂ = ({ s₂ with vm := (U.calling g mk a).vm } : State).setVm s₂.vm := rfl
      rw [e2] at this
      exact this
    obtain ⟨c₂, i₂, len₂, hc₂, hd₂, hf₂⟩ := hend
    have hW' : U.WarmedH s₂.vm := hW₂
    have hcc : c₂ = c := by
      have h1 : s₂.code? g.method = U.code? g.method := by
        rw [State.code?_eq, State.code?_eq, hW'.alike.method?]
      exact Option.some.inj (hc₂.symm.trans (h1.trans h.code))
    subst hcc
    have hlen : len₂ = len := by rw [hdg] at hd₂; cases hd₂; rfl
    subst hlen
    have hs₂ : s₂ = (({ U with heap := s₂.heap, slotsUsed := s₂.slotsUsed } : State).setVm s₂.vm).setTop { g with pc := g.pc + len₂, stack := v.toList ++ g.stack } := by
      refine e3.trans ?_
      rw [hf₂, State.calling_eq h.top, State.setFrames_setFrames, State.setTop_of_frames _ hr', hr]
      rfl
    have hsame : U.sameButNew ({ U with heap := s₂.heap, slotsUsed := s₂.slotsUsed } : State) L mc ms := by
      refine ⟨?_, q2, q3, q4, q5, q6⟩
      obtain ⟨t, ht, -⟩ := State.frames_cons hr
      show ({ U with heap := s₂.heap, slotsUsed := s₂.slotsUsed } : State) = { U.setFrames U.frames with heap := s₂.heap, slotsUsed := s₂.slotsUsed }
      rw [State.setFrames_self ht]
    subst hg
    refine Or.inl ⟨v, ⟨(({ U with heap := s₂.heap, slotsUsed := s₂.slotsUsed } : State).setVm s₂.vm), Ls ++ L, c0 + mc, s0 + ms⟩,
      ⟨X.admits, X.cas, X.clock, X.frames, X.room, X.hears, X.method, X.code, (X.here.setHeapUsed s₂.heap s₂.slotsUsed).setVm hW'.alike, X.tail, State.WarmedH.trans X.warmed hW', X.limits, X.bytes, X.same.trans (hsame.setVm s.vm)⟩,
      ⟨g, mk, s₂, L, rfl, rfl, hqc, rfl, hL, rfl, rfl⟩, ?_⟩
    show Steps p.tables e below _ ((({ U with heap := s₂.heap, slotsUsed := s₂.slotsUsed } : State).setVm s₂.vm).setTop { g with pc := g.pc + len₂, stack := v.toList ++ g.stack })
    rw [← hs₂]
    exact hsteps
  · obtain ⟨e2, q2, q3, q4, q5, q6⟩ := id hsm
    have e3 : s₂ = ({ (U.calling g mk a).setFrames s₂.frames with heap := s₂.heap, slotsUsed := s₂.slotsUsed } : State).setVm s₂.vm := by
      have : s₂ = ({ s₂ with vm := (U.calling g mk a).vm } : State).setVm s₂.vm := rfl
      rw [e2] at this
      exact this
    have hf₂ : s₂.frames = .throwing q :: .java g :: U.frames.tail := hend
    have hW' : U.WarmedH s₂.vm := hW₂
    have hs₂ : s₂ = ((({ U with heap := s₂.heap, slotsUsed := s₂.slotsUsed } : State).setVm s₂.vm).setTop g).pushFrame (.throwing q) := by
      refine e3.trans ?_
      rw [hf₂, State.calling_eq h.top, State.setFrames_setFrames, State.pushFrame, State.frames_setTop _ hr', State.setTop_of_frames _ hr', State.setFrames_setFrames, hr]
      rfl
    have hsame : U.sameButNew ({ U with heap := s₂.heap, slotsUsed := s₂.slotsUsed } : State) L mc ms := by
      refine ⟨?_, q2, q3, q4, q5, q6⟩
      obtain ⟨t, ht, -⟩ := State.frames_cons hr
      show ({ U with heap := s₂.heap, slotsUsed := s₂.slotsUsed } : State) = { U.setFrames U.frames with heap := s₂.heap, slotsUsed := s₂.slotsUsed }
      rw [State.setFrames_self ht]
    subst hg
    refine Or.inr ⟨q, ⟨(({ U with heap := s₂.heap, slotsUsed := s₂.slotsUsed } : State).setVm s₂.vm), Ls ++ L, c0 + mc, s0 + ms⟩,
      ⟨X.admits, X.cas, X.clock, X.frames, X.room, X.hears, X.method, X.code, (X.here.setHeapUsed s₂.heap s₂.slotsUsed).setVm hW'.alike, X.tail, State.WarmedH.trans X.warmed hW', X.limits, X.bytes, X.same.trans (hsame.setVm s.vm)⟩,
      ⟨g, mk, s₂, L, E, ce, rfl, rfl, hx, hce, hcv, hcl, rfl, hL, rfl, rfl⟩, ?_⟩
    show Steps p.tables e below _ (((({ U with heap := s₂.heap, slotsUsed := s₂.slotsUsed } : State).setVm s₂.vm).setTop g).pushFrame (.throwing q))
    rw [← hs₂]
    exact hsteps
end Payer
section Calls
variable {p : Program} {l : Launch} {e : Env} {R : Room} {s : State} {m : MethodId} {args : Array Value} {below : List Frame} {meth : Method} {c : Code} {T : State} {locs : List Loc} {cells slots : Nat}
theorem vx_callV (X : Stand p l e R s m args below meth c T locs cells slots) (hexec : p.tables.exec = Jvm.exec) {own C : String} {index : Nat} {y : MethodName} {bytes : ByteArray} {maxL : Nat} {ret : Option FieldType}
    (hown : s.vm.findClass own = some m.cls) (hlink : (Cond.methodLink own index y).before args s = true) (hinst : (Cond.instanceMethod y).before args s = true) (hsel : (Cond.selects C y y).before args s = true)
    (hcode : (Cond.code y bytes maxL ret).before args s = true) (hy : y.cls ≠ "java/lang/invoke/MethodHandle" ∧ y.cls ≠ "java/lang/invoke/VarHandle")
    {W9 : Nat} {Pre : Pt → Array Value → Prop} {Post : Pt → Array Value → Option Value → Pt → Prop} {PostX : Pt → Array Value → Addr → Pt → Prop} (hK : vx_Back l R p e below s args y 3 W9 Pre Post PostX)
    {b : Addr} {cellB : Cell} (hcell : T.heap[b]? = some cellB) (hobj : cellB.vm.isStatics = false) (hcls : s.vm.findClass C = some cellB.cls)
    {g : JFrame} (hg : g.method = m) (hsize : g.locals.size = c.maxLocals) {argsL rest : List Value} (hlen : ∀ sig, parseMethodDescriptor y.desc = some sig → argsL.length = sig.parameters.length)
    (hstack : g.stack = argsL.reverse ++ .ref b :: rest) (hW : 2 * g.monitorRoom + (rest.map fun v => v.category).sum ≤ W9) (hdg : decode c.code g.pc = .ok (.invokevirtual index, 3))
    (hpre : ∀ vm₁, s.WarmedH vm₁ → Pre ⟨T.setVm vm₁, locs, cells, slots⟩ (Value.ref b :: argsL).toArray) :
    (∃ (v : Option Value) (vm₁ : Vm) (B : Pt), s.WarmedH vm₁ ∧ Stand p l e R s m args below meth c B.U B.locs B.cells B.slots ∧ Post ⟨T.setVm vm₁, locs, cells, slots⟩ (Value.ref b :: argsL).toArray v B ∧
      ∀ target, Steps p.tables e below (B.U.setTop { g with pc := g.pc + 3, stack := v.toList ++ rest }) target → Steps p.tables e below (T.setTop g) target) ∨
    (∃ (q : Addr) (vm₁ : Vm) (B : Pt), s.WarmedH vm₁ ∧ Stand p l e R s m args below meth c B.U B.locs B.cells B.slots ∧ PostX ⟨T.setVm vm₁, locs, cells, slots⟩ (Value.ref b :: argsL).toArray q B ∧
      Steps p.tables e below (T.setTop g) ((B.U.setTop { g with stack := rest }).pushFrame (.throwing q))) := by
  obtain ⟨mk, methM, hnamed, hmethM, hstM, habM⟩ := Cond.instanceMethod_spec hinst
  obtain ⟨methM', cM, hmethM', -, -, -, -, -, -, hsigM⟩ := Cond.code_spec hnamed hcode
  cases hmethM.symm.trans hmethM'
  obtain ⟨c2, r2, m2, q1, q2, q3, q4, kP, hkP, hkPi⟩ := Cond.selects_spec hsel
  cases hcls.symm.trans q1
  cases (State.methodFound?_of_named hnamed hy).symm.trans q2
  cases hnamed.symm.trans q3
  have hselP : selectMethod e.platform s.vm cellB.cls mk = .method mk := by rw [Launch.admits_selectMethod X.admits]; exact q4
  obtain ⟨vm₁, X₁, hstep₁⟩ := X.invokevirtual hexec hown hlink hnamed hmethM hstM hkP hkPi hy (a := b) (cell := cellB) hcell
    (fun z h => by rw [h] at hobj; cases hobj) hselP hmethM habM hkP hkPi (g := g) hg (argsL := argsL) (rest := rest) (hlen _ hsigM) hstack hdg
  rcases hK m meth c ⟨T.setVm vm₁, locs, cells, slots⟩ { g with stack := rest } (.invokevirtual index) mk (Value.ref b :: argsL).toArray X₁ hg hsize hdg hW (X₁.named hnamed) (hpre vm₁ X₁.warmed) with ⟨v, B, X', hpost, hsteps⟩ | ⟨q, B, X', hpost, hsteps⟩
  · exact Or.inl ⟨v, vm₁, B, X₁.warmed, X', hpost, fun target h => hstep₁ _ fun acts => by rw [doInvoke_state]; exact hsteps.trans h⟩
  · exact Or.inr ⟨q, vm₁, B, X₁.warmed, X', hpost, hstep₁ _ fun acts => by rw [doInvoke_state]; exact hsteps⟩
theorem vx_callS (X : Stand p l e R s m args below meth c T locs cells slots) (hexec : p.tables.exec = Jvm.exec) {own : String} {index : Nat} {y : MethodName} {bytes : ByteArray} {maxL : Nat} {ret : Option FieldType}
    (hown : s.vm.findClass own = some m.cls) (hlink : (Cond.methodLink own index y).before args s = true) (hstat : (Cond.static y).before args s = true) (hinit : (Cond.initialized y.cls).before args s = true)
    (hcode : (Cond.code y bytes maxL ret).before args s = true) (hy : y.cls ≠ "java/lang/invoke/MethodHandle" ∧ y.cls ≠ "java/lang/invoke/VarHandle")
    {W9 : Nat} {Pre : Pt → Array Value → Prop} {Post : Pt → Array Value → Option Value → Pt → Prop} {PostX : Pt → Array Value → Addr → Pt → Prop} (hK : vx_Back l R p e below s args y 3 W9 Pre Post PostX)
    {g : JFrame} (hg : g.method = m) (hsize : g.locals.size = c.maxLocals) {argsL rest : List Value} (hlen : ∀ sig, parseMethodDescriptor y.desc = some sig → argsL.length = sig.parameters.length)
    (hstack : g.stack = argsL.reverse ++ rest) (hW : 2 * g.monitorRoom + (rest.map fun v => v.category).sum ≤ W9) (hdg : decode c.code g.pc = .ok (.invokestatic index, 3))
    (hpre : ∀ vm₁, s.WarmedH vm₁ → Pre ⟨T.setVm vm₁, locs, cells, slots⟩ argsL.toArray) :
    (∃ (v : Option Value) (vm₁ : Vm) (B : Pt), s.WarmedH vm₁ ∧ Stand p l e R s m args below meth c B.U B.locs B.cells B.slots ∧ Post ⟨T.setVm vm₁, locs, cells, slots⟩ argsL.toArray v B ∧
      ∀ target, Steps p.tables e below (B.U.setTop { g with pc := g.pc + 3, stack := v.toList ++ rest }) target → Steps p.tables e below (T.setTop g) target) ∨
    (∃ (q : Addr) (vm₁ : Vm) (B : Pt), s.WarmedH vm₁ ∧ Stand p l e R s m args below meth c B.U B.locs B.cells B.slots ∧ PostX ⟨T.setVm vm₁, locs, cells, slots⟩ argsL.toArray q B ∧
      Steps p.tables e below (T.setTop g) ((B.U.setTop { g with stack := rest }).pushFrame (.throwing q))) := by
  obtain ⟨mk, hnamed⟩ := Cond.code_named hcode
  obtain ⟨methM, cM, hmethM, -, -, -, -, -, -, hsigM⟩ := Cond.code_spec hnamed hcode
  have hstatic : methM.isStatic = true := Cond.static_spec hnamed hmethM hstat
  obtain ⟨kP, hkP, -⟩ := className_of_methodNamed hnamed
  have hinitP : kP.init = .initialized := Cond.initialized_spec (findClass_of_methodNamed hnamed) hkP hinit
  obtain ⟨vm₁, X₁, hstep₁⟩ := X.invokestatic hexec hown hlink hnamed hmethM hstatic hkP hinitP hy (g := g) hg (argsL := argsL) (rest := rest) (hlen _ hsigM) hstack hdg
  rcases hK m meth c ⟨T.setVm vm₁, locs, cells, slots⟩ { g with stack := rest } (.invokestatic index) mk argsL.toArray X₁ hg hsize hdg hW (X₁.named hnamed) (hpre vm₁ X₁.warmed) with ⟨v, B, X', hpost, hsteps⟩ | ⟨q, B, X', hpost, hsteps⟩
  · exact Or.inl ⟨v, vm₁, B, X₁.warmed, X', hpost, fun target h => hstep₁ _ fun acts => by rw [doInvoke_state]; exact hsteps.trans h⟩
  · exact Or.inr ⟨q, vm₁, B, X₁.warmed, X', hpost, hstep₁ _ fun acts => by rw [doInvoke_state]; exact hsteps⟩
end Calls
theorem vx_cls {s : State} {T : State} {vm₁ : Vm} {E : String} {k : ClassId} (hW : s.WarmedH vm₁) (h : (T.setVm vm₁).vm.findClass E = some k) : s.vm.findClass E = some k := by
  have h1 : vm₁.findClass E = some k := h
  rw [hW.alike.findClass] at h1
  exact h1
/-- the method's frame g, with q thrown over it -/
def vx_W (p : Program) (l : Launch) (e : Env) (R : Room) (s : State) (m : MethodId) (args : Array Value) (below : List Frame) (meth : Method) (c : Code) (H : Heap) (locs : List Loc) (cells slots : Nat) (Q : State → Prop) (g : JFrame) (q : Addr) : Prop :=
  ∀ T : State, T.heap = H → Stand p l e R s m args below meth c T locs cells slots → ∃ t, Steps p.tables e below ((T.setTop g).pushFrame (.throwing q)) t ∧ Q t
def vx_Run (p : Program) (l : Launch) (e : Env) (R : Room) (s : State) (m : MethodId) (args : Array Value) (below : List Frame) (meth : Method) (c : Code) (H : Heap) (locs : List Loc) (cells slots mc ms : Nat) (g : JFrame) (rest : List Value) (Qa : State → Outcome → State → Prop) (XC : String → State → State → Prop) (free : Addr → Prop) : Prop :=
  ∀ T : State, T.heap = H → Stand p l e R s m args below meth c T locs cells slots →
    (∃ (v : Option Value) (st₀ t T' : State) (L : List Loc), st₀.heap = H ∧ Stand p l e R s m args below meth c T' (locs ++ L) (cells + mc) (slots + ms) ∧ (∀ q ∈ L, free q.base) ∧ T'.heap = t.heap ∧ T'.vm = t.vm ∧ Qa st₀ (.returned v) t ∧
      Goes p e below T g T' { g with pc := g.pc + 3, stack := v.toList ++ rest }) ∨
    (∃ (q : Addr) (st₀ t T' : State) (L : List Loc) (E : String) (ce : Cell), st₀.heap = H ∧ Stand p l e R s m args below meth c T' (locs ++ L) (cells + mc) (slots + ms) ∧ (∀ z ∈ L, free z.base) ∧ T'.heap = t.heap ∧ T'.vm = t.vm ∧ XC E st₀ t ∧ t.heap[q]? = some ce ∧ ce.vm = .none ∧ s.vm.findClass E = some ce.cls ∧
      Steps p.tables e below (T.setTop g) ((T'.setTop { g with stack := rest }).pushFrame (.throwing q)))
def vx_X {S : Type} (px : S → Prop) (B : String → S → State → Prop) (A : Nat → Prop) : String → State → State → Prop := fun E st t => ∃ u : S, px u ∧ B E u t ∧ va_F A st t
section Runs
variable {p : Program} {l : Launch} {e : Env} {R : Room} {s : State} {m : MethodId} {args : Array Value} {below : List Frame} {meth : Method} {c : Code} {H : Heap} {locs : List Loc} {cells slots : Nat}
variable {y : MethodName} {bytes cc : ByteArray} {maxL nL mc ms n index : Nat} {ret : Option FieldType} {ws : List Cond} {rm : Room} {Pc : Array Value → State → Prop} {Qc : Array Value → State → Outcome → State → Prop} {XC : String → State → State → Prop} {free : Addr → Prop} {Ts : List Cond} {own C : String} {b : Addr} {As rest : List Value} {g : JFrame}
theorem vx_callBack (cb : CallB R s args own index y bytes maxL ret ws rm mc ms n) (hM : vx_Met l y ws rm Pc Qc XC mc ms free) (hbl : FrameBlind Pc) : vx_Back l R p e below s args y 3 8 (PreOf R mc ms Pc) (PostOf Qc mc ms free) (vx_Post XC mc ms free) := by
  obtain ⟨hrc, hrs, hfr, hlo, hws, hcw, -, hini, -⟩ := cb
  exact vx_back (bytes := bytes) (maxL := maxL) (ret := ret) hM hbl hrc hrs hfr hlo hws hcw (fun a' U hW => word_at hW (Or.inl (by first | rfl | simp [Cond.onTables, Cond.keeps, Cond.steady])) hini)
theorem vx_runV (S : CallFix p m c cc nL s args Ts own) (hM : vx_Met l y ws rm Pc Qc XC mc ms free) (cw : CallW R s args own C index y bytes maxL ret ws rm mc ms n) (hp : PreV s H C b Pc As)
    (hg : g.method = m) (hn : As.length = n) (hsize : g.locals.size = nL) (hstack : g.stack = As.reverse ++ .ref b :: rest) (hW : 2 * g.monitorRoom + (rest.map fun v => v.category).sum ≤ 8) (hdg : decode cc g.pc = .ok (.invokevirtual index, 3)) (hf : cells + mc ≤ R.cells ∧ slots + ms ≤ R.slots) :
    vx_Run p l e R s m args below meth c H locs cells slots mc ms g rest (Qc (Value.ref b :: As).toArray) XC free := by
  have hK : vx_Back l R p e below s args y 3 8 (PreOf R mc ms Pc) (PostOf Qc mc ms free) (vx_Post XC mc ms free) := vx_callBack cw.1 hM hp.1
  obtain ⟨⟨-, -, -, -, -, -, hcode, -, hy, hlen, hl⟩, hin, hse⟩ := cw
  obtain ⟨hx, hb, hml, ho, -⟩ := S
  obtain ⟨-, ⟨cellB, hcB, hoB, hclB⟩, hPc⟩ := hp
  intro T hT X
  rcases vx_callV X hx (C := C) (bytes := bytes) (maxL := maxL) (ret := ret) ho hl hin hse hcode hy hK (by rw [hT]; exact hcB) hoB hclB hg (hsize.trans hml.symm) (argsL := As) (rest := rest) (fun sig h => hn.trans (hlen sig h)) hstack hW (by rw [hb]; exact hdg)
    (fun vm₁ hW₁ => ⟨hf.1, hf.2, hPc (T.setVm vm₁) hT hW₁⟩) with ⟨v, vm₁, ⟨U', l2, c2, s2⟩, hW₁, X', ⟨g', mk, t, L, e1, e2, hq, h1, hL, h2, h3⟩, st⟩ | ⟨q, vm₁, ⟨U', l2, c2, s2⟩, hW₁, X', ⟨g', mk, t, L, E, ce, e1, e2, hq, hce, hcv, hcl, h1, hL, h2, h3⟩, st⟩
  · dsimp only [Pt.U, Pt.locs, Pt.cells, Pt.slots] at X' e1 e2 h1 h2 h3 st
    subst h1; subst h2; subst h3
    exact Or.inl ⟨v, (T.setVm vm₁).calling g' mk (Value.ref b :: As).toArray, t, U', L, hT, X', hL, e1, e2, hq, st⟩
  · dsimp only [Pt.U, Pt.locs, Pt.cells, Pt.slots] at X' e1 e2 h1 h2 h3 st hcl
    subst h1; subst h2; subst h3
    exact Or.inr ⟨q, (T.setVm vm₁).calling g' mk (Value.ref b :: As).toArray, t, U', L, E, ce, hT, X', hL, e1, e2, hq, hce, hcv, vx_cls hW₁ hcl, st⟩
theorem vx_runS (S : CallFix p m c cc nL s args Ts own) (hM : vx_Met l y ws rm Pc Qc XC mc ms free) (cw : CallB R s args own index y bytes maxL ret ws rm mc ms n ∧ (Cond.static y).before args s = true) (hp : PreS s H Pc As)
    (hg : g.method = m) (hn : As.length = n) (hsize : g.locals.size = nL) (hstack : g.stack = As.reverse ++ rest) (hW : 2 * g.monitorRoom + (rest.map fun v => v.category).sum ≤ 8) (hdg : decode cc g.pc = .ok (.invokestatic index, 3)) (hf : cells + mc ≤ R.cells ∧ slots + ms ≤ R.slots) :
    vx_Run p l e R s m args below meth c H locs cells slots mc ms g rest (Qc As.toArray) XC free := by
  have hK : vx_Back l R p e below s args y 3 8 (PreOf R mc ms Pc) (PostOf Qc mc ms free) (vx_Post XC mc ms free) := vx_callBack cw.1 hM hp.1
  obtain ⟨⟨-, -, -, -, -, -, hcode, hini, hy, hlen, hl⟩, hstt⟩ := cw
  obtain ⟨hx, hb, hml, ho, -⟩ := S
  intro T hT X
  rcases vx_callS X hx (bytes := bytes) (maxL := maxL) (ret := ret) ho hl hstt hini hcode hy hK hg (hsize.trans hml.symm) (argsL := As) (rest := rest) (fun sig h => hn.trans (hlen sig h)) hstack hW (by rw [hb]; exact hdg)
    (fun vm₁ hW₁ => ⟨hf.1, hf.2, hp.2 (T.setVm vm₁) hT hW₁⟩) with ⟨v, vm₁, ⟨U', l2, c2, s2⟩, hW₁, X', ⟨g', mk, t, L, e1, e2, hq, h1, hL, h2, h3⟩, st⟩ | ⟨q, vm₁, ⟨U', l2, c2, s2⟩, hW₁, X', ⟨g', mk, t, L, E, ce, e1, e2, hq, hce, hcv, hcl, h1, hL, h2, h3⟩, st⟩
  · dsimp only [Pt.U, Pt.locs, Pt.cells, Pt.slots] at X' e1 e2 h1 h2 h3 st
    subst h1; subst h2; subst h3
    exact Or.inl ⟨v, (T.setVm vm₁).calling g' mk As.toArray, t, U', L, hT, X', hL, e1, e2, hq, st⟩
  · dsimp only [Pt.U, Pt.locs, Pt.cells, Pt.slots] at X' e1 e2 h1 h2 h3 st hcl
    subst h1; subst h2; subst h3
    exact Or.inr ⟨q, (T.setVm vm₁).calling g' mk As.toArray, t, U', L, E, ce, hT, X', hL, e1, e2, hq, hce, hcv, vx_cls hW₁ hcl, st⟩
end Runs
section Rows
variable {p : Program} {l : Launch} {e : Env} {R : Room} {s : State} {m : MethodId} {args : Array Value} {below : List Frame} {meth : Method} {c : Code} {H : Heap} {locs : List Loc} {cells slots : Nat} {Q : State → Prop}
variable {mc ms : Nat} {free : Addr → Prop} {A0 A1 : Nat → Prop} {H0 : Heap} {a : Array Value} {pc : Nat} {ls : Array Slot} {st0 rest : List Value}
theorem vx_keep {st₀ t T' : State} {L : List Loc} (h0 : st₀.heap = H) (e1 : T'.heap = t.heap) (hS : va_S A0 H0 H locs) (hA : ∀ q, q < H.size → A1 q → A0 q) (hf : ∀ q, free q → A0 q) (hL : ∀ q ∈ L, free q.base) (hF : va_F A1 st₀ t) :
    H.size ≤ T'.heap.size ∧ (∀ q : Nat, q < H.size → ¬ A1 q → T'.heap[q]? = H[q]?) ∧ va_S A0 H0 T'.heap (locs ++ L) := by
  obtain ⟨hz, hk⟩ := hF
  rw [h0] at hz hk
  exact ⟨by rw [e1]; exact hz, fun q h1 h2 => by rw [e1]; exact hk q h1 h2,
    ⟨Nat.le_trans hS.1 (by rw [e1]; exact hz), fun q h1 h2 => by rw [e1, hk q (Nat.lt_of_lt_of_le h1 hS.1) (fun z => h2 (hA q (Nat.lt_of_lt_of_le h1 hS.1) z))]; exact hS.2.1 q h1 h2, fun q hq => by
      rcases List.mem_append.mp hq with h | h
      · exact hS.2.2 q h
      · exact hf _ (hL q h)⟩⟩
theorem vx_calli {S SX : Type} {post : Int32 → S → Prop} {px : SX → Prop} {B : S → State → Prop} {BX : String → SX → State → Prop} {AX : Nat → Prop} (hr : vx_Run p l e R s m args below meth c H locs cells slots mc ms (F0 m pc ls st0) rest (va_Qi post B A1 a) (vx_X px BX AX) free) (hS : va_S A0 H0 H locs) (hA : ∀ q, q < H.size → A1 q → A0 q) (hf : ∀ q, free q → A0 q) (hAX : ∀ q, q < H.size → AX q → A0 q)
    (kx : ∀ (E : String) (ce : Cell) (q9 : Addr) (u : SX) (t : State) (H1 : Heap) (locs1 : List Loc), t.heap = H1 → s.vm.Alike t.vm → px u → BX E u t → H.size ≤ H1.size → (∀ q : Nat, q < H.size → ¬ AX q → H1[q]? = H[q]?) → va_S A0 H0 H1 locs1 → H1[q9]? = some ce → ce.vm = .none → s.vm.findClass E = some ce.cls → vx_W p l e R s m args below meth c H1 locs1 (cells + mc) (slots + ms) Q (F0 m pc ls rest) q9)
    (kk : ∀ (r : Int32) (u : S) (t : State) (H1 : Heap) (locs1 : List Loc), t.heap = H1 → s.vm.Alike t.vm → post r u → B u t → H.size ≤ H1.size → (∀ q : Nat, q < H.size → ¬ A1 q → H1[q]? = H[q]?) → va_S A0 H0 H1 locs1 → W p l e R s m args below meth c H1 locs1 (cells + mc) (slots + ms) Q (F0 m (pc + 3) ls (.int r :: rest))) : W p l e R s m args below meth c H locs cells slots Q (F0 m pc ls st0) := by
  intro T hT X
  rcases hr T hT X with ⟨v, st₀, t, T', L, h0, X', hL, e1, e2, ⟨⟨r, u, hv, hp, hb⟩, hF⟩, st⟩ | ⟨q, st₀, t, T', L, E, ce, h0, X', hL, e1, e2, ⟨u, hp, hb, hF⟩, hce, hcv, hcl, st⟩
  · cases hv
    obtain ⟨k1, k2, k3⟩ := vx_keep h0 e1 hS hA hf hL hF
    obtain ⟨t2, a1, b1⟩ := kk r u t T'.heap (locs ++ L) e1.symm (by rw [← e2]; exact X'.warmed.alike) hp hb k1 k2 k3 T' rfl X'
    exact ⟨t2, st t2 a1, b1⟩
  · obtain ⟨k1, k2, k3⟩ := vx_keep h0 e1 hS hAX hf hL hF
    obtain ⟨t2, a1, b1⟩ := kx E ce q u t T'.heap (locs ++ L) e1.symm (by rw [← e2]; exact X'.warmed.alike) hp hb k1 k2 k3 (by rw [e1]; exact hce) hcv hcl T' rfl X'
    exact ⟨t2, st.trans a1, b1⟩
theorem vx_calll {S SX : Type} {post : Int64 → S → Prop} {px : SX → Prop} {B : S → State → Prop} {BX : String → SX → State → Prop} {AX : Nat → Prop} (hr : vx_Run p l e R s m args below meth c H locs cells slots mc ms (F0 m pc ls st0) rest (va_Ql post B A1 a) (vx_X px BX AX) free) (hS : va_S A0 H0 H locs) (hA : ∀ q, q < H.size → A1 q → A0 q) (hf : ∀ q, free q → A0 q) (hAX : ∀ q, q < H.size → AX q → A0 q)
    (kx : ∀ (E : String) (ce : Cell) (q9 : Addr) (u : SX) (t : State) (H1 : Heap) (locs1 : List Loc), t.heap = H1 → s.vm.Alike t.vm → px u → BX E u t → H.size ≤ H1.size → (∀ q : Nat, q < H.size → ¬ AX q → H1[q]? = H[q]?) → va_S A0 H0 H1 locs1 → H1[q9]? = some ce → ce.vm = .none → s.vm.findClass E = some ce.cls → vx_W p l e R s m args below meth c H1 locs1 (cells + mc) (slots + ms) Q (F0 m pc ls rest) q9)
    (kk : ∀ (r : Int64) (u : S) (t : State) (H1 : Heap) (locs1 : List Loc), t.heap = H1 → s.vm.Alike t.vm → post r u → B u t → H.size ≤ H1.size → (∀ q : Nat, q < H.size → ¬ A1 q → H1[q]? = H[q]?) → va_S A0 H0 H1 locs1 → W p l e R s m args below meth c H1 locs1 (cells + mc) (slots + ms) Q (F0 m (pc + 3) ls (.long r :: rest))) : W p l e R s m args below meth c H locs cells slots Q (F0 m pc ls st0) := by
  intro T hT X
  rcases hr T hT X with ⟨v, st₀, t, T', L, h0, X', hL, e1, e2, ⟨⟨r, u, hv, hp, hb⟩, hF⟩, st⟩ | ⟨q, st₀, t, T', L, E, ce, h0, X', hL, e1, e2, ⟨u, hp, hb, hF⟩, hce, hcv, hcl, st⟩
  · cases hv
    obtain ⟨k1, k2, k3⟩ := vx_keep h0 e1 hS hA hf hL hF
    obtain ⟨t2, a1, b1⟩ := kk r u t T'.heap (locs ++ L) e1.symm (by rw [← e2]; exact X'.warmed.alike) hp hb k1 k2 k3 T' rfl X'
    exact ⟨t2, st t2 a1, b1⟩
  · obtain ⟨k1, k2, k3⟩ := vx_keep h0 e1 hS hAX hf hL hF
    obtain ⟨t2, a1, b1⟩ := kx E ce q u t T'.heap (locs ++ L) e1.symm (by rw [← e2]; exact X'.warmed.alike) hp hb k1 k2 k3 (by rw [e1]; exact hce) hcv hcl T' rfl X'
    exact ⟨t2, st.trans a1, b1⟩
theorem vx_callf {S SX : Type} {post : UInt32 → S → Prop} {px : SX → Prop} {B : S → State → Prop} {BX : String → SX → State → Prop} {AX : Nat → Prop} (hr : vx_Run p l e R s m args below meth c H locs cells slots mc ms (F0 m pc ls st0) rest (va_Qf post B A1 a) (vx_X px BX AX) free) (hS : va_S A0 H0 H locs) (hA : ∀ q, q < H.size → A1 q → A0 q) (hf : ∀ q, free q → A0 q) (hAX : ∀ q, q < H.size → AX q → A0 q)
    (kx : ∀ (E : String) (ce : Cell) (q9 : Addr) (u : SX) (t : State) (H1 : Heap) (locs1 : List Loc), t.heap = H1 → s.vm.Alike t.vm → px u → BX E u t → H.size ≤ H1.size → (∀ q : Nat, q < H.size → ¬ AX q → H1[q]? = H[q]?) → va_S A0 H0 H1 locs1 → H1[q9]? = some ce → ce.vm = .none → s.vm.findClass E = some ce.cls → vx_W p l e R s m args below meth c H1 locs1 (cells + mc) (slots + ms) Q (F0 m pc ls rest) q9)
    (kk : ∀ (r : UInt32) (u : S) (t : State) (H1 : Heap) (locs1 : List Loc), t.heap = H1 → s.vm.Alike t.vm → post r u → B u t → H.size ≤ H1.size → (∀ q : Nat, q < H.size → ¬ A1 q → H1[q]? = H[q]?) → va_S A0 H0 H1 locs1 → W p l e R s m args below meth c H1 locs1 (cells + mc) (slots + ms) Q (F0 m (pc + 3) ls (.float r :: rest))) : W p l e R s m args below meth c H locs cells slots Q (F0 m pc ls st0) := by
  intro T hT X
  rcases hr T hT X with ⟨v, st₀, t, T', L, h0, X', hL, e1, e2, ⟨⟨r, u, hv, hp, hb⟩, hF⟩, st⟩ | ⟨q, st₀, t, T', L, E, ce, h0, X', hL, e1, e2, ⟨u, hp, hb, hF⟩, hce, hcv, hcl, st⟩
  · cases hv
    obtain ⟨k1, k2, k3⟩ := vx_keep h0 e1 hS hA hf hL hF
    obtain ⟨t2, a1, b1⟩ := kk r u t T'.heap (locs ++ L) e1.symm (by rw [← e2]; exact X'.warmed.alike) hp hb k1 k2 k3 T' rfl X'
    exact ⟨t2, st t2 a1, b1⟩
  · obtain ⟨k1, k2, k3⟩ := vx_keep h0 e1 hS hAX hf hL hF
    obtain ⟨t2, a1, b1⟩ := kx E ce q u t T'.heap (locs ++ L) e1.symm (by rw [← e2]; exact X'.warmed.alike) hp hb k1 k2 k3 (by rw [e1]; exact hce) hcv hcl T' rfl X'
    exact ⟨t2, st.trans a1, b1⟩
theorem vx_calld {S SX : Type} {post : UInt64 → S → Prop} {px : SX → Prop} {B : S → State → Prop} {BX : String → SX → State → Prop} {AX : Nat → Prop} (hr : vx_Run p l e R s m args below meth c H locs cells slots mc ms (F0 m pc ls st0) rest (va_Qd post B A1 a) (vx_X px BX AX) free) (hS : va_S A0 H0 H locs) (hA : ∀ q, q < H.size → A1 q → A0 q) (hf : ∀ q, free q → A0 q) (hAX : ∀ q, q < H.size → AX q → A0 q)
    (kx : ∀ (E : String) (ce : Cell) (q9 : Addr) (u : SX) (t : State) (H1 : Heap) (locs1 : List Loc), t.heap = H1 → s.vm.Alike t.vm → px u → BX E u t → H.size ≤ H1.size → (∀ q : Nat, q < H.size → ¬ AX q → H1[q]? = H[q]?) → va_S A0 H0 H1 locs1 → H1[q9]? = some ce → ce.vm = .none → s.vm.findClass E = some ce.cls → vx_W p l e R s m args below meth c H1 locs1 (cells + mc) (slots + ms) Q (F0 m pc ls rest) q9)
    (kk : ∀ (r : UInt64) (u : S) (t : State) (H1 : Heap) (locs1 : List Loc), t.heap = H1 → s.vm.Alike t.vm → post r u → B u t → H.size ≤ H1.size → (∀ q : Nat, q < H.size → ¬ A1 q → H1[q]? = H[q]?) → va_S A0 H0 H1 locs1 → W p l e R s m args below meth c H1 locs1 (cells + mc) (slots + ms) Q (F0 m (pc + 3) ls (.double r :: rest))) : W p l e R s m args below meth c H locs cells slots Q (F0 m pc ls st0) := by
  intro T hT X
  rcases hr T hT X with ⟨v, st₀, t, T', L, h0, X', hL, e1, e2, ⟨⟨r, u, hv, hp, hb⟩, hF⟩, st⟩ | ⟨q, st₀, t, T', L, E, ce, h0, X', hL, e1, e2, ⟨u, hp, hb, hF⟩, hce, hcv, hcl, st⟩
  · cases hv
    obtain ⟨k1, k2, k3⟩ := vx_keep h0 e1 hS hA hf hL hF
    obtain ⟨t2, a1, b1⟩ := kk r u t T'.heap (locs ++ L) e1.symm (by rw [← e2]; exact X'.warmed.alike) hp hb k1 k2 k3 T' rfl X'
    exact ⟨t2, st t2 a1, b1⟩
  · obtain ⟨k1, k2, k3⟩ := vx_keep h0 e1 hS hAX hf hL hF
    obtain ⟨t2, a1, b1⟩ := kx E ce q u t T'.heap (locs ++ L) e1.symm (by rw [← e2]; exact X'.warmed.alike) hp hb k1 k2 k3 (by rw [e1]; exact hce) hcv hcl T' rfl X'
    exact ⟨t2, st.trans a1, b1⟩
theorem vx_callv {S SX : Type} {post : S → Prop} {px : SX → Prop} {B : S → State → Prop} {BX : String → SX → State → Prop} {AX : Nat → Prop} (hr : vx_Run p l e R s m args below meth c H locs cells slots mc ms (F0 m pc ls st0) rest (va_Qv post B A1 a) (vx_X px BX AX) free) (hS : va_S A0 H0 H locs) (hA : ∀ q, q < H.size → A1 q → A0 q) (hf : ∀ q, free q → A0 q) (hAX : ∀ q, q < H.size → AX q → A0 q)
    (kx : ∀ (E : String) (ce : Cell) (q9 : Addr) (u : SX) (t : State) (H1 : Heap) (locs1 : List Loc), t.heap = H1 → s.vm.Alike t.vm → px u → BX E u t → H.size ≤ H1.size → (∀ q : Nat, q < H.size → ¬ AX q → H1[q]? = H[q]?) → va_S A0 H0 H1 locs1 → H1[q9]? = some ce → ce.vm = .none → s.vm.findClass E = some ce.cls → vx_W p l e R s m args below meth c H1 locs1 (cells + mc) (slots + ms) Q (F0 m pc ls rest) q9)
    (kk : ∀ (u : S) (t : State) (H1 : Heap) (locs1 : List Loc), t.heap = H1 → s.vm.Alike t.vm → post u → B u t → H.size ≤ H1.size → (∀ q : Nat, q < H.size → ¬ A1 q → H1[q]? = H[q]?) → va_S A0 H0 H1 locs1 → W p l e R s m args below meth c H1 locs1 (cells + mc) (slots + ms) Q (F0 m (pc + 3) ls (rest))) : W p l e R s m args below meth c H locs cells slots Q (F0 m pc ls st0) := by
  intro T hT X
  rcases hr T hT X with ⟨v, st₀, t, T', L, h0, X', hL, e1, e2, ⟨⟨u, hv, hp, hb⟩, hF⟩, st⟩ | ⟨q, st₀, t, T', L, E, ce, h0, X', hL, e1, e2, ⟨u, hp, hb, hF⟩, hce, hcv, hcl, st⟩
  · cases hv
    obtain ⟨k1, k2, k3⟩ := vx_keep h0 e1 hS hA hf hL hF
    obtain ⟨t2, a1, b1⟩ := kk u t T'.heap (locs ++ L) e1.symm (by rw [← e2]; exact X'.warmed.alike) hp hb k1 k2 k3 T' rfl X'
    exact ⟨t2, st t2 a1, b1⟩
  · obtain ⟨k1, k2, k3⟩ := vx_keep h0 e1 hS hAX hf hL hF
    obtain ⟨t2, a1, b1⟩ := kx E ce q u t T'.heap (locs ++ L) e1.symm (by rw [← e2]; exact X'.warmed.alike) hp hb k1 k2 k3 (by rw [e1]; exact hce) hcv hcl T' rfl X'
    exact ⟨t2, st.trans a1, b1⟩
/-- caught by the row x of this method's table; the rows ahead don't take it -/
theorem vx_catch {own name : String} {E : String} {ce : Cell} {q : Addr} (hown : s.vm.findClass own = some m.cls) (pre : List ExceptionTableEntry) (x : ExceptionTableEntry) (suf : List ExceptionTableEntry) (hsplit : c.exceptionTable.toList = pre ++ x :: suf)
    (hpass : ∀ z ∈ pre, covers z pc = false ∨ (z.catchType ≠ 0 ∧ ∃ nm : String, (Cond.classLink own z.catchType nm).before args s = true ∧ va_Nc E nm s)) (hx : covers x pc = true) (h0 : x.catchType ≠ 0)
    (hlink : (Cond.classLink own x.catchType name).before args s = true) (hcast : (Cond.castable E name).before args s = true) (hcell : H[q]? = some ce) (hv : ce.vm = .none) (hcl : s.vm.findClass E = some ce.cls)
    (kk : W p l e R s m args below meth c H locs cells slots Q (F0 m x.handlerPc ls [.ref q])) : vx_W p l e R s m args below meth c H locs cells slots Q (F0 m pc ls rest) q := by
  intro T hT X
  have hpl : e.platform.magicAccessors = ({} : Platform).magicAccessors := by rw [X.admits.platform]
  obtain ⟨c3, c4, hc3, hc4, hasg⟩ := Cond.castable_spec hcast
  cases Option.some.inj (hc3.symm.trans hcl)
  obtain ⟨c5, hc5, hcl5⟩ := Cond.classLink_spec hown hlink e.platform hpl
  cases Option.some.inj (hc4.symm.trans hc5)
  obtain ⟨vm', X', st⟩ := X.thenCaughtThrough q (g := F0 m pc ls rest) rfl (Steps.refl _) (by rw [hT]; exact hcell) (by rw [hv]; rfl) (by obtain ⟨k9, h9, -⟩ := Vm.findClass_spec hcl; exact ⟨k9, h9⟩) pre x suf hsplit
    (fun z hz => by
      rcases hpass z hz with h | ⟨hz0, nm, hl1, hn1⟩
      · exact Or.inl h
      · obtain ⟨c6, hc6, hcl6⟩ := Cond.classLink_spec hown hl1 e.platform hpl
        obtain ⟨a8, b8, h1, h2, h3⟩ := hn1
        cases Option.some.inj (h1.symm.trans hcl)
        cases Option.some.inj (h2.symm.trans hc6)
        exact Or.inr ⟨hz0, _, hcl6, h3⟩) hx (Or.inr ⟨h0, c4, hcl5, hasg⟩)
  obtain ⟨t, a1, b1⟩ := kk (T.setVm vm') hT X'
  exact ⟨t, st.trans a1, b1⟩
end Rows
section Ends
variable {p : Program} {l : Launch} {e : Env} {R : Room} {s : State} {m : MethodId} {args : Array Value} {below : List Frame} {meth : Method} {c : Code} {H : Heap} {locs : List Loc} {cells slots : Nat} {Q : State → Prop}
variable {mc ms : Nat} {free : Addr → Prop} {A0 A1 : Nat → Prop} {H0 : Heap} {a : Array Value} {ls : Array Slot} {st0 rest : List Value}
variable {Qc : Array Value → State → Outcome → State → Prop} {XC : String → State → State → Prop}
/-- what a body that may throw owes at its end -/
def vx_MQ (below : List Frame) (Qc : Array Value → State → Outcome → State → Prop) (XC : String → State → State → Prop) (a : Array Value) (s : State) (mc ms : Nat) (free : Addr → Prop) : State → Prop := fun t =>
  ∃ o, t.status = .running ∧ Ended t below o ∧ vx_Q Qc XC mc ms free a s o t
theorem vx_ret {g : JFrame} {mc ms : Nat} (k : W p l e R s m args below meth c H locs cells slots (MQ below Qc args s mc ms free) g) : W p l e R s m args below meth c H locs cells slots (vx_MQ below Qc XC args s mc ms free) g := by
  intro T hT X
  obtain ⟨t, a1, o, b1, b2, b3, b4⟩ := k T hT X
  exact ⟨t, a1, o, b1, b2, Or.inl ⟨b3, b4⟩⟩
/-- not caught here: it goes on to the caller -/
theorem vx_widen {g : JFrame} {q : Addr} {k n : Nat} (h1 : cells ≤ k) (h2 : slots ≤ n) (kk : vx_W p l e R s m args below meth c H locs k n Q g q) : vx_W p l e R s m args below meth c H locs cells slots Q g q := fun T hT X => kk T hT (stand_widen X h1 h2)
theorem vx_out {pc : Nat} {E : String} {ce : Cell} {q : Addr} {mc ms : Nat} (hout : ∀ x ∈ c.exceptionTable.toList, covers x pc = false) (hlocks : meth.locks = false) (hcell : H[q]? = some ce) (hv : ce.vm = .none) (hcl : s.vm.findClass E = some ce.cls)
    (hx : ∀ t : State, t.heap = H → s.vm.Alike t.vm → XC E s t) (hf : ∀ z ∈ locs, free z.base) (hc : cells ≤ mc) (hs : slots ≤ ms) :
    vx_W p l e R s m args below meth c H locs cells slots (vx_MQ below Qc XC args s mc ms free) (F0 m pc ls rest) q := by
  intro T hT X
  obtain ⟨st1, hrun, hend, hW, hsm⟩ := X.leaveThrown q (g := F0 m pc ls rest) rfl rfl rfl hout hlocks
  have hcell9 : (T.setFrames (.throwing q :: below)).heap[q]? = some ce := by
    show T.heap[q]? = some ce
    rw [hT]; exact hcell
  exact ⟨_, st1, .threw q, hrun, hend, Or.inr ⟨q, rfl, E, ce, locs, hx _ hT hW.alike, hcell9, hv, hcl, hW, hsm.mono hc hs, hf⟩⟩
theorem vx_frame {U : State} {k n : Nat} (h : s.sameButNew ({ U with vm := s.vm } : State) locs k n) : s.heap.size ≤ U.heap.size ∧ ∀ q : Nat, q < s.heap.size → (∀ z ∈ locs, z.base ≠ q) → U.heap[q]? = s.heap[q]? := by
  obtain ⟨-, h2, -, -, -, h6⟩ := h
  refine ⟨h2, fun q hq hz => ?_⟩
  obtain ⟨c9, e1, e2, e3, e4⟩ := h6 q _ (Array.getElem?_eq_getElem hq)
  have hs : c9.slots = (s.heap[q]).slots := Array.ext_getElem? fun i => e4 i fun hm => hz _ hm rfl
  have h9 : c9 = s.heap[q] := by
    rw [hs] at e2
    exact e2
  have e5 : U.heap[q]? = some c9 := e1
  rw [e5, h9, Array.getElem?_eq_getElem hq]
/-- the words of a throw but the four that speak of the heap -/
def vx_no (w : Cond) : Bool := decide (w ≠ .isRef (.static Bundle.tN "UNASSIGNED_STACK" Bundle.steD)) && decide (w ≠ .isRef (.static Bundle.tN "SUPPRESSED_SENTINEL" Bundle.listD)) && decide (w ≠ .laysStatic Bundle.tN "UNASSIGNED_STACK" Bundle.steD) && decide (w ≠ .laysStatic Bundle.tN "SUPPRESSED_SENTINEL" Bundle.listD)
def vx_at0 (own : String) (ic : Nat) (X : String) (names : List String) : List Cond := (Bundle.ownAtoms0 own ic X names).filter vx_no
def vx_atS (own : String) (ic : Nat) (X : String) (names : List String) : List Cond := (Bundle.ownAtoms own ic X names).filter vx_no
/-- a word that the tables alone decide, or a good one -/
def vx_ot (w : Cond) : Bool := w.onTables || goodWord w
theorem vx_ot_at {args a' : Array Value} {s U : State} {w : Cond} (hW : s.WarmedH U.vm) (hvm : s.vm = U.vm) (hg : vx_ot w = true) (h : w.before args s = true) : w.before a' U = true := by
  simp only [vx_ot, Bool.or_eq_true] at hg
  rcases hg with hg | hg
  · exact va_tabs hg hvm h
  · exact word_at hW (good_of_word hg) h
/-- a list's words: the good ones out of the method's own list, the others by premises of their own -/
theorem vx_hat {args : Array Value} {s : State} {L B : List Cond} (h1 : ∀ w ∈ L.filter goodWord, w.before args s = true) (h2 : ∀ w ∈ L.filter (fun w => !goodWord w), w ∈ B) (h3 : ∀ w ∈ B, w.before args s = true) : ∀ w ∈ L, w.before args s = true := by
  intro w hw
  by_cases g : goodWord w = true
  · exact h1 w (List.mem_filter.mpr ⟨hw, g⟩)
  · refine h3 w (h2 w (List.mem_filter.mpr ⟨hw, ?_⟩))
    show (!goodWord w) = true
    cases hgw : goodWord w
    · rfl
    · exact absurd hgw g
theorem vx_c {args : Array Value} {s : State} {w : Cond} {B : List Cond} (h : w.before args s = true) (t : ∀ w ∈ B, w.before args s = true) : ∀ w' ∈ w :: B, w'.before args s = true := fun w' h' => (List.mem_cons.mp h').elim (fun e => by rw [e]; exact h) (t w')
theorem vx_n {args : Array Value} {s : State} : ∀ w ∈ ([] : List Cond), w.before args s = true := fun _ h => nomatch h
theorem vx_own {args : Array Value} {s : State} {L : List Cond} (h1 : ∀ w ∈ L.filter vx_no, w.before args s = true)
    (hU : (Cond.isRef (.static Bundle.tN "UNASSIGNED_STACK" Bundle.steD)).before args s = true) (hN : (Cond.isRef (.static Bundle.tN "SUPPRESSED_SENTINEL" Bundle.listD)).before args s = true)
    (lU : (Cond.laysStatic Bundle.tN "UNASSIGNED_STACK" Bundle.steD).before args s = true) (lN : (Cond.laysStatic Bundle.tN "SUPPRESSED_SENTINEL" Bundle.listD).before args s = true) : ∀ w ∈ L, w.before args s = true := by
  intro w hw
  by_cases e1 : w = .isRef (.static Bundle.tN "UNASSIGNED_STACK" Bundle.steD)
  · rw [e1]; exact hU
  · by_cases e2 : w = .isRef (.static Bundle.tN "SUPPRESSED_SENTINEL" Bundle.listD)
    · rw [e2]; exact hN
    · by_cases e3 : w = .laysStatic Bundle.tN "UNASSIGNED_STACK" Bundle.steD
      · rw [e3]; exact lU
      · by_cases e4 : w = .laysStatic Bundle.tN "SUPPRESSED_SENTINEL" Bundle.listD
        · rw [e4]; exact lN
        · exact h1 w (List.mem_filter.mpr ⟨hw, by unfold vx_no; rw [decide_eq_true e1, decide_eq_true e2, decide_eq_true e3, decide_eq_true e4]; rfl⟩)
/-- where a static field lies, its class's statics cell in H -/
def vx_L (C n d : String) (A : Nat → Prop) (U : State) (H : Heap) : Prop := ∃ (c : ClassId) (k : Class) (i : Nat) (f : Field) (a : Nat) (cell : Cell), U.vm.findClass C = some c ∧ U.fieldFound? C n d = some (c, k, i, f) ∧ f.isStatic = true ∧ k.statics = some a ∧ H[a]? = some cell ∧ cell.vm.isStatics = true ∧ cell.cls = c ∧ f.slot < cell.slots.size ∧ k.staticTypes[f.slot]? = some f.type ∧ ¬ A a
theorem vx_L.moved {C n d : String} {A : Nat → Prop} {u U : State} {H : Heap} (hvm : u.vm.Alike U.vm) (h : vx_L C n d A u H) : vx_L C n d A U H := by
  obtain ⟨c, k, i, f, a, cell, h1, h2, h3, h4, h5, h6, h7, h8, h9, h10⟩ := h
  obtain ⟨k', hi', he⟩ := State.fieldFound?_setVm hvm h2
  exact ⟨c, k', i, f, a, cell, by rw [hvm.findClass]; exact h1, hi', h3, by rw [he]; exact h4, h5, h6, h7, h8, by rw [he]; exact h9, h10⟩
theorem vx_L.kept {C n d : String} {A : Nat → Prop} {U : State} {H H1 : Heap} (h : vx_L C n d A U H) (hq : ∀ a : Nat, a < H.size → ¬ A a → H1[a]? = H[a]?) : vx_L C n d A U H1 := by
  obtain ⟨c, k, i, f, a, cell, h1, h2, h3, h4, h5, h6, h7, h8, h9, h10⟩ := h
  exact ⟨c, k, i, f, a, cell, h1, h2, h3, h4, by rw [hq a (Array.getElem?_eq_some_iff.mp h5).1 h10]; exact h5, h6, h7, h8, h9, h10⟩
theorem vx_L.narrow {C n d : String} {A B : Nat → Prop} {U : State} {H : Heap} (h : vx_L C n d A U H) (hAB : ∀ q, B q → A q) : vx_L C n d B U H := by
  obtain ⟨c, k, i, f, a, cell, h1, h2, h3, h4, h5, h6, h7, h8, h9, h10⟩ := h
  exact ⟨c, k, i, f, a, cell, h1, h2, h3, h4, h5, h6, h7, h8, h9, fun z => h10 (hAB _ z)⟩
theorem vx_L.word {C n d : String} {A : Nat → Prop} {s : State} {args : Array Value} (h : vx_L C n d A s s.heap) : (Cond.laysStatic C n d).before args s = true := by
  obtain ⟨c, k, i, f, a, cell, h1, h2, h3, h4, h5, h6, h7, h8, h9, -⟩ := h
  show (Cond.laysStatic C n d).holds args s none s [] = true
  exact Cond.laysStatic_of h1 h2 h3 h4 h5 h6 h7 h8 h9
/-- .. and what it holds: null or some reference -/
def vx_Zq (C n d : String) (A : Nat → Prop) (U : State) (H : Heap) : Prop := va_Zq C n d A U H ∧ vx_L C n d A U H
theorem vx_Zq.moved {C n d : String} {A : Nat → Prop} {u U : State} {H : Heap} (hvm : u.vm.Alike U.vm) (h : vx_Zq C n d A u H) : vx_Zq C n d A U H := ⟨va_Zq.moved hvm h.1, vx_L.moved hvm h.2⟩
theorem vx_Zq.kept {C n d : String} {A : Nat → Prop} {U : State} {H H1 : Heap} (h : vx_Zq C n d A U H) (hq : ∀ a : Nat, a < H.size → ¬ A a → H1[a]? = H[a]?) : vx_Zq C n d A U H1 := ⟨va_Zq.kept h.1 hq, vx_L.kept h.2 hq⟩
theorem vx_Zq.narrow {C n d : String} {A B : Nat → Prop} {U : State} {H : Heap} (h : vx_Zq C n d A U H) (hAB : ∀ q, B q → A q) : vx_Zq C n d B U H := ⟨va_Zq.narrow h.1 hAB, vx_L.narrow h.2 hAB⟩
theorem vx_Zqof {args : Array Value} {s : State} {C n d : String} {A : Nat → Prop} (hl : (Cond.laysStatic C n d).before args s = true) (hini : (Cond.initialized C).before args s = true) (h : (Cond.isRef (.static C n d)).before args s = true) (hA : ∀ a : Nat, a < s.heap.size → ¬ A a) : vx_Zq C n d A s s.heap := by
  refine ⟨va_Zqof hl hini h hA, ?_⟩
  obtain ⟨c, k, i, f, a, cell, h1, h2, h3, h4, h5, h6, h7, h8, h9⟩ := Cond.laysStatic_spec hl
  exact ⟨c, k, i, f, a, cell, h1, h2, h3, h4, h5, h6, h7, h8, h9, hA a (Array.getElem?_eq_some_iff.mp h5).1⟩
theorem vx_isRef {C n d : String} {v : Value} {A : Nat → Prop} {s : State} {args : Array Value} (h : va_Z C n d v A s s.heap) (hv : v.isRef = true) : (Cond.isRef (.static C n d)).before args s = true := by
  obtain ⟨cf, kf, fi, f, a, cell, h1, h2, h3, h4, h5, h6, h7, -⟩ := h
  have he : (Term.static C n d).eval args s none [] s = some v := by
    simp [Term.eval, State.fieldNamed?, h1, h2, h4, h5, h6, h7]
  simp only [Cond.before, Cond.holds, Cond.value, he]
  cases v <;> simp_all [Value.isRef]
theorem vx_isRefq {C n d : String} {A : Nat → Prop} {s : State} {args : Array Value} (h : va_Zq C n d A s s.heap) : (Cond.isRef (.static C n d)).before args s = true := by
  rcases h with h | ⟨t, h⟩
  · exact vx_isRef h rfl
  · exact vx_isRef h rfl
/-- the same frame, seen from here: as if the method were called anew in this heap -/
theorem vx_rebase {T : State} (X : Stand p l e R s m args below meth c T locs cells slots) {R' : Room} (hf : R'.frames ≤ R.frames) (hl : R'.locals ≤ R.locals) (hc : cells + R'.cells ≤ R.cells) (hs : slots + R'.slots ≤ R.slots) :
    Stand p l e R' ((T.setVm s.vm).setFrames (.invoking m args :: below)) m args below meth c T [] 0 0 := by
  have htop : (T.setVm s.vm).topJava?.isSome := X.here.top
  have hF : ((T.setVm s.vm).setFrames (.invoking m args :: below)).frames = .invoking m args :: below := State.frames_setFrames _ (State.cur_lt_of_top htop)
  obtain ⟨g₀, hg0⟩ := Option.isSome_iff_exists.mp htop
  obtain ⟨r, hr⟩ := State.topJava?_eq_some.mp hg0
  have hl9 : e.platform.stackLimits (T.setVm s.vm).me = e.platform.stackLimits s.me := X.limits
  have hb9 : (T.setVm s.vm).me.stackBytes = s.me.stackBytes := X.bytes
  refine ⟨X.admits, X.cas, X.clock, hF, ?_, X.hears, X.method, X.code, X.here, X.tail, X.warmed, ?_, ?_, ?_⟩
  · have h := X.room
    have hU : ((T.setVm s.vm).setFrames (.invoking m args :: below)).localsInUse = s.localsInUse := by
      rw [State.localsInUse_invoking hF (meth := meth) (c := c) X.method X.code, State.localsInUse_invoking X.frames X.method X.code]
    simp only [State.hasRoom, Bool.and_eq_true, decide_eq_true_eq] at h ⊢
    obtain ⟨⟨⟨⟨h1, h2, h3, h4, h5, h6⟩, h7⟩, h8⟩, h9⟩ := h
    rw [X.frames, List.length_cons] at h2 h3
    have q1 := X.heapSize
    have q2 := X.used
    simp only [hF, hU, List.length_cons, State.stackLimits_setFrames, State.stackBytes_setFrames, hl9, hb9]
    refine ⟨⟨⟨⟨by omega, by omega, by omega, by omega, by omega, h6⟩, ?_⟩, ?_⟩, X.book⟩
    · show T.heap.size + R'.cells ≤ e.platform.maxCells
      omega
    · show T.slotsUsed + R'.slots ≤ e.platform.maxSlots
      omega
  · rw [State.stackLimits_setFrames]; rfl
  · rw [State.stackBytes_setFrames]; rfl
  · refine ⟨?_, Nat.le_refl _, Nat.le_refl _, ?_, ?_, fun a c9 h9 => ⟨c9, h9, rfl, rfl, fun _ _ => rfl⟩⟩
    · obtain ⟨t, ht, -⟩ := State.frames_cons hr
      show T.setVm s.vm = { ((T.setVm s.vm).setFrames (.invoking m args :: below)).setFrames (T.setVm s.vm).frames with heap := T.heap, slotsUsed := T.slotsUsed }
      rw [State.setFrames_setFrames, State.setFrames_self ht]
      rfl
    · show T.slotsUsed = T.slotsUsed + ((T.heap.toList.drop T.heap.size).map (·.slots.size)).sum
      rw [List.drop_eq_nil_of_le (Nat.le_of_eq Array.length_toList)]
      rfl
    · show ((T.heap.toList.drop T.heap.size).map (·.slots.size)).sum ≤ 0
      rw [List.drop_eq_nil_of_le (Nat.le_of_eq Array.length_toList)]
      exact Nat.le_refl _
/-- 'throw new E()': new; dup; invokespecial; athrow -/
theorem vx_throw0 {cc : ByteArray} {pc : Nat} (hexec : p.tables.exec = Jvm.exec) (hb : c.code = cc) (hl : l.stackTraces = false) {own cls : String} {names : List String} {ik ic mc ms : Nat} {A : Nat → Prop}
    (hown : s.vm.findClass own = some m.cls) (hcls : Bundle.fit cls = true) (hnames : ∀ n ∈ names, Bundle.fit n = true)
    (hk : (Cond.classLink own ik cls).before args s = true) (hini : (Cond.initialized cls).before args s = true) (hat : ∀ w ∈ vx_at0 own ic cls names, w.before args s = true)
    (hgood : ∀ w ∈ Cond.classLink own ik cls :: Cond.initialized cls :: vx_at0 own ic cls names, vx_ot w = true)
    (hU : vx_Zq Bundle.tN "UNASSIGNED_STACK" Bundle.steD A s s.heap) (hN : vx_Zq Bundle.tN "SUPPRESSED_SENTINEL" Bundle.listD A s s.heap) (hS : va_S A s.heap H locs) (hsize : ls.size = c.maxLocals)
    (d0 : decode cc pc = .ok (.new ik, 3)) (d3 : decode cc (pc + 3) = .ok (.dup, 1)) (d4 : decode cc (pc + 4) = .ok (.invokespecial ic, 3)) (d7 : decode cc (pc + 7) = .ok (.athrow, 1))
    (hout : ∀ x ∈ c.exceptionTable.toList, covers x (pc + 7) = false)
    (hRframes : names.length + 3 < R.frames) (hRlocals : (rest.map fun v => v.category).sum + (13 * (names.length + 1) + 42) ≤ R.locals) (hRcells : cells + 1 ≤ R.cells) (hRslots : slots + 6 ≤ R.slots) (hlocks : meth.locks = false)
    (hx : ∀ t : State, s.vm.Alike t.vm → H.size ≤ t.heap.size → (∀ q : Nat, q < H.size → t.heap[q]? = H[q]?) → XC cls s t)
    (hf : ∀ z ∈ locs, free z.base) (hc : cells + 1 ≤ mc) (hs : slots + 6 ≤ ms) :
    W p l e R s m args below meth c H locs cells slots (vx_MQ below Qc XC args s mc ms free) (F0 m pc ls rest) := by
  intro T hT X
  have htr : e.platform.stackTraces = false := (show e.platform.stackTraces = l.stackTraces by rw [X.admits.platform]).trans hl
  have Y := vx_rebase X (R' := { frames := R.frames, locals := R.locals, cells := 1, slots := 6 }) (Nat.le_refl _) (Nat.le_refl _) hRcells hRslots
  obtain ⟨s', hA⟩ : ∃ z, z = (T.setVm s.vm).setFrames (.invoking m args :: below) := ⟨_, rfl⟩
  rw [← hA] at Y
  have hvm : s'.vm = s.vm := by rw [hA]; rfl
  have hhp : s'.heap = H := by rw [hA]; exact hT
  have hW0 : s.WarmedH s'.vm := by rw [hvm]; exact State.WarmedH.refl s
  have hat' : ∀ w ∈ vx_at0 own ic cls names, w.before args s' = true := fun w hw => vx_ot_at hW0 hvm.symm (hgood w (List.mem_cons_of_mem _ (List.mem_cons_of_mem _ hw))) (hat w hw)
  have hk' : (Cond.classLink own ik cls).before args s' = true := vx_ot_at hW0 hvm.symm (hgood _ List.mem_cons_self) hk
  have hini' : (Cond.initialized cls).before args s' = true := vx_ot_at hW0 hvm.symm (hgood _ (List.mem_cons_of_mem _ List.mem_cons_self)) hini
  have hU' : vx_Zq Bundle.tN "UNASSIGNED_STACK" Bundle.steD A s' s'.heap := by rw [hhp]; exact vx_Zq.moved hW0.alike (hU.kept hS.2.1)
  have hN' : vx_Zq Bundle.tN "SUPPRESSED_SENTINEL" Bundle.listD A s' s'.heap := by rw [hhp]; exact vx_Zq.moved hW0.alike (hN.kept hS.2.1)
  have h : ∀ w ∈ Bundle.ownAtoms0 own ic cls names, w.before args s' = true := vx_own hat' (vx_isRefq hU'.1) (vx_isRefq hN'.1) hU'.2.word hN'.2.word
  have hown' : s'.vm.findClass own = some m.cls := by rw [hvm]; exact hown
  have hins : (Cond.instantiable cls 6).before args s' = true := h _ (by simp [Bundle.ownAtoms0])
  obtain ⟨vm₁, cX, kX, hfX, hkX, -, -, X₁, st1⟩ := Y.newCold hexec (own := own) (C := cls) (index := ik) (n := 6) hown' hk' hins hini'
    (g := F0 m pc ls rest) rfl (by rw [hb]; exact d0) (Nat.le_refl _) (Nat.le_refl _)
  generalize hT1 : (T.setVm vm₁).pushCell { cls := cX, slots := kX.instanceTypes.map defaultValue, vm := .none } = T1 at X₁ st1
  have hcat : (Value.ref T.heap.size).category = 1 := rfl
  have hcellA : T1.heap[T.heap.size]? = some (freshCell cX kX) := by rw [← hT1]; exact State.heap_pushCell_size _ _
  have d3' : decode c.code (pc + 3) = .ok (.dup, 1) := by rw [hb]; exact d3
  obtain ⟨U, hsteps, hrun, hend, hW, hsame, ce, hce, hO⟩ := X₁.ctorThrow0 hexec htr (own := own) (cls := cls) (names := names) (ic := ic) hown' hcls hnames h (fun x hx => nomatch hx) hfX hkX hcellA (by rw [hhp, hT]; exact Nat.le_refl _)
    (g := { method := m, pc := pc + 4, locals := ls, stack := .ref T.heap.size :: .ref T.heap.size :: rest, locked := none }) rfl hsize rfl rfl (rest := rest) rfl
    (by rw [hb]; exact d4) (by rw [hb]; exact d7) hout hRframes (by simp only [List.map_cons, List.sum_cons, hcat]; omega) hlocks
  obtain ⟨f1, f2⟩ := vx_frame hsame
  rw [hhp] at f1 f2
  have hWs : s.WarmedH U.vm := State.WarmedH.trans hW0 hW
  have hcl : s.vm.findClass cls = some ce.cls := by
    have h9 := hO.cls
    rw [hvm] at h9
    exact h9
  have hall : s.sameButNew ({ U with vm := s.vm } : State) locs mc ms := by
    subst hA
    obtain ⟨e1, e2⟩ := hsame
    rw [State.setFrames_setFrames] at e1
    have h2 : (T.setVm s.vm).sameButNew ({ U with vm := s.vm } : State) [] (0 + 1) (0 + 6) := ⟨e1, e2⟩
    have h3 := X.same.trans h2
    rw [List.append_nil] at h3
    exact h3.mono hc hs
  refine ⟨U, ?_, .threw T.heap.size, hrun, hend, Or.inr ⟨T.heap.size, rfl, cls, ce, locs, hx U hWs.alike f1 (fun q hq => f2 q hq (fun z hz => nomatch hz)), hce, hO.vm, hcl, hWs, hall, hf⟩⟩
  refine st1 _ ?_
  show Steps p.tables e below (T1.setTop { method := m, pc := pc + 3, locals := ls, stack := .ref T.heap.size :: rest, locked := none }) _
  jvm_step X₁.here [X₁.here.top, hexec, d3', Value.category]
  exact hsteps
/-- 'throw new E("text")': new; dup; ldc; invokespecial; athrow -/
theorem vx_throwS {cc : ByteArray} {pc : Nat} (hexec : p.tables.exec = Jvm.exec) (hb : c.code = cc) (hl : l.stackTraces = false) {own cls text : String} {names : List String} {ik is ic mc ms sa : Nat} {A : Nat → Prop}
    (hown : s.vm.findClass own = some m.cls) (hcls : Bundle.fit cls = true) (hnames : ∀ n ∈ names, Bundle.fit n = true)
    (hk : (Cond.classLink own ik cls).before args s = true) (hini : (Cond.initialized cls).before args s = true) (hstr : vk_R own is text sa s) (hat : ∀ w ∈ vx_atS own ic cls names, w.before args s = true)
    (hgood : ∀ w ∈ Cond.classLink own ik cls :: Cond.initialized cls :: vx_atS own ic cls names, vx_ot w = true)
    (hU : vx_Zq Bundle.tN "UNASSIGNED_STACK" Bundle.steD A s s.heap) (hN : vx_Zq Bundle.tN "SUPPRESSED_SENTINEL" Bundle.listD A s s.heap) (hS : va_S A s.heap H locs) (hsize : ls.size = c.maxLocals)
    (d0 : decode cc pc = .ok (.new ik, 3)) (d3 : decode cc (pc + 3) = .ok (.dup, 1)) (d4 : decode cc (pc + 4) = .ok (.ldc is, 2)) (d6 : decode cc (pc + 6) = .ok (.invokespecial ic, 3)) (d9 : decode cc (pc + 9) = .ok (.athrow, 1))
    (hout : ∀ x ∈ c.exceptionTable.toList, covers x (pc + 9) = false)
    (hRframes : names.length + 3 < R.frames) (hRlocals : (rest.map fun v => v.category).sum + (13 * (names.length + 1) + 43) ≤ R.locals) (hRcells : cells + 1 ≤ R.cells) (hRslots : slots + 6 ≤ R.slots) (hlocks : meth.locks = false)
    (hx : ∀ t : State, s.vm.Alike t.vm → H.size ≤ t.heap.size → (∀ q : Nat, q < H.size → t.heap[q]? = H[q]?) → XC cls s t)
    (hf : ∀ z ∈ locs, free z.base) (hc : cells + 1 ≤ mc) (hs : slots + 6 ≤ ms) :
    W p l e R s m args below meth c H locs cells slots (vx_MQ below Qc XC args s mc ms free) (F0 m pc ls rest) := by
  intro T hT X
  have htr : e.platform.stackTraces = false := (show e.platform.stackTraces = l.stackTraces by rw [X.admits.platform]).trans hl
  have Y := vx_rebase X (R' := { frames := R.frames, locals := R.locals, cells := 1, slots := 6 }) (Nat.le_refl _) (Nat.le_refl _) hRcells hRslots
  obtain ⟨s', hA⟩ : ∃ z, z = (T.setVm s.vm).setFrames (.invoking m args :: below) := ⟨_, rfl⟩
  rw [← hA] at Y
  have hvm : s'.vm = s.vm := by rw [hA]; rfl
  have hhp : s'.heap = H := by rw [hA]; exact hT
  have hW0 : s.WarmedH s'.vm := by rw [hvm]; exact State.WarmedH.refl s
  have hat' : ∀ w ∈ vx_atS own ic cls names, w.before args s' = true := fun w hw => vx_ot_at hW0 hvm.symm (hgood w (List.mem_cons_of_mem _ (List.mem_cons_of_mem _ hw))) (hat w hw)
  have hk' : (Cond.classLink own ik cls).before args s' = true := vx_ot_at hW0 hvm.symm (hgood _ List.mem_cons_self) hk
  have hini' : (Cond.initialized cls).before args s' = true := vx_ot_at hW0 hvm.symm (hgood _ (List.mem_cons_of_mem _ List.mem_cons_self)) hini
  have hU' : vx_Zq Bundle.tN "UNASSIGNED_STACK" Bundle.steD A s' s'.heap := by rw [hhp]; exact vx_Zq.moved hW0.alike (hU.kept hS.2.1)
  have hN' : vx_Zq Bundle.tN "SUPPRESSED_SENTINEL" Bundle.listD A s' s'.heap := by rw [hhp]; exact vx_Zq.moved hW0.alike (hN.kept hS.2.1)
  have h : ∀ w ∈ Bundle.ownAtoms own ic cls names, w.before args s' = true := vx_own hat' (vx_isRefq hU'.1) (vx_isRefq hN'.1) hU'.2.word hN'.2.word
  have hown' : s'.vm.findClass own = some m.cls := by rw [hvm]; exact hown
  have hins : (Cond.instantiable cls 6).before args s' = true := h _ (by simp [Bundle.ownAtoms])
  obtain ⟨vm₁, cX, kX, hfX, hkX, -, -, X₁, st1⟩ := Y.newCold hexec (own := own) (C := cls) (index := ik) (n := 6) hown' hk' hins hini'
    (g := F0 m pc ls rest) rfl (by rw [hb]; exact d0) (Nat.le_refl _) (Nat.le_refl _)
  generalize hT1 : (T.setVm vm₁).pushCell { cls := cX, slots := kX.instanceTypes.map defaultValue, vm := .none } = T1 at X₁ st1
  have hcat : (Value.ref T.heap.size).category = 1 := rfl
  have hcellA : T1.heap[T.heap.size]? = some (freshCell cX kX) := by rw [← hT1]; exact State.heap_pushCell_size _ _
  have d3' : decode c.code (pc + 3) = .ok (.dup, 1) := by rw [hb]; exact d3
  have d4' : decode c.code (pc + 4) = .ok (.ldc is, 2) := by rw [hb]; exact d4
  have hstr' : vk_R own is text sa s' := vk_R.warm hW0 hstr
  obtain ⟨U, hsteps, hrun, hend, hW, hsame, ce, hce, hO⟩ := X₁.ctorThrowS hexec htr (own := own) (cls := cls) (names := names) (ic := ic) hown' hcls hnames h (fun x hx => nomatch hx) hfX hkX hcellA (by rw [hhp, hT]; exact Nat.le_refl _) (msg := .ref sa) rfl
    (g := { method := m, pc := pc + 6, locals := ls, stack := .ref sa :: .ref T.heap.size :: .ref T.heap.size :: rest, locked := none }) rfl hsize rfl rfl (rest := rest) rfl
    (by rw [hb]; exact d6) (by rw [hb]; exact d9) hout hRframes (by simp only [List.map_cons, List.sum_cons, hcat]; omega) hlocks
  obtain ⟨f1, f2⟩ := vx_frame hsame
  rw [hhp] at f1 f2
  have hWs : s.WarmedH U.vm := State.WarmedH.trans hW0 hW
  have hcl : s.vm.findClass cls = some ce.cls := by
    have h9 := hO.cls
    rw [hvm] at h9
    exact h9
  have hall : s.sameButNew ({ U with vm := s.vm } : State) locs mc ms := by
    subst hA
    obtain ⟨e1, e2⟩ := hsame
    rw [State.setFrames_setFrames] at e1
    have h2 : (T.setVm s.vm).sameButNew ({ U with vm := s.vm } : State) [] (0 + 1) (0 + 6) := ⟨e1, e2⟩
    have h3 := X.same.trans h2
    rw [List.append_nil] at h3
    exact h3.mono hc hs
  refine ⟨U, ?_, .threw T.heap.size, hrun, hend, Or.inr ⟨T.heap.size, rfl, cls, ce, locs, hx U hWs.alike f1 (fun q hq => f2 q hq (fun z hz => nomatch hz)), hce, hO.vm, hcl, hWs, hall, hf⟩⟩
  refine st1 _ ?_
  show Steps p.tables e below (T1.setTop { method := m, pc := pc + 3, locals := ls, stack := .ref T.heap.size :: rest, locked := none }) _
  jvm_step X₁.here [X₁.here.top, hexec, d3', Value.category]
  exact X₁.ldcString hexec (own := own) (text := text) (index := is) (a := sa) hown' hstr'.1 hstr'.2
    (g := { method := m, pc := pc + 4, locals := ls, stack := .ref T.heap.size :: .ref T.heap.size :: rest, locked := none }) rfl d4' _ hsteps
/-- 'throw new E("text")', the text by a wide index -/
theorem vx_throwSW {cc : ByteArray} {pc : Nat} (hexec : p.tables.exec = Jvm.exec) (hb : c.code = cc) (hl : l.stackTraces = false) {own cls text : String} {names : List String} {ik is ic mc ms sa : Nat} {A : Nat → Prop}
    (hown : s.vm.findClass own = some m.cls) (hcls : Bundle.fit cls = true) (hnames : ∀ n ∈ names, Bundle.fit n = true)
    (hk : (Cond.classLink own ik cls).before args s = true) (hini : (Cond.initialized cls).before args s = true) (hstr : vk_R own is text sa s) (hat : ∀ w ∈ vx_atS own ic cls names, w.before args s = true)
    (hgood : ∀ w ∈ Cond.classLink own ik cls :: Cond.initialized cls :: vx_atS own ic cls names, vx_ot w = true)
    (hU : vx_Zq Bundle.tN "UNASSIGNED_STACK" Bundle.steD A s s.heap) (hN : vx_Zq Bundle.tN "SUPPRESSED_SENTINEL" Bundle.listD A s s.heap) (hS : va_S A s.heap H locs) (hsize : ls.size = c.maxLocals)
    (d0 : decode cc pc = .ok (.new ik, 3)) (d3 : decode cc (pc + 3) = .ok (.dup, 1)) (d4 : decode cc (pc + 4) = .ok (.ldc_w is, 3)) (d7 : decode cc (pc + 7) = .ok (.invokespecial ic, 3)) (d10 : decode cc (pc + 10) = .ok (.athrow, 1))
    (hout : ∀ x ∈ c.exceptionTable.toList, covers x (pc + 10) = false)
    (hRframes : names.length + 3 < R.frames) (hRlocals : (rest.map fun v => v.category).sum + (13 * (names.length + 1) + 43) ≤ R.locals) (hRcells : cells + 1 ≤ R.cells) (hRslots : slots + 6 ≤ R.slots) (hlocks : meth.locks = false)
    (hx : ∀ t : State, s.vm.Alike t.vm → H.size ≤ t.heap.size → (∀ q : Nat, q < H.size → t.heap[q]? = H[q]?) → XC cls s t)
    (hf : ∀ z ∈ locs, free z.base) (hc : cells + 1 ≤ mc) (hs : slots + 6 ≤ ms) :
    W p l e R s m args below meth c H locs cells slots (vx_MQ below Qc XC args s mc ms free) (F0 m pc ls rest) := by
  intro T hT X
  have htr : e.platform.stackTraces = false := (show e.platform.stackTraces = l.stackTraces by rw [X.admits.platform]).trans hl
  have Y := vx_rebase X (R' := { frames := R.frames, locals := R.locals, cells := 1, slots := 6 }) (Nat.le_refl _) (Nat.le_refl _) hRcells hRslots
  obtain ⟨s', hA⟩ : ∃ z, z = (T.setVm s.vm).setFrames (.invoking m args :: below) := ⟨_, rfl⟩
  rw [← hA] at Y
  have hvm : s'.vm = s.vm := by rw [hA]; rfl
  have hhp : s'.heap = H := by rw [hA]; exact hT
  have hW0 : s.WarmedH s'.vm := by rw [hvm]; exact State.WarmedH.refl s
  have hat' : ∀ w ∈ vx_atS own ic cls names, w.before args s' = true := fun w hw => vx_ot_at hW0 hvm.symm (hgood w (List.mem_cons_of_mem _ (List.mem_cons_of_mem _ hw))) (hat w hw)
  have hk' : (Cond.classLink own ik cls).before args s' = true := vx_ot_at hW0 hvm.symm (hgood _ List.mem_cons_self) hk
  have hini' : (Cond.initialized cls).before args s' = true := vx_ot_at hW0 hvm.symm (hgood _ (List.mem_cons_of_mem _ List.mem_cons_self)) hini
  have hU' : vx_Zq Bundle.tN "UNASSIGNED_STACK" Bundle.steD A s' s'.heap := by rw [hhp]; exact vx_Zq.moved hW0.alike (hU.kept hS.2.1)
  have hN' : vx_Zq Bundle.tN "SUPPRESSED_SENTINEL" Bundle.listD A s' s'.heap := by rw [hhp]; exact vx_Zq.moved hW0.alike (hN.kept hS.2.1)
  have h : ∀ w ∈ Bundle.ownAtoms own ic cls names, w.before args s' = true := vx_own hat' (vx_isRefq hU'.1) (vx_isRefq hN'.1) hU'.2.word hN'.2.word
  have hown' : s'.vm.findClass own = some m.cls := by rw [hvm]; exact hown
  have hins : (Cond.instantiable cls 6).before args s' = true := h _ (by simp [Bundle.ownAtoms])
  obtain ⟨vm₁, cX, kX, hfX, hkX, -, -, X₁, st1⟩ := Y.newCold hexec (own := own) (C := cls) (index := ik) (n := 6) hown' hk' hins hini'
    (g := F0 m pc ls rest) rfl (by rw [hb]; exact d0) (Nat.le_refl _) (Nat.le_refl _)
  generalize hT1 : (T.setVm vm₁).pushCell { cls := cX, slots := kX.instanceTypes.map defaultValue, vm := .none } = T1 at X₁ st1
  have hcat : (Value.ref T.heap.size).category = 1 := rfl
  have hcellA : T1.heap[T.heap.size]? = some (freshCell cX kX) := by rw [← hT1]; exact State.heap_pushCell_size _ _
  have d3' : decode c.code (pc + 3) = .ok (.dup, 1) := by rw [hb]; exact d3
  have d4' : decode c.code (pc + 4) = .ok (.ldc_w is, 3) := by rw [hb]; exact d4
  have hstr' : vk_R own is text sa s' := vk_R.warm hW0 hstr
  obtain ⟨U, hsteps, hrun, hend, hW, hsame, ce, hce, hO⟩ := X₁.ctorThrowS hexec htr (own := own) (cls := cls) (names := names) (ic := ic) hown' hcls hnames h (fun x hx => nomatch hx) hfX hkX hcellA (by rw [hhp, hT]; exact Nat.le_refl _) (msg := .ref sa) rfl
    (g := { method := m, pc := pc + 7, locals := ls, stack := .ref sa :: .ref T.heap.size :: .ref T.heap.size :: rest, locked := none }) rfl hsize rfl rfl (rest := rest) rfl
    (by rw [hb]; exact d7) (by rw [hb]; exact d10) hout hRframes (by simp only [List.map_cons, List.sum_cons, hcat]; omega) hlocks
  obtain ⟨f1, f2⟩ := vx_frame hsame
  rw [hhp] at f1 f2
  have hWs : s.WarmedH U.vm := State.WarmedH.trans hW0 hW
  have hcl : s.vm.findClass cls = some ce.cls := by
    have h9 := hO.cls
    rw [hvm] at h9
    exact h9
  have hall : s.sameButNew ({ U with vm := s.vm } : State) locs mc ms := by
    subst hA
    obtain ⟨e1, e2⟩ := hsame
    rw [State.setFrames_setFrames] at e1
    have h2 : (T.setVm s.vm).sameButNew ({ U with vm := s.vm } : State) [] (0 + 1) (0 + 6) := ⟨e1, e2⟩
    have h3 := X.same.trans h2
    rw [List.append_nil] at h3
    exact h3.mono hc hs
  refine ⟨U, ?_, .threw T.heap.size, hrun, hend, Or.inr ⟨T.heap.size, rfl, cls, ce, locs, hx U hWs.alike f1 (fun q hq => f2 q hq (fun z hz => nomatch hz)), hce, hO.vm, hcl, hWs, hall, hf⟩⟩
  refine st1 _ ?_
  show Steps p.tables e below (T1.setTop { method := m, pc := pc + 3, locals := ls, stack := .ref T.heap.size :: rest, locked := none }) _
  jvm_step X₁.here [X₁.here.top, hexec, d3', Value.category]
  exact X₁.ldcStringW hexec (own := own) (text := text) (index := is) (a := sa) hown' hstr'.1 hstr'.2
    (g := { method := m, pc := pc + 4, locals := ls, stack := .ref T.heap.size :: .ref T.heap.size :: rest, locked := none }) rfl d4' _ hsteps
end Ends
section Bodies
variable {l : Launch}
theorem vx_ofW {y : MethodName} {ws ws' : List Cond} {rm : Room} {Pc : Array Value → State → Prop} {Qc : Array Value → State → Outcome → State → Prop} {XC : String → State → State → Prop} {mc ms : Nat} {free : Addr → Prop} {cc : ByteArray} {maxL : Nat} {ret : Option FieldType}
    (hy : plainName y.cls = true) (hw : ws = Cond.code y cc maxL ret :: ws')
    (body : ∀ p e s m args below meth c s₁, BodyLoose p l y (headSpec ws rm) cc maxL ret e s m args below meth c s₁ → c.maxLocals = maxL → (∀ x ∈ c.exceptionTable.toList, False) → Pc args s →
      W p l e (headSpec ws rm).room s m args below meth c s.heap [] 0 0 (vx_MQ below Qc XC args s mc ms free) (entryFrame m args maxL)) : vx_Met l y ws rm Pc Qc XC mc ms free := by
  refine MetFree.of_bodyS (code := cc) (maxLocals := maxL) (ret := ret) hy ?_ ?_
  · intro args s m h hn
    obtain ⟨meth, c, h1, h2, h3, h4, h5, h6, -, -⟩ := Cond.code_spec hn (atoms_spec (ws := ws) h _ (by rw [hw]; exact List.mem_cons_self))
    exact ⟨meth, c, h1, h2, h3, h4, h5, h6⟩
  · intro p e s m args below meth c s₁ B hml hP _
    have hh0 : s₁.heap = s.heap := by rw [B.state]; rfl
    have ht : ∀ x ∈ c.exceptionTable.toList, False := by
      obtain ⟨meth9, c9, h1, h2, -, -, -, -, h7, -⟩ := Cond.code_spec B.named (atoms_spec (ws := ws) B.pre _ (by rw [hw]; exact List.mem_cons_self))
      cases Option.some.inj (h1.symm.trans B.method)
      cases Option.some.inj (h2.symm.trans (Stand.of_body B).code)
      intro x hx
      rw [Array.isEmpty_iff.mp h7] at hx
      cases hx
    obtain ⟨t, a1, o, b1, b2, b3⟩ := body p e s m args below meth c s₁ B hml ht hP s₁ hh0 (Stand.of_body B)
    exact ⟨t, o, a1, b1, b2, b3⟩
/-- the table of a body with handlers -/
theorem vx_table {p : Program} {x y : MethodName} {S : Spec} {cc bytes : ByteArray} {maxL maxL' : Nat} {ret ret' : Option FieldType} {e : Env} {s s₁ : State} {m : MethodId} {args : Array Value} {below : List Frame} {meth : Method} {c : Code} {hh : List (Nat × Nat × Nat × Nat)}
    (B : BodyLoose p l y S cc maxL ret e s m args below meth c s₁) (h : (Cond.codeWith y bytes maxL' ret' hh).before args s = true) : c.exceptionTable.toList = tableOf hh := by
  obtain ⟨m9, meth9, c9, hn9, h1, h2, -, -, h6, -⟩ := Cond.codeWith_spec h
  cases Option.some.inj (hn9.symm.trans B.named)
  cases Option.some.inj (h1.symm.trans B.method)
  cases Option.some.inj (h2.symm.trans (Stand.of_body B).code)
  rw [← h6, table_eq]
end Bodies
end VXA
/-! ===== END ===== -/
/-! ===== BEGIN a static call of a method with an exception table ===== -/
section VXS
variable {p : Program} {l : Launch} {e : Env} {R : Room} {s : State} {m : MethodId} {args : Array Value} {below : List Frame} {meth : Method} {c : Code} {T : State} {H : Heap} {locs : List Loc} {cells slots : Nat}
abbrev vx_CSW (R : Room) (s : State) (args : Array Value) (own : String) (index : Nat) (y : MethodName) (bytes : ByteArray) (maxL : Nat) (ret : Option FieldType) (hh : List (Nat × Nat × Nat × Nat)) (ws : List Cond) (rm : Room) (mc ms n : Nat) : Prop :=
  (rm.cells = mc ∧ rm.slots = ms ∧ rm.frames + 1 ≤ R.frames ∧ 8 + (maxL + 11) + rm.locals ≤ R.locals ∧ (∀ w ∈ ws, ∀ (a' : Array Value) (U : State), s.WarmedH U.vm → w.before a' U = true) ∧ Cond.codeWith y bytes maxL ret hh ∈ ws) ∧
  (Cond.codeWith y bytes maxL ret hh).before args s = true ∧ (Cond.initialized y.cls).before args s = true ∧ (y.cls ≠ "java/lang/invoke/MethodHandle" ∧ y.cls ≠ "java/lang/invoke/VarHandle") ∧
  (∀ sig, parseMethodDescriptor y.desc = some sig → n = sig.parameters.length) ∧ (Cond.methodLink own index y).before args s = true ∧ (Cond.static y).before args s = true
theorem vx_cwSW {own : String} {index maxL mc ms : Nat} {y : MethodName} {bytes : ByteArray} {ret : Option FieldType} {hh : List (Nat × Nat × Nat × Nat)} {Ts ws ws' : List Cond} {rm : Room} (n : Nat) (ht : ∀ w ∈ Ts, w.before args s = true) (hT : GoodIn Ts (va_wsS own index y ws)) (hw : ws = Cond.codeWith y bytes maxL ret hh :: ws') (hrc : rm.cells = mc) (hrs : rm.slots = ms)
    (hd : y.cls ≠ "java/lang/invoke/MethodHandle" ∧ y.cls ≠ "java/lang/invoke/VarHandle" ∧ (parseMethodDescriptor y.desc).map (fun d => d.parameters.length) = some n) (hR : rm.frames + 1 ≤ R.frames ∧ 8 + (maxL + 11) + rm.locals ≤ R.locals) :
    vx_CSW R s args own index y bytes maxL ret hh ws rm mc ms n := by
  have ok : ∀ w ∈ va_wsS own index y ws, w.before args s = true := fun w h => ht w (hT w h).1
  have hG : GoodIn Ts ws := fun w h => hT w (by unfold va_wsS; exact List.mem_append_right _ h)
  have hc : Cond.codeWith y bytes maxL ret hh ∈ ws := by rw [hw]; exact List.mem_cons_self
  refine ⟨⟨hrc, hrs, hR.1, hR.2, pay_in ht hG, hc⟩, ht _ (hG _ hc).1, ok _ (by simp [va_wsS]), ⟨hd.1, hd.2.1⟩, fun sig h => ?_, ok _ (by simp [va_wsS]), ok _ (by simp [va_wsS])⟩
  have h2 := hd.2.2
  rw [h] at h2
  exact (Option.some.inj h2).symm
theorem vx_callSW (X : Stand p l e R s m args below meth c T locs cells slots) (hexec : p.tables.exec = Jvm.exec) {own : String} {index : Nat} {y : MethodName} {bytes : ByteArray} {maxL : Nat} {ret : Option FieldType} {hh : List (Nat × Nat × Nat × Nat)}
    (hown : s.vm.findClass own = some m.cls) (hlink : (Cond.methodLink own index y).before args s = true) (hstat : (Cond.static y).before args s = true) (hinit : (Cond.initialized y.cls).before args s = true)
    (hcode : (Cond.codeWith y bytes maxL ret hh).before args s = true) (hy : y.cls ≠ "java/lang/invoke/MethodHandle" ∧ y.cls ≠ "java/lang/invoke/VarHandle")
    {W9 : Nat} {Pre : Pt → Array Value → Prop} {Post : Pt → Array Value → Option Value → Pt → Prop} (hK : Back l R p e below s args y 3 W9 Pre Post)
    {g : JFrame} (hg : g.method = m) (hsize : g.locals.size = c.maxLocals) {argsL rest : List Value} (hlen : ∀ sig, parseMethodDescriptor y.desc = some sig → argsL.length = sig.parameters.length)
    (hstack : g.stack = argsL.reverse ++ rest) (hW : 2 * g.monitorRoom + (rest.map fun v => v.category).sum ≤ W9) (hdg : decode c.code g.pc = .ok (.invokestatic index, 3))
    (hpre : ∀ vm₁, s.WarmedH vm₁ → Pre ⟨T.setVm vm₁, locs, cells, slots⟩ argsL.toArray) :
    ∃ (v : Option Value) (vm₁ : Vm) (B : Pt), s.WarmedH vm₁ ∧ Stand p l e R s m args below meth c B.U B.locs B.cells B.slots ∧ Post ⟨T.setVm vm₁, locs, cells, slots⟩ argsL.toArray v B ∧
      ∀ target, Steps p.tables e below (B.U.setTop { g with pc := g.pc + 3, stack := v.toList ++ rest }) target → Steps p.tables e below (T.setTop g) target := by
  obtain ⟨mk, methM, cM, hnamed, hmethM, -, -, -, -, -, -, hsigM⟩ := Cond.codeWith_spec hcode
  have hstatic : methM.isStatic = true := Cond.static_spec hnamed hmethM hstat
  obtain ⟨kP, hkP, -⟩ := className_of_methodNamed hnamed
  have hinitP : kP.init = .initialized := Cond.initialized_spec (findClass_of_methodNamed hnamed) hkP hinit
  obtain ⟨vm₁, X₁, hstep₁⟩ := X.invokestatic hexec hown hlink hnamed hmethM hstatic hkP hinitP hy (g := g) hg (argsL := argsL) (rest := rest) (hlen _ hsigM) hstack hdg
  obtain ⟨v, B, X', hpost, hsteps⟩ := hK m meth c ⟨T.setVm vm₁, locs, cells, slots⟩ { g with stack := rest } (.invokestatic index) mk argsL.toArray X₁ hg hsize hdg hW (X₁.named hnamed) (hpre vm₁ X₁.warmed)
  exact ⟨v, vm₁, B, X₁.warmed, X', hpost, fun target h => hstep₁ _ fun acts => by rw [doInvoke_state]; exact hsteps.trans h⟩
theorem vx_runSW {y : MethodName} {bytes cc : ByteArray} {maxL nL mc ms n index : Nat} {ret : Option FieldType} {hh : List (Nat × Nat × Nat × Nat)} {ws : List Cond} {rm : Room} {Pc : Array Value → State → Prop} {Qc : Array Value → State → Outcome → State → Prop} {free : Addr → Prop} {Ts : List Cond} {own : String} {As rest : List Value} {g : JFrame}
    (S : CallFix p m c cc nL s args Ts own) (hM : Met l y ws rm Pc Qc mc ms free) (cw : vx_CSW R s args own index y bytes maxL ret hh ws rm mc ms n) (hp : PreS s H Pc As)
    (hg : g.method = m) (hn : As.length = n) (hsize : g.locals.size = nL) (hstack : g.stack = As.reverse ++ rest) (hW : 2 * g.monitorRoom + (rest.map fun v => v.category).sum ≤ 8) (hdg : decode cc g.pc = .ok (.invokestatic index, 3)) (hf : cells + mc ≤ R.cells ∧ slots + ms ≤ R.slots) :
    va_Run p l e R s m args below meth c H locs cells slots mc ms g rest (Qc As.toArray) (free) := by
  obtain ⟨⟨hrc, hrs, hfr, hlo, hws, hcw⟩, hcode, hini, hy, hlen, hl, hstt⟩ := cw
  have hK : Back l R p e below s args y 3 8 (PreOf R mc ms Pc) (PostOf Qc mc ms free) := va_backW (hh := hh) (bytes := bytes) (maxL := maxL) (ret := ret) hM hp.1 hrc hrs hfr hlo hws hcw (fun a' U hW => word_at hW (Or.inl (by first | rfl | simp [Cond.onTables, Cond.keeps, Cond.steady])) hini)
  obtain ⟨hx, hb, hml, ho, -⟩ := S
  intro T hT X
  obtain ⟨v, vm₁, ⟨U', l2, c2, s2⟩, hW₁, X', ⟨g', mk, t, L, e1, e2, hq, h1, hL, h2, h3⟩, st⟩ := vx_callSW X hx (hh := hh) (bytes := bytes) (maxL := maxL) (ret := ret) ho hl hstt hini hcode hy hK hg (hsize.trans hml.symm) (argsL := As) (rest := rest) (fun sig h => hn.trans (hlen sig h)) hstack hW (by rw [hb]; exact hdg)
    (fun vm₁ hW₁ => ⟨hf.1, hf.2, hp.2 (T.setVm vm₁) hT hW₁⟩)
  dsimp only [Pt.U, Pt.locs, Pt.cells, Pt.slots] at X' e1 e2 h1 h2 h3 st
  subst h1; subst h2; subst h3
  exact ⟨v, (T.setVm vm₁).calling g' mk As.toArray, t, U', L, hT, X', hL, e1, e2, hq, st⟩
/-- not caught here, past rows that name other classes: it goes on to the caller -/
theorem vx_outP {p : Program} {l : Launch} {e : Env} {R : Room} {s : State} {m : MethodId} {args : Array Value} {below : List Frame} {meth : Method} {c : Code} {H : Heap} {locs : List Loc} {cells slots : Nat} {free : Addr → Prop} {ls : Array Slot} {rest : List Value} {Qc : Array Value → State → Outcome → State → Prop} {XC : String → State → State → Prop}
    {pc : Nat} {own E : String} {ce : Cell} {q : Addr} {mc ms : Nat} (hown : s.vm.findClass own = some m.cls) (hlocks : meth.locks = false)
    (hpass : ∀ z ∈ c.exceptionTable.toList, covers z pc = false ∨ (z.catchType ≠ 0 ∧ ∃ nm : String, (Cond.classLink own z.catchType nm).before args s = true ∧ va_Nc E nm s)) (hcell : H[q]? = some ce) (hv : ce.vm = .none) (hcl : s.vm.findClass E = some ce.cls)
    (hx : ∀ t : State, t.heap = H → s.vm.Alike t.vm → XC E s t) (hf : ∀ z ∈ locs, free z.base) (hc : cells ≤ mc) (hs : slots ≤ ms) :
    vx_W p l e R s m args below meth c H locs cells slots (vx_MQ below Qc XC args s mc ms free) (F0 m pc ls rest) q := by
  intro T hT X
  have hpl : e.platform.magicAccessors = ({} : Platform).magicAccessors := by rw [X.admits.platform]
  obtain ⟨vm', hW', X', st⟩ := X.outThrough hlocks q (g := F0 m pc ls rest) rfl rfl rfl (cell := ce) (by rw [hT]; exact hcell) (by rw [hv]; rfl)
    (by obtain ⟨k9, h9, -⟩ := Vm.findClass_spec hcl; exact ⟨k9, h9⟩) (fun z hz => by
      rcases hpass z hz with h | ⟨hz0, nm, hl1, hn1⟩
      · exact Or.inl h
      · obtain ⟨c6, hc6, hcl6⟩ := Cond.classLink_spec hown hl1 e.platform hpl
        obtain ⟨a8, b8, h1, h2, h3⟩ := hn1
        cases Option.some.inj (h1.symm.trans hcl)
        cases Option.some.inj (h2.symm.trans hc6)
        exact Or.inr ⟨hz0, _, hcl6, h3⟩)
  obtain ⟨g₀, hfr⟩ := X'.frames_eq
  have hcell9 : ((T.setVm vm').setFrames (.throwing q :: below)).heap[q]? = some ce := by
    show T.heap[q]? = some ce
    rw [hT]; exact hcell
  have hend : Ended ((T.setVm vm').setFrames (.throwing q :: below)) below (.threw q) := State.frames_setFrames _ (State.cur_lt_of_frames hfr)
  refine ⟨(T.setVm vm').setFrames (.throwing q :: below), ?_, .threw q, X'.here.running, hend, Or.inr ⟨q, rfl, E, ce, locs, hx _ hT (X'.ends _).1.alike, hcell9, hv, hcl, (X'.ends _).1, (X'.ends _).2.mono hc hs, hf⟩⟩
  rw [X.pushThrowing_eq]
  exact st
/-- a thing of a world lies in the heap -/
theorem vx_lt {D : va_G} {cl : List vw_C} {ws : va_W} {H1 : Heap} (h : va_P D cl ws H1) {k : Nat} {q : Nat × va_E} (hk : ws[k]? = some q) : q.1 < H1.size := (h k q hk).lt
end VXS
/-! ===== END ===== -/
/-! ===== BEGIN methods with a table of their own: called by a name, returning or throwing ===== -/
section VXH
/-! vx_backW, vx_callVX, vx_callSX, vx_callVW, vx_runVW, vx_runVX, vx_runSX, vx_ofWH follow the same proofs as their sisters above (Free/Laws.lean, Shelf42/LK1.lean); vx_outP calls Shelf42/NT130.lean (outThrough). -/
section
variable {l : Launch} {R : Room} {p : Program} {e : Env} {below : List Frame} {s : State} {sargs : Array Value} {y : MethodName} {len W9 : Nat}
theorem vx_backW {ws : List Cond} {rm : Room} {Pc : Array Value → State → Prop} {Qc : Array Value → State → Outcome → State → Prop} {XC : String → State → State → Prop} {mc ms : Nat} {free : Addr → Prop} {bytes : ByteArray} {maxL : Nat} {ret : Option FieldType} {hh : List (Nat × Nat × Nat × Nat)}
    (hM : vx_Met l y ws rm Pc Qc XC mc ms free) (hblind : FrameBlind Pc) (hrc : rm.cells = mc) (hrs : rm.slots = ms)
    (hframes : rm.frames + 1 ≤ R.frames) (hlocals : W9 + (maxL + 11) + rm.locals ≤ R.locals)
    (hws : ∀ w ∈ ws, ∀ a' U, s.WarmedH U.vm → w.before a' U = true) (hcode : Cond.codeWith y bytes maxL ret hh ∈ ws) (hinit : ∀ a' U, s.WarmedH U.vm → (Cond.initialized y.cls).before a' U = true) :
    vx_Back l R p e below s sargs y len W9 (PreOf R mc ms Pc) (PostOf Qc mc ms free) (vx_Post XC mc ms free) := by
  intro m meth c A g ig mk a X hg hsize hdg hW hn hp
  have h1 : (headSpec ws rm).pre.before a A.U = true := atoms_intro fun w hw => hws w hw _ _ X.warmed
  have h2 : (Cond.codeWith y bytes maxL ret hh).before a A.U = true := hws _ hcode _ _ X.warmed
  have h3 : (Cond.initialized y.cls).before a A.U = true := hinit _ _ X.warmed
  have h4 : A.cells + (headSpec ws rm).room.cells ≤ R.cells := by rw [show (headSpec ws rm).room.cells = mc from hrc]; exact hp.1
  have h5 : A.slots + (headSpec ws rm).room.slots ≤ R.slots := by rw [show (headSpec ws rm).room.slots = ms from hrs]; exact hp.2.1
  have hPc : Pc a (A.U.calling g mk a) := hblind _ _ _ _ hp.2.2
  obtain ⟨U, Ls, c0, s0⟩ := A
  dsimp only [Pt.U, Pt.locs, Pt.cells, Pt.slots] at h1 h2 h3 h4 h5 X hn hPc ⊢
  obtain ⟨m9, methY, cY, hn9, hmY, hcY, -, hlY, -⟩ := Cond.codeWith_spec h2
  cases Option.some.inj (hn9.symm.trans hn)
  obtain ⟨kY, hkY, -⟩ := className_of_methodNamed hn
  have hinitY : kY.init = .initialized := Cond.initialized_spec (findClass_of_methodNamed hn) hkY h3
  have h : At U g.method c below := by rw [hg]; exact X.here
  have hlocals9 : W9 + (maxL + 11) + (headSpec ws rm).room.locals ≤ R.locals := hlocals
  have happ : (headSpec ws rm).appliesLoose y e.platform (U.calling g mk a) = true :=
    Spec.appliesLoose_calling (g := g) h hdg hn hkY hinitY
      (X.room_calling (g := g) (R' := (headSpec ws rm).room) hsize hmY hcY hframes (by rw [hlY]; omega) h4 h5) h1
  obtain ⟨mid, hmid⟩ := h.above
  have hfr : (U.setTop g).frames = (.java g :: mid) ++ below := by rw [State.frames_setTop' g h.top, hmid]; rfl
  obtain ⟨o, s₂, hsteps, -, hend, hq⟩ := Steps.callFree hM p X.admits X.cas X.clock (acts := []) hfr happ hPc trivial
  have hq' : vx_Q Qc XC mc ms free a (U.calling g mk a) o s₂ := hq
  rw [State.frames_setTop' g h.top] at hend
  obtain ⟨g₀, hg0⟩ := Option.isSome_iff_exists.mp h.top
  obtain ⟨r, hr⟩ := State.topJava?_eq_some.mp hg0
  have hr' : (({ U with heap := s₂.heap, slotsUsed := s₂.slotsUsed } : State).setVm s₂.vm).frames = .java g₀ :: r := hr
  rcases hq' with ⟨hqc, L, hfe, hL⟩ | ⟨q, rfl, E, ce, L, hx, hce, hcv, hcl, hW₂, hsm, hL⟩
  · obtain ⟨⟨v, rfl⟩, hW₂, e2, q2, q3, q4, q5, q6⟩ := id hfe
    have e3 : s₂ = ({ (U.calling g mk a).setFrames s₂.frames with heap := s₂.heap, slotsUsed := s₂.slotsUsed } : State).setVm s₂.vm := by
      have : s₂ = ({ s₂ with vm := (U.calling g mk a).vm } : State).setVm s₂.vm := rfl
      rw [e2] at this
      exact this
    obtain ⟨c₂, i₂, len₂, hc₂, hd₂, hf₂⟩ := hend
    have hW' : U.WarmedH s₂.vm := hW₂
    have hcc : c₂ = c := by
      have h1 : s₂.code? g.method = U.code? g.method := by
        rw [State.code?_eq, State.code?_eq, hW'.alike.method?]
      exact Option.some.inj (hc₂.symm.trans (h1.trans h.code))
    subst hcc
    have hlen : len₂ = len := by rw [hdg] at hd₂; cases hd₂; rfl
    subst hlen
    have hs₂ : s₂ = (({ U with heap := s₂.heap, slotsUsed := s₂.slotsUsed } : State).setVm s₂.vm).setTop { g with pc := g.pc + len₂, stack := v.toList ++ g.stack } := by
      refine e3.trans ?_
      rw [hf₂, State.calling_eq h.top, State.setFrames_setFrames, State.setTop_of_frames _ hr', hr]
      rfl
    have hsame : U.sameButNew ({ U with heap := s₂.heap, slotsUsed := s₂.slotsUsed } : State) L mc ms := by
      refine ⟨?_, q2, q3, q4, q5, q6⟩
      obtain ⟨t, ht, -⟩ := State.frames_cons hr
      show ({ U with heap := s₂.heap, slotsUsed := s₂.slotsUsed } : State) = { U.setFrames U.frames with heap := s₂.heap, slotsUsed := s₂.slotsUsed }
      rw [State.setFrames_self ht]
    subst hg
    refine Or.inl ⟨v, ⟨(({ U with heap := s₂.heap, slotsUsed := s₂.slotsUsed } : State).setVm s₂.vm), Ls ++ L, c0 + mc, s0 + ms⟩,
      ⟨X.admits, X.cas, X.clock, X.frames, X.room, X.hears, X.method, X.code, (X.here.setHeapUsed s₂.heap s₂.slotsUsed).setVm hW'.alike, X.tail, State.WarmedH.trans X.warmed hW', X.limits, X.bytes, X.same.trans (hsame.setVm s.vm)⟩,
      ⟨g, mk, s₂, L, rfl, rfl, hqc, rfl, hL, rfl, rfl⟩, ?_⟩
    show Steps p.tables e below _ ((({ U with heap := s₂.heap, slotsUsed := s₂.slotsUsed } : State).setVm s₂.vm).setTop { g with pc := g.pc + len₂, stack := v.toList ++ g.stack })
    rw [← hs₂]
    exact hsteps
  · obtain ⟨e2, q2, q3, q4, q5, q6⟩ := id hsm
    have e3 : s₂ = ({ (U.calling g mk a).setFrames s₂.frames with heap := s₂.heap, slotsUsed := s₂.slotsUsed } : State).setVm s₂.vm := by
      have : s₂ = ({ s₂ with vm := (U.calling g mk a).vm } : State).setVm s₂.vm := rfl
      rw [e2] at this
      exact this
    have hf₂ : s₂.frames = .throwing q :: .java g :: U.frames.tail := hend
    have hW' : U.WarmedH s₂.vm := hW₂
    have hs₂ : s₂ = ((({ U with heap := s₂.heap, slotsUsed := s₂.slotsUsed } : State).setVm s₂.vm).setTop g).pushFrame (.throwing q) := by
      refine e3.trans ?_
      rw [hf₂, State.calling_eq h.top, State.setFrames_setFrames, State.pushFrame, State.frames_setTop _ hr', State.setTop_of_frames _ hr', State.setFrames_setFrames, hr]
      rfl
    have hsame : U.sameButNew ({ U with heap := s₂.heap, slotsUsed := s₂.slotsUsed } : State) L mc ms := by
      refine ⟨?_, q2, q3, q4, q5, q6⟩
      obtain ⟨t, ht, -⟩ := State.frames_cons hr
      show ({ U with heap := s₂.heap, slotsUsed := s₂.slotsUsed } : State) = { U.setFrames U.frames with heap := s₂.heap, slotsUsed := s₂.slotsUsed }
      rw [State.setFrames_self ht]
    subst hg
    refine Or.inr ⟨q, ⟨(({ U with heap := s₂.heap, slotsUsed := s₂.slotsUsed } : State).setVm s₂.vm), Ls ++ L, c0 + mc, s0 + ms⟩,
      ⟨X.admits, X.cas, X.clock, X.frames, X.room, X.hears, X.method, X.code, (X.here.setHeapUsed s₂.heap s₂.slotsUsed).setVm hW'.alike, X.tail, State.WarmedH.trans X.warmed hW', X.limits, X.bytes, X.same.trans (hsame.setVm s.vm)⟩,
      ⟨g, mk, s₂, L, E, ce, rfl, rfl, hx, hce, hcv, hcl, rfl, hL, rfl, rfl⟩, ?_⟩
    show Steps p.tables e below _ (((({ U with heap := s₂.heap, slotsUsed := s₂.slotsUsed } : State).setVm s₂.vm).setTop g).pushFrame (.throwing q))
    rw [← hs₂]
    exact hsteps
end
variable {p : Program} {l : Launch} {e : Env} {R : Room} {s : State} {m : MethodId} {args : Array Value} {below : List Frame} {meth : Method} {c : Code} {T : State} {H : Heap} {locs : List Loc} {cells slots : Nat}
theorem vx_callVX (X : Stand p l e R s m args below meth c T locs cells slots) (hexec : p.tables.exec = Jvm.exec) {own C : String} {index : Nat} {y : MethodName} {bytes : ByteArray} {maxL : Nat} {ret : Option FieldType} {hh : List (Nat × Nat × Nat × Nat)}
    (hown : s.vm.findClass own = some m.cls) (hlink : (Cond.methodLink own index y).before args s = true) (hinst : (Cond.instanceMethod y).before args s = true) (hsel : (Cond.selects C y y).before args s = true)
    (hcode : (Cond.codeWith y bytes maxL ret hh).before args s = true) (hy : y.cls ≠ "java/lang/invoke/MethodHandle" ∧ y.cls ≠ "java/lang/invoke/VarHandle")
    {W9 : Nat} {Pre : Pt → Array Value → Prop} {Post : Pt → Array Value → Option Value → Pt → Prop} {PostX : Pt → Array Value → Addr → Pt → Prop} (hK : vx_Back l R p e below s args y 3 W9 Pre Post PostX)
    {b : Addr} {cellB : Cell} (hcell : T.heap[b]? = some cellB) (hobj : cellB.vm.isStatics = false) (hcls : s.vm.findClass C = some cellB.cls)
    {g : JFrame} (hg : g.method = m) (hsize : g.locals.size = c.maxLocals) {argsL rest : List Value} (hlen : ∀ sig, parseMethodDescriptor y.desc = some sig → argsL.length = sig.parameters.length)
    (hstack : g.stack = argsL.reverse ++ .ref b :: rest) (hW : 2 * g.monitorRoom + (rest.map fun v => v.category).sum ≤ W9) (hdg : decode c.code g.pc = .ok (.invokevirtual index, 3))
    (hpre : ∀ vm₁, s.WarmedH vm₁ → Pre ⟨T.setVm vm₁, locs, cells, slots⟩ (Value.ref b :: argsL).toArray) :
    (∃ (v : Option Value) (vm₁ : Vm) (B : Pt), s.WarmedH vm₁ ∧ Stand p l e R s m args below meth c B.U B.locs B.cells B.slots ∧ Post ⟨T.setVm vm₁, locs, cells, slots⟩ (Value.ref b :: argsL).toArray v B ∧
      ∀ target, Steps p.tables e below (B.U.setTop { g with pc := g.pc + 3, stack := v.toList ++ rest }) target → Steps p.tables e below (T.setTop g) target) ∨
    (∃ (q : Addr) (vm₁ : Vm) (B : Pt), s.WarmedH vm₁ ∧ Stand p l e R s m args below meth c B.U B.locs B.cells B.slots ∧ PostX ⟨T.setVm vm₁, locs, cells, slots⟩ (Value.ref b :: argsL).toArray q B ∧
      Steps p.tables e below (T.setTop g) ((B.U.setTop { g with stack := rest }).pushFrame (.throwing q))) := by
  obtain ⟨mk, methM, hnamed, hmethM, hstM, habM⟩ := Cond.instanceMethod_spec hinst
  obtain ⟨m8, methM', cM, hn8, hmethM', -, -, -, -, -, -, hsigM⟩ := Cond.codeWith_spec hcode
  cases Option.some.inj (hn8.symm.trans hnamed)
  cases hmethM.symm.trans hmethM'
  obtain ⟨c2, r2, m2, q1, q2, q3, q4, kP, hkP, hkPi⟩ := Cond.selects_spec hsel
  cases hcls.symm.trans q1
  cases (State.methodFound?_of_named hnamed hy).symm.trans q2
  cases hnamed.symm.trans q3
  have hselP : selectMethod e.platform s.vm cellB.cls mk = .method mk := by rw [Launch.admits_selectMethod X.admits]; exact q4
  obtain ⟨vm₁, X₁, hstep₁⟩ := X.invokevirtual hexec hown hlink hnamed hmethM hstM hkP hkPi hy (a := b) (cell := cellB) hcell
    (fun z h => by rw [h] at hobj; cases hobj) hselP hmethM habM hkP hkPi (g := g) hg (argsL := argsL) (rest := rest) (hlen _ hsigM) hstack hdg
  rcases hK m meth c ⟨T.setVm vm₁, locs, cells, slots⟩ { g with stack := rest } (.invokevirtual index) mk (Value.ref b :: argsL).toArray X₁ hg hsize hdg hW (X₁.named hnamed) (hpre vm₁ X₁.warmed) with ⟨v, B, X', hpost, hsteps⟩ | ⟨q, B, X', hpost, hsteps⟩
  · exact Or.inl ⟨v, vm₁, B, X₁.warmed, X', hpost, fun target h => hstep₁ _ fun acts => by rw [doInvoke_state]; exact hsteps.trans h⟩
  · exact Or.inr ⟨q, vm₁, B, X₁.warmed, X', hpost, hstep₁ _ fun acts => by rw [doInvoke_state]; exact hsteps⟩
theorem vx_callSX (X : Stand p l e R s m args below meth c T locs cells slots) (hexec : p.tables.exec = Jvm.exec) {own : String} {index : Nat} {y : MethodName} {bytes : ByteArray} {maxL : Nat} {ret : Option FieldType} {hh : List (Nat × Nat × Nat × Nat)}
    (hown : s.vm.findClass own = some m.cls) (hlink : (Cond.methodLink own index y).before args s = true) (hstat : (Cond.static y).before args s = true) (hinit : (Cond.initialized y.cls).before args s = true)
    (hcode : (Cond.codeWith y bytes maxL ret hh).before args s = true) (hy : y.cls ≠ "java/lang/invoke/MethodHandle" ∧ y.cls ≠ "java/lang/invoke/VarHandle")
    {W9 : Nat} {Pre : Pt → Array Value → Prop} {Post : Pt → Array Value → Option Value → Pt → Prop} {PostX : Pt → Array Value → Addr → Pt → Prop} (hK : vx_Back l R p e below s args y 3 W9 Pre Post PostX)
    {g : JFrame} (hg : g.method = m) (hsize : g.locals.size = c.maxLocals) {argsL rest : List Value} (hlen : ∀ sig, parseMethodDescriptor y.desc = some sig → argsL.length = sig.parameters.length)
    (hstack : g.stack = argsL.reverse ++ rest) (hW : 2 * g.monitorRoom + (rest.map fun v => v.category).sum ≤ W9) (hdg : decode c.code g.pc = .ok (.invokestatic index, 3))
    (hpre : ∀ vm₁, s.WarmedH vm₁ → Pre ⟨T.setVm vm₁, locs, cells, slots⟩ argsL.toArray) :
    (∃ (v : Option Value) (vm₁ : Vm) (B : Pt), s.WarmedH vm₁ ∧ Stand p l e R s m args below meth c B.U B.locs B.cells B.slots ∧ Post ⟨T.setVm vm₁, locs, cells, slots⟩ argsL.toArray v B ∧
      ∀ target, Steps p.tables e below (B.U.setTop { g with pc := g.pc + 3, stack := v.toList ++ rest }) target → Steps p.tables e below (T.setTop g) target) ∨
    (∃ (q : Addr) (vm₁ : Vm) (B : Pt), s.WarmedH vm₁ ∧ Stand p l e R s m args below meth c B.U B.locs B.cells B.slots ∧ PostX ⟨T.setVm vm₁, locs, cells, slots⟩ argsL.toArray q B ∧
      Steps p.tables e below (T.setTop g) ((B.U.setTop { g with stack := rest }).pushFrame (.throwing q))) := by
  obtain ⟨mk, methM, cM, hnamed, hmethM, -, -, -, -, -, -, hsigM⟩ := Cond.codeWith_spec hcode
  have hstatic : methM.isStatic = true := Cond.static_spec hnamed hmethM hstat
  obtain ⟨kP, hkP, -⟩ := className_of_methodNamed hnamed
  have hinitP : kP.init = .initialized := Cond.initialized_spec (findClass_of_methodNamed hnamed) hkP hinit
  obtain ⟨vm₁, X₁, hstep₁⟩ := X.invokestatic hexec hown hlink hnamed hmethM hstatic hkP hinitP hy (g := g) hg (argsL := argsL) (rest := rest) (hlen _ hsigM) hstack hdg
  rcases hK m meth c ⟨T.setVm vm₁, locs, cells, slots⟩ { g with stack := rest } (.invokestatic index) mk argsL.toArray X₁ hg hsize hdg hW (X₁.named hnamed) (hpre vm₁ X₁.warmed) with ⟨v, B, X', hpost, hsteps⟩ | ⟨q, B, X', hpost, hsteps⟩
  · exact Or.inl ⟨v, vm₁, B, X₁.warmed, X', hpost, fun target h => hstep₁ _ fun acts => by rw [doInvoke_state]; exact hsteps.trans h⟩
  · exact Or.inr ⟨q, vm₁, B, X₁.warmed, X', hpost, hstep₁ _ fun acts => by rw [doInvoke_state]; exact hsteps⟩
theorem vx_callVW (X : Stand p l e R s m args below meth c T locs cells slots) (hexec : p.tables.exec = Jvm.exec) {own C : String} {index : Nat} {y : MethodName} {bytes : ByteArray} {maxL : Nat} {ret : Option FieldType} {hh : List (Nat × Nat × Nat × Nat)}
    (hown : s.vm.findClass own = some m.cls) (hlink : (Cond.methodLink own index y).before args s = true) (hinst : (Cond.instanceMethod y).before args s = true) (hsel : (Cond.selects C y y).before args s = true)
    (hcode : (Cond.codeWith y bytes maxL ret hh).before args s = true) (hy : y.cls ≠ "java/lang/invoke/MethodHandle" ∧ y.cls ≠ "java/lang/invoke/VarHandle")
    {W9 : Nat} {Pre : Pt → Array Value → Prop} {Post : Pt → Array Value → Option Value → Pt → Prop} (hK : Back l R p e below s args y 3 W9 Pre Post)
    {b : Addr} {cellB : Cell} (hcell : T.heap[b]? = some cellB) (hobj : cellB.vm.isStatics = false) (hcls : s.vm.findClass C = some cellB.cls)
    {g : JFrame} (hg : g.method = m) (hsize : g.locals.size = c.maxLocals) {argsL rest : List Value} (hlen : ∀ sig, parseMethodDescriptor y.desc = some sig → argsL.length = sig.parameters.length)
    (hstack : g.stack = argsL.reverse ++ .ref b :: rest) (hW : 2 * g.monitorRoom + (rest.map fun v => v.category).sum ≤ W9) (hdg : decode c.code g.pc = .ok (.invokevirtual index, 3))
    (hpre : ∀ vm₁, s.WarmedH vm₁ → Pre ⟨T.setVm vm₁, locs, cells, slots⟩ (Value.ref b :: argsL).toArray) :
    ∃ (v : Option Value) (vm₁ : Vm) (B : Pt), s.WarmedH vm₁ ∧ Stand p l e R s m args below meth c B.U B.locs B.cells B.slots ∧ Post ⟨T.setVm vm₁, locs, cells, slots⟩ (Value.ref b :: argsL).toArray v B ∧
      ∀ target, Steps p.tables e below (B.U.setTop { g with pc := g.pc + 3, stack := v.toList ++ rest }) target → Steps p.tables e below (T.setTop g) target := by
  obtain ⟨mk, methM, hnamed, hmethM, hstM, habM⟩ := Cond.instanceMethod_spec hinst
  obtain ⟨m8, methM', cM, hn8, hmethM', -, -, -, -, -, -, hsigM⟩ := Cond.codeWith_spec hcode
  cases Option.some.inj (hn8.symm.trans hnamed)
  cases hmethM.symm.trans hmethM'
  obtain ⟨c2, r2, m2, q1, q2, q3, q4, kP, hkP, hkPi⟩ := Cond.selects_spec hsel
  cases hcls.symm.trans q1
  cases (State.methodFound?_of_named hnamed hy).symm.trans q2
  cases hnamed.symm.trans q3
  have hselP : selectMethod e.platform s.vm cellB.cls mk = .method mk := by rw [Launch.admits_selectMethod X.admits]; exact q4
  obtain ⟨vm₁, X₁, hstep₁⟩ := X.invokevirtual hexec hown hlink hnamed hmethM hstM hkP hkPi hy (a := b) (cell := cellB) hcell
    (fun z h => by rw [h] at hobj; cases hobj) hselP hmethM habM hkP hkPi (g := g) hg (argsL := argsL) (rest := rest) (hlen _ hsigM) hstack hdg
  obtain ⟨v, B, X', hpost, hsteps⟩ := hK m meth c ⟨T.setVm vm₁, locs, cells, slots⟩ { g with stack := rest } (.invokevirtual index) mk (Value.ref b :: argsL).toArray X₁ hg hsize hdg hW (X₁.named hnamed) (hpre vm₁ X₁.warmed)
  exact ⟨v, vm₁, B, X₁.warmed, X', hpost, fun target h => hstep₁ _ fun acts => by rw [doInvoke_state]; exact hsteps.trans h⟩
abbrev vx_CVW (R : Room) (s : State) (args : Array Value) (own C : String) (index : Nat) (y : MethodName) (bytes : ByteArray) (maxL : Nat) (ret : Option FieldType) (hh : List (Nat × Nat × Nat × Nat)) (ws : List Cond) (rm : Room) (mc ms n : Nat) : Prop :=
  (rm.cells = mc ∧ rm.slots = ms ∧ rm.frames + 1 ≤ R.frames ∧ 8 + (maxL + 11) + rm.locals ≤ R.locals ∧ (∀ w ∈ ws, ∀ (a' : Array Value) (U : State), s.WarmedH U.vm → w.before a' U = true) ∧ Cond.codeWith y bytes maxL ret hh ∈ ws) ∧
  (Cond.codeWith y bytes maxL ret hh).before args s = true ∧ (Cond.initialized y.cls).before args s = true ∧ (y.cls ≠ "java/lang/invoke/MethodHandle" ∧ y.cls ≠ "java/lang/invoke/VarHandle") ∧
  (∀ sig, parseMethodDescriptor y.desc = some sig → n = sig.parameters.length) ∧ (Cond.methodLink own index y).before args s = true ∧ (Cond.instanceMethod y).before args s = true ∧ (Cond.selects C y y).before args s = true
theorem vx_cwVW {own C : String} {index maxL mc ms : Nat} {y : MethodName} {bytes : ByteArray} {ret : Option FieldType} {hh : List (Nat × Nat × Nat × Nat)} {Ts ws ws' : List Cond} {rm : Room} (n : Nat) (ht : ∀ w ∈ Ts, w.before args s = true) (hT : GoodIn Ts (wsV own index C y ws)) (hw : ws = Cond.codeWith y bytes maxL ret hh :: ws') (hrc : rm.cells = mc) (hrs : rm.slots = ms)
    (hd : y.cls = C ∧ y.cls ≠ "java/lang/invoke/MethodHandle" ∧ y.cls ≠ "java/lang/invoke/VarHandle" ∧ (parseMethodDescriptor y.desc).map (fun d => d.parameters.length) = some n) (hR : rm.frames + 1 ≤ R.frames ∧ 8 + (maxL + 11) + rm.locals ≤ R.locals) :
    vx_CVW R s args own C index y bytes maxL ret hh ws rm mc ms n := by
  obtain ⟨hC, hd⟩ := hd
  subst hC
  have ok : ∀ w ∈ wsV own index y.cls y ws, w.before args s = true := fun w h => ht w (hT w h).1
  have hG : GoodIn Ts ws := fun w h => hT w (by unfold wsV; exact List.mem_append_right _ h)
  have hc : Cond.codeWith y bytes maxL ret hh ∈ ws := by rw [hw]; exact List.mem_cons_self
  refine ⟨⟨hrc, hrs, hR.1, hR.2, pay_in ht hG, hc⟩, ht _ (hG _ hc).1, ok _ (by simp [wsV]), ⟨hd.1, hd.2.1⟩, fun sig h => ?_, ok _ (by simp [wsV]), ok _ (by simp [wsV]), ok _ (by simp [wsV])⟩
  have h2 := hd.2.2
  rw [h] at h2
  exact (Option.some.inj h2).symm
theorem vx_runVW {y : MethodName} {bytes cc : ByteArray} {maxL nL mc ms n index : Nat} {ret : Option FieldType} {hh : List (Nat × Nat × Nat × Nat)} {ws : List Cond} {rm : Room} {Pc : Array Value → State → Prop} {Qc : Array Value → State → Outcome → State → Prop} {free : Addr → Prop} {Ts : List Cond} {own C : String} {b : Addr} {As rest : List Value} {g : JFrame}
    (S : CallFix p m c cc nL s args Ts own) (hM : Met l y ws rm Pc Qc mc ms free) (cw : vx_CVW R s args own C index y bytes maxL ret hh ws rm mc ms n) (hp : PreV s H C b Pc As)
    (hg : g.method = m) (hn : As.length = n) (hsize : g.locals.size = nL) (hstack : g.stack = As.reverse ++ .ref b :: rest) (hW : 2 * g.monitorRoom + (rest.map fun v => v.category).sum ≤ 8) (hdg : decode cc g.pc = .ok (.invokevirtual index, 3)) (hf : cells + mc ≤ R.cells ∧ slots + ms ≤ R.slots) :
    va_Run p l e R s m args below meth c H locs cells slots mc ms g rest (Qc (Value.ref b :: As).toArray) free := by
  obtain ⟨⟨hrc, hrs, hfr, hlo, hws, hcw⟩, hcode, hini, hy, hlen, hl, hin, hse⟩ := cw
  have hK : Back l R p e below s args y 3 8 (PreOf R mc ms Pc) (PostOf Qc mc ms free) := va_backW (hh := hh) (bytes := bytes) (maxL := maxL) (ret := ret) hM hp.1 hrc hrs hfr hlo hws hcw (fun a' U hW => word_at hW (Or.inl (by first | rfl | simp [Cond.onTables, Cond.keeps, Cond.steady])) hini)
  obtain ⟨hx, hb, hml, ho, -⟩ := S
  obtain ⟨-, ⟨cellB, hcB, hoB, hclB⟩, hPc⟩ := hp
  intro T hT X
  obtain ⟨v, vm₁, ⟨U', l2, c2, s2⟩, hW₁, X', ⟨g', mk, t, L, e1, e2, hq, h1, hL, h2, h3⟩, st⟩ := vx_callVW X hx (C := C) (hh := hh) (bytes := bytes) (maxL := maxL) (ret := ret) ho hl hin hse hcode hy hK (by rw [hT]; exact hcB) hoB hclB hg (hsize.trans hml.symm) (argsL := As) (rest := rest) (fun sig h => hn.trans (hlen sig h)) hstack hW (by rw [hb]; exact hdg)
    (fun vm₁ hW₁ => ⟨hf.1, hf.2, hPc (T.setVm vm₁) hT hW₁⟩)
  dsimp only [Pt.U, Pt.locs, Pt.cells, Pt.slots] at X' e1 e2 h1 h2 h3 st
  subst h1; subst h2; subst h3
  exact ⟨v, (T.setVm vm₁).calling g' mk (Value.ref b :: As).toArray, t, U', L, hT, X', hL, e1, e2, hq, st⟩
section
variable {y : MethodName} {bytes cc : ByteArray} {maxL nL mc ms n index : Nat} {ret : Option FieldType} {ws : List Cond} {rm : Room} {Pc : Array Value → State → Prop} {Qc : Array Value → State → Outcome → State → Prop} {XC : String → State → State → Prop} {free : Addr → Prop} {Ts : List Cond} {own C : String} {b : Addr} {As rest : List Value} {g : JFrame}
theorem vx_runVX {hh : List (Nat × Nat × Nat × Nat)} (S : CallFix p m c cc nL s args Ts own) (hM : vx_Met l y ws rm Pc Qc XC mc ms free) (cw : vx_CVW R s args own C index y bytes maxL ret hh ws rm mc ms n) (hp : PreV s H C b Pc As)
    (hg : g.method = m) (hn : As.length = n) (hsize : g.locals.size = nL) (hstack : g.stack = As.reverse ++ .ref b :: rest) (hW : 2 * g.monitorRoom + (rest.map fun v => v.category).sum ≤ 8) (hdg : decode cc g.pc = .ok (.invokevirtual index, 3)) (hf : cells + mc ≤ R.cells ∧ slots + ms ≤ R.slots) :
    vx_Run p l e R s m args below meth c H locs cells slots mc ms g rest (Qc (Value.ref b :: As).toArray) XC free := by
  obtain ⟨⟨hrc, hrs, hfr, hlo, hws, hcw⟩, hcode, hini, hy, hlen, hl, hin, hse⟩ := cw
  have hK : vx_Back l R p e below s args y 3 8 (PreOf R mc ms Pc) (PostOf Qc mc ms free) (vx_Post XC mc ms free) := vx_backW (hh := hh) (bytes := bytes) (maxL := maxL) (ret := ret) hM hp.1 hrc hrs hfr hlo hws hcw (fun a' U hW => word_at hW (Or.inl (by first | rfl | simp [Cond.onTables, Cond.keeps, Cond.steady])) hini)
  obtain ⟨hx, hb, hml, ho, -⟩ := S
  obtain ⟨-, ⟨cellB, hcB, hoB, hclB⟩, hPc⟩ := hp
  intro T hT X
  rcases vx_callVX X hx (C := C) (hh := hh) (bytes := bytes) (maxL := maxL) (ret := ret) ho hl hin hse hcode hy hK (by rw [hT]; exact hcB) hoB hclB hg (hsize.trans hml.symm) (argsL := As) (rest := rest) (fun sig h => hn.trans (hlen sig h)) hstack hW (by rw [hb]; exact hdg)
    (fun vm₁ hW₁ => ⟨hf.1, hf.2, hPc (T.setVm vm₁) hT hW₁⟩) with ⟨v, vm₁, ⟨U', l2, c2, s2⟩, hW₁, X', ⟨g', mk, t, L, e1, e2, hq, h1, hL, h2, h3⟩, st⟩ | ⟨q, vm₁, ⟨U', l2, c2, s2⟩, hW₁, X', ⟨g', mk, t, L, E, ce, e1, e2, hq, hce, hcv, hcl, h1, hL, h2, h3⟩, st⟩
  · dsimp only [Pt.U, Pt.locs, Pt.cells, Pt.slots] at X' e1 e2 h1 h2 h3 st
    subst h1; subst h2; subst h3
    exact Or.inl ⟨v, (T.setVm vm₁).calling g' mk (Value.ref b :: As).toArray, t, U', L, hT, X', hL, e1, e2, hq, st⟩
  · dsimp only [Pt.U, Pt.locs, Pt.cells, Pt.slots] at X' e1 e2 h1 h2 h3 st hcl
    subst h1; subst h2; subst h3
    exact Or.inr ⟨q, (T.setVm vm₁).calling g' mk (Value.ref b :: As).toArray, t, U', L, E, ce, hT, X', hL, e1, e2, hq, hce, hcv, vx_cls hW₁ hcl, st⟩
theorem vx_runSX {hh : List (Nat × Nat × Nat × Nat)} (S : CallFix p m c cc nL s args Ts own) (hM : vx_Met l y ws rm Pc Qc XC mc ms free) (cw : vx_CSW R s args own index y bytes maxL ret hh ws rm mc ms n) (hp : PreS s H Pc As)
    (hg : g.method = m) (hn : As.length = n) (hsize : g.locals.size = nL) (hstack : g.stack = As.reverse ++ rest) (hW : 2 * g.monitorRoom + (rest.map fun v => v.category).sum ≤ 8) (hdg : decode cc g.pc = .ok (.invokestatic index, 3)) (hf : cells + mc ≤ R.cells ∧ slots + ms ≤ R.slots) :
    vx_Run p l e R s m args below meth c H locs cells slots mc ms g rest (Qc As.toArray) XC free := by
  obtain ⟨⟨hrc, hrs, hfr, hlo, hws, hcw⟩, hcode, hini, hy, hlen, hl, hstt⟩ := cw
  have hK : vx_Back l R p e below s args y 3 8 (PreOf R mc ms Pc) (PostOf Qc mc ms free) (vx_Post XC mc ms free) := vx_backW (hh := hh) (bytes := bytes) (maxL := maxL) (ret := ret) hM hp.1 hrc hrs hfr hlo hws hcw (fun a' U hW => word_at hW (Or.inl (by first | rfl | simp [Cond.onTables, Cond.keeps, Cond.steady])) hini)
  obtain ⟨hx, hb, hml, ho, -⟩ := S
  intro T hT X
  rcases vx_callSX X hx (hh := hh) (bytes := bytes) (maxL := maxL) (ret := ret) ho hl hstt hini hcode hy hK hg (hsize.trans hml.symm) (argsL := As) (rest := rest) (fun sig h => hn.trans (hlen sig h)) hstack hW (by rw [hb]; exact hdg)
    (fun vm₁ hW₁ => ⟨hf.1, hf.2, hp.2 (T.setVm vm₁) hT hW₁⟩) with ⟨v, vm₁, ⟨U', l2, c2, s2⟩, hW₁, X', ⟨g', mk, t, L, e1, e2, hq, h1, hL, h2, h3⟩, st⟩ | ⟨q, vm₁, ⟨U', l2, c2, s2⟩, hW₁, X', ⟨g', mk, t, L, E, ce, e1, e2, hq, hce, hcv, hcl, h1, hL, h2, h3⟩, st⟩
  · dsimp only [Pt.U, Pt.locs, Pt.cells, Pt.slots] at X' e1 e2 h1 h2 h3 st
    subst h1; subst h2; subst h3
    exact Or.inl ⟨v, (T.setVm vm₁).calling g' mk As.toArray, t, U', L, hT, X', hL, e1, e2, hq, st⟩
  · dsimp only [Pt.U, Pt.locs, Pt.cells, Pt.slots] at X' e1 e2 h1 h2 h3 st hcl
    subst h1; subst h2; subst h3
    exact Or.inr ⟨q, (T.setVm vm₁).calling g' mk As.toArray, t, U', L, E, ce, hT, X', hL, e1, e2, hq, hce, hcv, vx_cls hW₁ hcl, st⟩
end
end VXH
theorem vx_ofWH {l : Launch} {y : MethodName} {ws ws' : List Cond} {rm : Room} {Pc : Array Value → State → Prop} {Qc : Array Value → State → Outcome → State → Prop} {XC : String → State → State → Prop} {mc ms : Nat} {free : Addr → Prop} {cc : ByteArray} {maxL : Nat} {ret : Option FieldType} {hh : List (Nat × Nat × Nat × Nat)}
    (hy : plainName y.cls = true) (hw : ws = Cond.codeWith y cc maxL ret hh :: ws')
    (body : ∀ p e s m args below meth c s₁, BodyLoose p l y (headSpec ws rm) cc maxL ret e s m args below meth c s₁ → c.maxLocals = maxL → Pc args s →
      W p l e (headSpec ws rm).room s m args below meth c s.heap [] 0 0 (vx_MQ below Qc XC args s mc ms free) (entryFrame m args maxL)) : vx_Met l y ws rm Pc Qc XC mc ms free := by
  refine MetFree.of_bodyS (code := cc) (maxLocals := maxL) (ret := ret) hy ?_ ?_
  · intro args s m h hn
    obtain ⟨m9, meth, c, hn9, h1, h2, h3, h4, -, h5, h6, -⟩ := Cond.codeWith_spec (atoms_spec (ws := ws) h _ (by rw [hw]; exact List.mem_cons_self))
    cases hn.symm.trans hn9
    exact ⟨meth, c, h1, h2, h3, h4, h5, h6⟩
  · intro p e s m args below meth c s₁ B hml hP _
    have hh0 : s₁.heap = s.heap := by rw [B.state]; rfl
    obtain ⟨t, a1, o, b1, b2, b3⟩ := body p e s m args below meth c s₁ B hml hP s₁ hh0 (Stand.of_body B)
    exact ⟨t, o, a1, b1, b2, b3⟩
/-! ===== END ===== -/
def RX0 : String := "Exportcover$Buyer"
def TX0 : u_T := fun k => match k with
  | 0 => ("Exportcover$Buyer", "number", "I", true)
  | 1 => ("Exportcover$Buyer", "land", "LExportcover$Land;", true)
  | 2 => ("Exportcover$Buyer", "grade", "I", true)
  | 3 => ("Exportcover$Buyer", "chest", "LExportcover$Chest;", true)
  | _ => ("Exportcover$Buyer", "brokeOn", "I", false)
def tyX0 : Nat → FieldType := fun k => match k with
  | 0 => .int
  | 1 => .object "Exportcover$Land"
  | 2 => .int
  | 3 => .object "Exportcover$Chest"
  | _ => .int
theorem nmX0 : ∀ a, a < 5 → ∀ b, b < 5 → a ≠ b → (TX0 a).2.1 ≠ (TX0 b).2.1 := by decide +kernel
theorem tyX0_ok : ∀ k, k < 5 → parseFieldDescriptor (TX0 k).2.2.1 = some (tyX0 k) := by decide +kernel
abbrev cX0_init : ByteArray := prog_2_method_1_code
def yX0_init : MethodName := ⟨RX0, "<init>", "(ILExportcover$Land;I)V"⟩
abbrev cX0_isBroke : ByteArray := prog_2_method_2_code
def yX0_isBroke : MethodName := ⟨RX0, "isBroke", "()Z"⟩
abbrev cX0_canPay : ByteArray := prog_2_method_3_code
def yX0_canPay : MethodName := ⟨RX0, "canPay", "()Z"⟩
def RX1 : String := "Exportcover$Chest"
def TX1 : u_T := fun k => match k with
  | _ => ("Exportcover$Chest", "cents", "I", false)
def tyX1 : Nat → FieldType := fun k => match k with
  | _ => .int
theorem nmX1 : ∀ a, a < 1 → ∀ b, b < 1 → a ≠ b → (TX1 a).2.1 ≠ (TX1 b).2.1 := by decide +kernel
theorem tyX1_ok : ∀ k, k < 1 → parseFieldDescriptor (TX1 k).2.2.1 = some (tyX1 k) := by decide +kernel
abbrev cX1_init : ByteArray := prog_3_method_1_code
def yX1_init : MethodName := ⟨RX1, "<init>", "()V"⟩
abbrev cX1_giveTo : ByteArray := prog_3_method_2_code
def yX1_giveTo : MethodName := ⟨RX1, "giveTo", "(LExportcover$Chest;I)V"⟩
def RX2 : String := "Exportcover$Damage"
def TX2 : u_T := fun k => match k with
  | 0 => ("Exportcover$Damage", "loss", "I", true)
  | 1 => ("Exportcover$Damage", "gross", "I", true)
  | 2 => ("Exportcover$Damage", "share", "I", true)
  | 3 => ("Exportcover$Damage", "recovered", "I", false)
  | 4 => ("Exportcover$Damage", "exporterHad", "I", false)
  | 5 => ("Exportcover$Damage", "officeHad", "I", false)
  | _ => ("Exportcover$Damage", "rivalHad", "I", false)
def tyX2 : Nat → FieldType := fun k => match k with
  | 0 => .int
  | 1 => .int
  | 2 => .int
  | 3 => .int
  | 4 => .int
  | 5 => .int
  | _ => .int
theorem nmX2 : ∀ a, a < 7 → ∀ b, b < 7 → a ≠ b → (TX2 a).2.1 ≠ (TX2 b).2.1 := by decide +kernel
theorem tyX2_ok : ∀ k, k < 7 → parseFieldDescriptor (TX2 k).2.2.1 = some (tyX2 k) := by decide +kernel
abbrev cX2_init : ByteArray := prog_4_method_1_code
def yX2_init : MethodName := ⟨RX2, "<init>", "(III)V"⟩
abbrev cX2_partOf : ByteArray := prog_4_method_2_code
def yX2_partOf : MethodName := ⟨RX2, "partOf", "(I)I"⟩
abbrev cX2_hadBy : ByteArray := prog_4_method_3_code
def yX2_hadBy : MethodName := ⟨RX2, "hadBy", "(I)I"⟩
abbrev cX2_recover : ByteArray := prog_4_method_4_code
def yX2_recover : MethodName := ⟨RX2, "recover", "(I)V"⟩
abbrev cX2_dueOf : ByteArray := prog_4_method_5_code
def yX2_dueOf : MethodName := ⟨RX2, "dueOf", "(I)I"⟩
abbrev cX2_isSplitSound : ByteArray := prog_4_method_6_code
def yX2_isSplitSound : MethodName := ⟨RX2, "isSplitSound", "()Z"⟩
def RX3 : String := "Exportcover$Delay"
def TX3 : u_T := fun k => match k with
  | 0 => ("Exportcover$Delay", "owed", "I", true)
  | 1 => ("Exportcover$Delay", "forgiven", "I", true)
  | 2 => ("Exportcover$Delay", "years", "I", true)
  | _ => ("Exportcover$Delay", "times", "I", false)
def tyX3 : Nat → FieldType := fun k => match k with
  | 0 => .int
  | 1 => .int
  | 2 => .int
  | _ => .int
theorem nmX3 : ∀ a, a < 4 → ∀ b, b < 4 → a ≠ b → (TX3 a).2.1 ≠ (TX3 b).2.1 := by decide +kernel
theorem tyX3_ok : ∀ k, k < 4 → parseFieldDescriptor (TX3 k).2.2.1 = some (tyX3 k) := by decide +kernel
abbrev cX3_init : ByteArray := prog_5_method_1_code
def yX3_init : MethodName := ⟨RX3, "<init>", "(III)V"⟩
abbrev cX3_nextOf : ByteArray := prog_5_method_2_code
def yX3_nextOf : MethodName := ⟨RX3, "nextOf", "(I)I"⟩
def RX4 : String := "Exportcover$Exporter"
def TX4 : u_T := fun k => match k with
  | 0 => ("Exportcover$Exporter", "number", "I", true)
  | 1 => ("Exportcover$Exporter", "chest", "LExportcover$Chest;", true)
  | 2 => ("Exportcover$Exporter", "owned", "I", false)
  | 3 => ("Exportcover$Exporter", "sellers", "I", false)
  | _ => ("Exportcover$Exporter", "suppliedBuyers", "I", false)
def tyX4 : Nat → FieldType := fun k => match k with
  | 0 => .int
  | 1 => .object "Exportcover$Chest"
  | 2 => .int
  | 3 => .int
  | _ => .int
theorem nmX4 : ∀ a, a < 5 → ∀ b, b < 5 → a ≠ b → (TX4 a).2.1 ≠ (TX4 b).2.1 := by decide +kernel
theorem tyX4_ok : ∀ k, k < 5 → parseFieldDescriptor (TX4 k).2.2.1 = some (tyX4 k) := by decide +kernel
abbrev cX4_init : ByteArray := prog_6_method_1_code
def yX4_init : MethodName := ⟨RX4, "<init>", "(I)V"⟩
abbrev cX4_suppliers : ByteArray := prog_6_method_2_code
def yX4_suppliers : MethodName := ⟨RX4, "suppliers", "()I"⟩
def RX5 : String := "Exportcover$Land"
def TX5 : u_T := fun k => match k with
  | 0 => ("Exportcover$Land", "number", "I", true)
  | 1 => ("Exportcover$Land", "grade", "I", false)
  | 2 => ("Exportcover$Land", "ceiling", "I", false)
  | 3 => ("Exportcover$Land", "isClosed", "Z", false)
  | 4 => ("Exportcover$Land", "stoppedSince", "I", false)
  | 5 => ("Exportcover$Land", "warSince", "I", false)
  | 6 => ("Exportcover$Land", "noticeRate", "I", false)
  | _ => ("Exportcover$Land", "noticeDay", "I", false)
def tyX5 : Nat → FieldType := fun k => match k with
  | 0 => .int
  | 1 => .int
  | 2 => .int
  | 3 => .boolean
  | 4 => .int
  | 5 => .int
  | 6 => .int
  | _ => .int
theorem nmX5 : ∀ a, a < 8 → ∀ b, b < 8 → a ≠ b → (TX5 a).2.1 ≠ (TX5 b).2.1 := by decide +kernel
theorem tyX5_ok : ∀ k, k < 8 → parseFieldDescriptor (TX5 k).2.2.1 = some (tyX5 k) := by decide +kernel
abbrev cX5_init : ByteArray := prog_7_method_1_code
def yX5_init : MethodName := ⟨RX5, "<init>", "(III)V"⟩
abbrev cX5_trouble : ByteArray := prog_7_method_2_code
def yX5_trouble : MethodName := ⟨RX5, "trouble", "()I"⟩
abbrev cX5_isTroubled : ByteArray := prog_7_method_3_code
def yX5_isTroubled : MethodName := ⟨RX5, "isTroubled", "()Z"⟩
abbrev cX5_noticeOn : ByteArray := prog_7_method_4_code
def yX5_noticeOn : MethodName := ⟨RX5, "noticeOn", "(I)I"⟩
abbrev cX5_rateOn : ByteArray := prog_7_method_5_code
def yX5_rateOn : MethodName := ⟨RX5, "rateOn", "(III)I"⟩
abbrev cX5_longestTermOn : ByteArray := prog_7_method_6_code
def yX5_longestTermOn : MethodName := ⟨RX5, "longestTermOn", "(I)I"⟩
abbrev cX5_chanceToFail : ByteArray := prog_7_method_7_code
def yX5_chanceToFail : MethodName := ⟨RX5, "chanceToFail", "()D"⟩
def RX6 : String := "Exportcover$Policy"
def TX6 : u_T := fun k => match k with
  | 0 => ("Exportcover$Policy", "number", "I", true)
  | 1 => ("Exportcover$Policy", "exporter", "LExportcover$Exporter;", true)
  | 2 => ("Exportcover$Policy", "cover", "I", true)
  | 3 => ("Exportcover$Policy", "rival", "I", true)
  | 4 => ("Exportcover$Policy", "quota", "I", true)
  | 5 => ("Exportcover$Policy", "limits", "[I", true)
  | _ => ("Exportcover$Policy", "isEnded", "Z", false)
def tyX6 : Nat → FieldType := fun k => match k with
  | 0 => .int
  | 1 => .object "Exportcover$Exporter"
  | 2 => .int
  | 3 => .int
  | 4 => .int
  | 5 => .array .int
  | _ => .boolean
theorem nmX6 : ∀ a, a < 7 → ∀ b, b < 7 → a ≠ b → (TX6 a).2.1 ≠ (TX6 b).2.1 := by decide +kernel
theorem tyX6_ok : ∀ k, k < 7 → parseFieldDescriptor (TX6 k).2.2.1 = some (tyX6 k) := by decide +kernel
abbrev cX6_init : ByteArray := prog_8_method_1_code
def yX6_init : MethodName := ⟨RX6, "<init>", "(ILExportcover$Exporter;III)V"⟩
abbrev cX6_grantedFor : ByteArray := prog_8_method_2_code
def yX6_grantedFor : MethodName := ⟨RX6, "grantedFor", "(I)I"⟩
abbrev cX6_grant : ByteArray := prog_8_method_3_code
def yX6_grant : MethodName := ⟨RX6, "grant", "(II)V"⟩
def RX7 : String := "Exportcover$Shipment"
def TX7 : u_T := fun k => match k with
  | 0 => ("Exportcover$Shipment", "policy", "LExportcover$Policy;", true)
  | 1 => ("Exportcover$Shipment", "buyer", "LExportcover$Buyer;", true)
  | 2 => ("Exportcover$Shipment", "amount", "I", true)
  | 3 => ("Exportcover$Shipment", "sailedOn", "I", true)
  | 4 => ("Exportcover$Shipment", "due", "I", true)
  | 5 => ("Exportcover$Shipment", "isFake", "Z", true)
  | 6 => ("Exportcover$Shipment", "rate", "I", false)
  | 7 => ("Exportcover$Shipment", "insured", "I", false)
  | 8 => ("Exportcover$Shipment", "reason", "I", false)
  | 9 => ("Exportcover$Shipment", "premium", "I", false)
  | 10 => ("Exportcover$Shipment", "left", "I", false)
  | 11 => ("Exportcover$Shipment", "isReported", "Z", false)
  | 12 => ("Exportcover$Shipment", "isDisputed", "Z", false)
  | 13 => ("Exportcover$Shipment", "isVoid", "Z", false)
  | 14 => ("Exportcover$Shipment", "damage", "LExportcover$Damage;", false)
  | _ => ("Exportcover$Shipment", "delay", "LExportcover$Delay;", false)
def tyX7 : Nat → FieldType := fun k => match k with
  | 0 => .object "Exportcover$Policy"
  | 1 => .object "Exportcover$Buyer"
  | 2 => .int
  | 3 => .int
  | 4 => .int
  | 5 => .boolean
  | 6 => .int
  | 7 => .int
  | 8 => .int
  | 9 => .int
  | 10 => .int
  | 11 => .boolean
  | 12 => .boolean
  | 13 => .boolean
  | 14 => .object "Exportcover$Damage"
  | _ => .object "Exportcover$Delay"
theorem nmX7 : ∀ a, a < 16 → ∀ b, b < 16 → a ≠ b → (TX7 a).2.1 ≠ (TX7 b).2.1 := by decide +kernel
theorem tyX7_ok : ∀ k, k < 16 → parseFieldDescriptor (TX7 k).2.2.1 = some (tyX7 k) := by decide +kernel
abbrev cX7_init : ByteArray := prog_9_method_1_code
def yX7_init : MethodName := ⟨RX7, "<init>", "(LExportcover$Policy;LExportcover$Buyer;IIIZ)V"⟩
abbrev cX7_keepTerms : ByteArray := prog_9_method_2_code
def yX7_keepTerms : MethodName := ⟨RX7, "keepTerms", "(III)V"⟩
abbrev cX7_isOpen : ByteArray := prog_9_method_3_code
def yX7_isOpen : MethodName := ⟨RX7, "isOpen", "()Z"⟩
abbrev cX7_isToPay : ByteArray := prog_9_method_4_code
def yX7_isToPay : MethodName := ⟨RX7, "isToPay", "()Z"⟩
abbrev cX7_atRisk : ByteArray := prog_9_method_5_code
def yX7_atRisk : MethodName := ⟨RX7, "atRisk", "()I"⟩
abbrev cX7_isOverdue : ByteArray := prog_9_method_6_code
def yX7_isOverdue : MethodName := ⟨RX7, "isOverdue", "(I)Z"⟩
abbrev cX7_causeOn : ByteArray := prog_9_method_7_code
def yX7_causeOn : MethodName := ⟨RX7, "causeOn", "(I)I"⟩
abbrev cX7_causeOnceDue : ByteArray := prog_9_method_8_code
def yX7_causeOnceDue : MethodName := ⟨RX7, "causeOnceDue", "()I"⟩
abbrev cX7_waiting : ByteArray := prog_9_method_9_code
def yX7_waiting : MethodName := ⟨RX7, "waiting", "()I"⟩
abbrev cX7_claimableFrom : ByteArray := prog_9_method_10_code
def yX7_claimableFrom : MethodName := ⟨RX7, "claimableFrom", "()I"⟩
abbrev cX7_putOff : ByteArray := prog_9_method_11_code
def yX7_putOff : MethodName := ⟨RX7, "putOff", "(II)V"⟩
abbrev cX7_marks : ByteArray := prog_9_method_12_code
def yX7_marks : MethodName := ⟨RX7, "marks", "()I"⟩
abbrev cX7_isSoundAlone : ByteArray := prog_9_method_13_code
def yX7_isSoundAlone : MethodName := ⟨RX7, "isSoundAlone", "()Z"⟩
abbrev cX7_isDamageSound : ByteArray := prog_9_method_14_code
def yX7_isDamageSound : MethodName := ⟨RX7, "isDamageSound", "()Z"⟩
def RX8 : String := "Exportcover"
def TX8 : u_T := fun k => match k with
  | 0 => ("Exportcover", "lands", "Ljava/util/ArrayList;", true)
  | 1 => ("Exportcover", "buyers", "Ljava/util/ArrayList;", true)
  | 2 => ("Exportcover", "exporters", "Ljava/util/ArrayList;", true)
  | 3 => ("Exportcover", "policies", "Ljava/util/ArrayList;", true)
  | 4 => ("Exportcover", "shipments", "Ljava/util/ArrayList;", true)
  | 5 => ("Exportcover", "office", "LExportcover$Chest;", true)
  | 6 => ("Exportcover", "rivalZero", "LExportcover$Chest;", true)
  | 7 => ("Exportcover", "rivalOne", "LExportcover$Chest;", true)
  | 8 => ("Exportcover", "world", "LExportcover$Chest;", true)
  | 9 => ("Exportcover", "day", "I", false)
  | 10 => ("Exportcover", "premiums", "I", false)
  | 11 => ("Exportcover", "claims", "I", false)
  | 12 => ("Exportcover", "recoveries", "I", false)
  | _ => ("Exportcover", "refused", "I", false)
def tyX8 : Nat → FieldType := fun k => match k with
  | 0 => .object "java/util/ArrayList"
  | 1 => .object "java/util/ArrayList"
  | 2 => .object "java/util/ArrayList"
  | 3 => .object "java/util/ArrayList"
  | 4 => .object "java/util/ArrayList"
  | 5 => .object "Exportcover$Chest"
  | 6 => .object "Exportcover$Chest"
  | 7 => .object "Exportcover$Chest"
  | 8 => .object "Exportcover$Chest"
  | 9 => .int
  | 10 => .int
  | 11 => .int
  | 12 => .int
  | _ => .int
theorem nmX8 : ∀ a, a < 14 → ∀ b, b < 14 → a ≠ b → (TX8 a).2.1 ≠ (TX8 b).2.1 := by decide +kernel
theorem tyX8_ok : ∀ k, k < 14 → parseFieldDescriptor (TX8 k).2.2.1 = some (tyX8 k) := by decide +kernel
abbrev cX8_init : ByteArray := prog_1_method_1_code
def yX8_init : MethodName := ⟨RX8, "<init>", "()V"⟩
abbrev cX8_market : ByteArray := prog_1_method_2_code
def yX8_market : MethodName := ⟨RX8, "market", "(I)I"⟩
abbrev cX8_land : ByteArray := prog_1_method_3_code
def yX8_land : MethodName := ⟨RX8, "land", "(II)I"⟩
abbrev cX8_stop : ByteArray := prog_1_method_7_code
def yX8_stop : MethodName := ⟨RX8, "stop", "(IZ)I"⟩
abbrev cX8_war : ByteArray := prog_1_method_8_code
def yX8_war : MethodName := ⟨RX8, "war", "(IZ)I"⟩
abbrev cX8_buyer : ByteArray := prog_1_method_9_code
def yX8_buyer : MethodName := ⟨RX8, "buyer", "(II)I"⟩
abbrev cX8_earn : ByteArray := prog_1_method_10_code
def yX8_earn : MethodName := ⟨RX8, "earn", "(II)I"⟩
abbrev cX8_broke : ByteArray := prog_1_method_11_code
def yX8_broke : MethodName := ⟨RX8, "broke", "(I)Z"⟩
abbrev cX8_exporter : ByteArray := prog_1_method_12_code
def yX8_exporter : MethodName := ⟨RX8, "exporter", "()I"⟩
abbrev cX8_link : ByteArray := prog_1_method_13_code
def yX8_link : MethodName := ⟨RX8, "link", "(IIZ)I"⟩
abbrev cX8_notice : ByteArray := prog_1_method_14_code
def yX8_notice : MethodName := ⟨RX8, "notice", "(II)I"⟩
abbrev cX8_policy : ByteArray := prog_1_method_15_code
def yX8_policy : MethodName := ⟨RX8, "policy", "(IIII)I"⟩
abbrev cX8_limit : ByteArray := prog_1_method_16_code
def yX8_limit : MethodName := ⟨RX8, "limit", "(III)I"⟩
abbrev cX8_cut : ByteArray := prog_1_method_17_code
def yX8_cut : MethodName := ⟨RX8, "cut", "(III)I"⟩
abbrev cX8_ship : ByteArray := prog_1_method_18_code
def yX8_ship : MethodName := ⟨RX8, "ship", "(IIIIZ)I"⟩
abbrev cX8_pay : ByteArray := prog_1_method_19_code
def yX8_pay : MethodName := ⟨RX8, "pay", "(II)I"⟩
abbrev cX8_report : ByteArray := prog_1_method_20_code
def yX8_report : MethodName := ⟨RX8, "report", "(I)I"⟩
abbrev cX8_dispute : ByteArray := prog_1_method_21_code
def yX8_dispute : MethodName := ⟨RX8, "dispute", "(I)I"⟩
abbrev cX8_judge : ByteArray := prog_1_method_22_code
def yX8_judge : MethodName := ⟨RX8, "judge", "(IZ)I"⟩
abbrev cX8_claim : ByteArray := prog_1_method_23_code
def yX8_claim : MethodName := ⟨RX8, "claim", "(I)I"⟩
abbrev cX8_salvage : ByteArray := prog_1_method_24_code
def yX8_salvage : MethodName := ⟨RX8, "salvage", "(II)I"⟩
abbrev cX8_club : ByteArray := prog_1_method_25_code
def yX8_club : MethodName := ⟨RX8, "club", "(III)I"⟩
abbrev cX8_inspect : ByteArray := prog_1_method_26_code
def yX8_inspect : MethodName := ⟨RX8, "inspect", "(I)Z"⟩
abbrev cX8_pass : ByteArray := prog_1_method_28_code
def yX8_pass : MethodName := ⟨RX8, "pass", "(I)I"⟩
abbrev cX8_ofBuyer : ByteArray := prog_1_method_31_code
def yX8_ofBuyer : MethodName := ⟨RX8, "ofBuyer", "(II)I"⟩
abbrev cX8_ofExporter : ByteArray := prog_1_method_32_code
def yX8_ofExporter : MethodName := ⟨RX8, "ofExporter", "(II)I"⟩
abbrev cX8_ofPolicy : ByteArray := prog_1_method_33_code
def yX8_ofPolicy : MethodName := ⟨RX8, "ofPolicy", "(II)I"⟩
abbrev cX8_ofShipment : ByteArray := prog_1_method_35_code
def yX8_ofShipment : MethodName := ⟨RX8, "ofShipment", "(II)I"⟩
abbrev cX8_part : ByteArray := prog_1_method_36_code
def yX8_part : MethodName := ⟨RX8, "part", "(IIZ)I"⟩
abbrev cX8_books : ByteArray := prog_1_method_37_code
def yX8_books : MethodName := ⟨RX8, "books", "(I)I"⟩
abbrev cX8_circles : ByteArray := prog_1_method_42_code
def yX8_circles : MethodName := ⟨RX8, "circles", "()I"⟩
abbrev cX8_expected : ByteArray := prog_1_method_43_code
def yX8_expected : MethodName := ⟨RX8, "expected", "()D"⟩
abbrev cX8_probable : ByteArray := prog_1_method_44_code
def yX8_probable : MethodName := ⟨RX8, "probable", "(I)D"⟩
abbrev cX8_isSound : ByteArray := prog_1_method_45_code
def yX8_isSound : MethodName := ⟨RX8, "isSound", "()Z"⟩
abbrev cX8_digest : ByteArray := prog_1_method_46_code
def yX8_digest : MethodName := ⟨RX8, "digest", "()J"⟩
abbrev cX8_isWithin : ByteArray := prog_1_method_47_code
def yX8_isWithin : MethodName := ⟨RX8, "isWithin", "(III)Z"⟩
abbrev cX8_demandRival : ByteArray := prog_1_method_48_code
def yX8_demandRival : MethodName := ⟨RX8, "demandRival", "(I)V"⟩
abbrev cX8_demandArgument : ByteArray := prog_1_method_49_code
def yX8_demandArgument : MethodName := ⟨RX8, "demandArgument", "(Z)V"⟩
abbrev cX8_demandState : ByteArray := prog_1_method_50_code
def yX8_demandState : MethodName := ⟨RX8, "demandState", "(Z)V"⟩
abbrev cX8_demandGoods : ByteArray := prog_1_method_51_code
def yX8_demandGoods : MethodName := ⟨RX8, "demandGoods", "(II)V"⟩
abbrev cX8_landAt : ByteArray := prog_1_method_52_code
def yX8_landAt : MethodName := ⟨RX8, "landAt", "(I)LExportcover$Land;"⟩
abbrev cX8_buyerAt : ByteArray := prog_1_method_53_code
def yX8_buyerAt : MethodName := ⟨RX8, "buyerAt", "(I)LExportcover$Buyer;"⟩
abbrev cX8_exporterAt : ByteArray := prog_1_method_54_code
def yX8_exporterAt : MethodName := ⟨RX8, "exporterAt", "(I)LExportcover$Exporter;"⟩
abbrev cX8_policyAt : ByteArray := prog_1_method_55_code
def yX8_policyAt : MethodName := ⟨RX8, "policyAt", "(I)LExportcover$Policy;"⟩
abbrev cX8_shipmentAt : ByteArray := prog_1_method_56_code
def yX8_shipmentAt : MethodName := ⟨RX8, "shipmentAt", "(I)LExportcover$Shipment;"⟩
abbrev cX8_nextInRow : ByteArray := prog_1_method_57_code
def yX8_nextInRow : MethodName := ⟨RX8, "nextInRow", "(I)I"⟩
abbrev cX8_since : ByteArray := prog_1_method_59_code
def yX8_since : MethodName := ⟨RX8, "since", "(IZ)I"⟩
abbrev cX8_addLand : ByteArray := prog_1_method_60_code
def yX8_addLand : MethodName := ⟨RX8, "addLand", "(II)LExportcover$Land;"⟩
abbrev cX8_addBuyer : ByteArray := prog_1_method_61_code
def yX8_addBuyer : MethodName := ⟨RX8, "addBuyer", "(LExportcover$Land;I)LExportcover$Buyer;"⟩
abbrev cX8_addExporter : ByteArray := prog_1_method_62_code
def yX8_addExporter : MethodName := ⟨RX8, "addExporter", "()LExportcover$Exporter;"⟩
abbrev cX8_riskUnder : ByteArray := prog_1_method_63_code
def yX8_riskUnder : MethodName := ⟨RX8, "riskUnder", "(LExportcover$Policy;LExportcover$Buyer;)I"⟩
abbrev cX8_riskIn : ByteArray := prog_1_method_64_code
def yX8_riskIn : MethodName := ⟨RX8, "riskIn", "(LExportcover$Land;)I"⟩
abbrev cX8_isCoverStopped : ByteArray := prog_1_method_65_code
def yX8_isCoverStopped : MethodName := ⟨RX8, "isCoverStopped", "(LExportcover$Policy;LExportcover$Buyer;)Z"⟩
abbrev cX8_refusalOf : ByteArray := prog_1_method_66_code
def yX8_refusalOf : MethodName := ⟨RX8, "refusalOf", "(LExportcover$Policy;LExportcover$Buyer;I)I"⟩
abbrev cX8_roomFor : ByteArray := prog_1_method_67_code
def yX8_roomFor : MethodName := ⟨RX8, "roomFor", "(LExportcover$Policy;LExportcover$Buyer;)I"⟩
abbrev cX8_spaceIn : ByteArray := prog_1_method_68_code
def yX8_spaceIn : MethodName := ⟨RX8, "spaceIn", "(LExportcover$Land;)I"⟩
abbrev cX8_insuredOf : ByteArray := prog_1_method_69_code
def yX8_insuredOf : MethodName := ⟨RX8, "insuredOf", "(LExportcover$Policy;LExportcover$Buyer;II)I"⟩
abbrev cX8_reasonOf : ByteArray := prog_1_method_70_code
def yX8_reasonOf : MethodName := ⟨RX8, "reasonOf", "(LExportcover$Policy;LExportcover$Buyer;II)I"⟩
abbrev cX8_chestOfRival : ByteArray := prog_1_method_71_code
def yX8_chestOfRival : MethodName := ⟨RX8, "chestOfRival", "(I)LExportcover$Chest;"⟩
abbrev cX8_takePremium : ByteArray := prog_1_method_72_code
def yX8_takePremium : MethodName := ⟨RX8, "takePremium", "(LExportcover$Shipment;)V"⟩
abbrev cX8_payBack : ByteArray := prog_1_method_73_code
def yX8_payBack : MethodName := ⟨RX8, "payBack", "(LExportcover$Shipment;)V"⟩
abbrev cX8_firstToPay : ByteArray := prog_1_method_74_code
def yX8_firstToPay : MethodName := ⟨RX8, "firstToPay", "(LExportcover$Buyer;)LExportcover$Shipment;"⟩
abbrev cX8_settle : ByteArray := prog_1_method_75_code
def yX8_settle : MethodName := ⟨RX8, "settle", "(LExportcover$Shipment;LExportcover$Chest;I)V"⟩
abbrev cX8_payWhatIsDue : ByteArray := prog_1_method_76_code
def yX8_payWhatIsDue : MethodName := ⟨RX8, "payWhatIsDue", "()V"⟩
abbrev cX8_payWhatIsPutOff : ByteArray := prog_1_method_77_code
def yX8_payWhatIsPutOff : MethodName := ⟨RX8, "payWhatIsPutOff", "()V"⟩
abbrev cX8_balance : ByteArray := prog_1_method_78_code
def yX8_balance : MethodName := ⟨RX8, "balance", "()I"⟩
abbrev cX8_areChestsSound : ByteArray := prog_1_method_79_code
def yX8_areChestsSound : MethodName := ⟨RX8, "areChestsSound", "()Z"⟩
abbrev cX8_reachedFrom : ByteArray := prog_1_method_80_code
def yX8_reachedFrom : MethodName := ⟨RX8, "reachedFrom", "(I)I"⟩
abbrev cX8_isInCircle : ByteArray := prog_1_method_81_code
def yX8_isInCircle : MethodName := ⟨RX8, "isInCircle", "(LExportcover$Exporter;)Z"⟩
abbrev cX8_isSuspect : ByteArray := prog_1_method_82_code
def yX8_isSuspect : MethodName := ⟨RX8, "isSuspect", "(LExportcover$Shipment;)Z"⟩
abbrev cX8_countOfSuspect : ByteArray := prog_1_method_83_code
def yX8_countOfSuspect : MethodName := ⟨RX8, "countOfSuspect", "()I"⟩
abbrev cX8_sumOfSet : ByteArray := prog_1_method_84_code
def yX8_sumOfSet : MethodName := ⟨RX8, "sumOfSet", "([II)I"⟩
abbrev cX8_chanceOfSet : ByteArray := prog_1_method_85_code
def yX8_chanceOfSet : MethodName := ⟨RX8, "chanceOfSet", "(I)D"⟩
abbrev cX8_figureOfLand : ByteArray := prog_1_method_86_code
def yX8_figureOfLand : MethodName := ⟨RX8, "figureOfLand", "(LExportcover$Land;I)I"⟩
abbrev cX8_figureOfBuyer : ByteArray := prog_1_method_87_code
def yX8_figureOfBuyer : MethodName := ⟨RX8, "figureOfBuyer", "(LExportcover$Buyer;I)I"⟩
abbrev cX8_debtOf : ByteArray := prog_1_method_88_code
def yX8_debtOf : MethodName := ⟨RX8, "debtOf", "(LExportcover$Buyer;)I"⟩
abbrev cX8_figureOfExporter : ByteArray := prog_1_method_89_code
def yX8_figureOfExporter : MethodName := ⟨RX8, "figureOfExporter", "(LExportcover$Exporter;I)I"⟩
abbrev cX8_countOfRunningPolicies : ByteArray := prog_1_method_90_code
def yX8_countOfRunningPolicies : MethodName := ⟨RX8, "countOfRunningPolicies", "(LExportcover$Exporter;)I"⟩
abbrev cX8_countOfShipmentsBy : ByteArray := prog_1_method_91_code
def yX8_countOfShipmentsBy : MethodName := ⟨RX8, "countOfShipmentsBy", "(LExportcover$Exporter;)I"⟩
abbrev cX8_figureOfPolicy : ByteArray := prog_1_method_92_code
def yX8_figureOfPolicy : MethodName := ⟨RX8, "figureOfPolicy", "(LExportcover$Policy;I)I"⟩
abbrev cX8_countOfShipmentsUnder : ByteArray := prog_1_method_93_code
def yX8_countOfShipmentsUnder : MethodName := ⟨RX8, "countOfShipmentsUnder", "(LExportcover$Policy;)I"⟩
abbrev cX8_premiumsUnder : ByteArray := prog_1_method_94_code
def yX8_premiumsUnder : MethodName := ⟨RX8, "premiumsUnder", "(LExportcover$Policy;)I"⟩
abbrev cX8_figureOfShipment : ByteArray := prog_1_method_95_code
def yX8_figureOfShipment : MethodName := ⟨RX8, "figureOfShipment", "(LExportcover$Shipment;I)I"⟩
abbrev cX8_figureOfPart : ByteArray := prog_1_method_96_code
def yX8_figureOfPart : MethodName := ⟨RX8, "figureOfPart", "(LExportcover$Shipment;IZ)I"⟩
abbrev cX8_figureOfBooks : ByteArray := prog_1_method_97_code
def yX8_figureOfBooks : MethodName := ⟨RX8, "figureOfBooks", "(I)I"⟩
abbrev cX8_countOfMarked : ByteArray := prog_1_method_98_code
def yX8_countOfMarked : MethodName := ⟨RX8, "countOfMarked", "(I)I"⟩
abbrev cX8_writeSlip : ByteArray := prog_1_method_99_code
def yX8_writeSlip : MethodName := ⟨RX8, "writeSlip", "(Ljava/lang/StringBuilder;ILExportcover$Shipment;)V"⟩
abbrev cX8_writeIfMarked : ByteArray := prog_1_method_100_code
def yX8_writeIfMarked : MethodName := ⟨RX8, "writeIfMarked", "(Ljava/lang/StringBuilder;IILjava/lang/String;)V"⟩
abbrev cX8_digestOfLands : ByteArray := prog_1_method_101_code
def yX8_digestOfLands : MethodName := ⟨RX8, "digestOfLands", "(J)J"⟩
abbrev cX8_digestOfBuyers : ByteArray := prog_1_method_102_code
def yX8_digestOfBuyers : MethodName := ⟨RX8, "digestOfBuyers", "(J)J"⟩
abbrev cX8_digestOfExporters : ByteArray := prog_1_method_103_code
def yX8_digestOfExporters : MethodName := ⟨RX8, "digestOfExporters", "(J)J"⟩
abbrev cX8_digestOfPolicies : ByteArray := prog_1_method_104_code
def yX8_digestOfPolicies : MethodName := ⟨RX8, "digestOfPolicies", "(J)J"⟩
abbrev cX8_digestOfShipments : ByteArray := prog_1_method_105_code
def yX8_digestOfShipments : MethodName := ⟨RX8, "digestOfShipments", "(J)J"⟩
def RX9 : String := "ExportcoverModel$Buyer"
def RX10 : String := "ExportcoverModel$Exporter"
def RX11 : String := "ExportcoverModel$Land"
def RX12 : String := "ExportcoverModel$Policy"
def RX13 : String := "ExportcoverModel$Shipment"
def RX14 : String := "ExportcoverModel"
def RJx145de : String := "java/io/Serializable"
def RJ5 : String := "java/lang/AbstractStringBuilder"
abbrev cJ5_init_d00df : ByteArray := prog_18_method_2_code
def yJ5_init_d00df : MethodName := ⟨RJ5, "<init>", "(I)V"⟩
abbrev cJ5_length_8abf5 : ByteArray := prog_18_method_6_code
def yJ5_length_8abf5 : MethodName := ⟨RJ5, "length", "()I"⟩
abbrev cJ5_ensureCapacityInternal_d00df : ByteArray := prog_18_method_9_code
def yJ5_ensureCapacityInternal_d00df : MethodName := ⟨RJ5, "ensureCapacityInternal", "(I)V"⟩
abbrev cJ5_newCapacity_0f7a4 : ByteArray := prog_18_method_10_code
def yJ5_newCapacity_0f7a4 : MethodName := ⟨RJ5, "newCapacity", "(I)I"⟩
abbrev cJ5_inflate_da8c8 : ByteArray := prog_18_method_11_code
def yJ5_inflate_da8c8 : MethodName := ⟨RJ5, "inflate", "()V"⟩
abbrev cJ5_setLength_d00df : ByteArray := prog_18_method_13_code
def yJ5_setLength_d00df : MethodName := ⟨RJ5, "setLength", "(I)V"⟩
abbrev cJ5_append_cf1ce : ByteArray := prog_18_method_22_code
def yJ5_append_cf1ce : MethodName := ⟨RJ5, "append", "(Ljava/lang/String;)Ljava/lang/AbstractStringBuilder;"⟩
abbrev cJ5_appendNull_278bc : ByteArray := prog_18_method_26_code
def yJ5_appendNull_278bc : MethodName := ⟨RJ5, "appendNull", "()Ljava/lang/AbstractStringBuilder;"⟩
abbrev cJ5_append_3fe6f : ByteArray := prog_18_method_31_code
def yJ5_append_3fe6f : MethodName := ⟨RJ5, "append", "(C)Ljava/lang/AbstractStringBuilder;"⟩
abbrev cJ5_append_c97b9 : ByteArray := prog_18_method_32_code
def yJ5_append_c97b9 : MethodName := ⟨RJ5, "append", "(I)Ljava/lang/AbstractStringBuilder;"⟩
abbrev cJ5_getValue_6d5f1 : ByteArray := prog_18_method_64_code
def yJ5_getValue_6d5f1 : MethodName := ⟨RJ5, "getValue", "()[B"⟩
abbrev cJ5_isLatin1_aae02 : ByteArray := prog_18_method_68_code
def yJ5_isLatin1_aae02 : MethodName := ⟨RJ5, "isLatin1", "()Z"⟩
abbrev cJ5_inflateIfNeededFor_a7421 : ByteArray := prog_18_method_71_code
def yJ5_inflateIfNeededFor_a7421 : MethodName := ⟨RJ5, "inflateIfNeededFor", "(Ljava/lang/String;)V"⟩
abbrev cJ5_putStringAt_47b60 : ByteArray := prog_18_method_73_code
def yJ5_putStringAt_47b60 : MethodName := ⟨RJ5, "putStringAt", "(ILjava/lang/String;)V"⟩
def RJx2cfe8 : String := "java/lang/Appendable"
def RJx00060 : String := "java/lang/ArrayIndexOutOfBoundsException"
abbrev cJx00060_init_d00df : ByteArray := prog_20_method_3_code
def yJx00060_init_d00df : MethodName := ⟨RJx00060, "<init>", "(I)V"⟩
def RJx9f9b0 : String := "java/lang/CharSequence"
def RJx8e188 : String := "java/lang/Cloneable"
def RJxb160c : String := "java/lang/Comparable"
def RJ6 : String := "java/lang/Integer"
abbrev cJ6_getChars_ba4f3 : ByteArray := prog_28_method_12_code
def yJ6_getChars_ba4f3 : MethodName := ⟨RJ6, "getChars", "(II[B)I"⟩
abbrev cJ6_stringSize_0f7a4 : ByteArray := prog_28_method_13_code
def yJ6_stringSize_0f7a4 : MethodName := ⟨RJ6, "stringSize", "(I)I"⟩
def RJxab1ab : String := "java/lang/Iterable"
def RJ9 : String := "java/lang/Math"
abbrev cJ9_max_7cf53 : ByteArray := prog_30_method_65_code
def yJ9_max_7cf53 : MethodName := ⟨RJ9, "max", "(II)I"⟩
abbrev cJ9_min_7cf53 : ByteArray := prog_30_method_69_code
def yJ9_min_7cf53 : MethodName := ⟨RJ9, "min", "(II)I"⟩
def RJxd2413 : String := "java/lang/Number"
def RJ0 : String := "java/lang/String"
abbrev cJ0_init_81219 : ByteArray := prog_33_method_53_code
def yJ0_init_81219 : MethodName := ⟨RJ0, "<init>", "(Ljava/lang/StringBuilder;)V"⟩
abbrev cJ0_length_8abf5 : ByteArray := prog_33_method_54_code
def yJ0_length_8abf5 : MethodName := ⟨RJ0, "length", "()I"⟩
abbrev cJ0_getBytes_840e7 : ByteArray := prog_33_method_147_code
def yJ0_getBytes_840e7 : MethodName := ⟨RJ0, "getBytes", "([BIB)V"⟩
abbrev cJ0_init_db425 : ByteArray := prog_33_method_150_code
def yJ0_init_db425 : MethodName := ⟨RJ0, "<init>", "(Ljava/lang/AbstractStringBuilder;Ljava/lang/Void;)V"⟩
abbrev cJ0_coder_7d493 : ByteArray := prog_33_method_152_code
def yJ0_coder_7d493 : MethodName := ⟨RJ0, "coder", "()B"⟩
abbrev cJ0_checkIndex_df160 : ByteArray := prog_33_method_155_code
def yJ0_checkIndex_df160 : MethodName := ⟨RJ0, "checkIndex", "(II)V"⟩
abbrev cJ0_checkBoundsOffCount_cabcc : ByteArray := prog_33_method_157_code
def yJ0_checkBoundsOffCount_cabcc : MethodName := ⟨RJ0, "checkBoundsOffCount", "(III)I"⟩
abbrev cJ0_checkBoundsBeginEnd_23922 : ByteArray := prog_33_method_158_code
def yJ0_checkBoundsBeginEnd_23922 : MethodName := ⟨RJ0, "checkBoundsBeginEnd", "(III)V"⟩
def RJ4 : String := "java/lang/StringBuilder"
def TJ4 : u_T := fun k => match k with
  | 0 => ("java/lang/AbstractStringBuilder", "value", "[B", false)
  | 1 => ("java/lang/AbstractStringBuilder", "coder", "B", false)
  | 2 => ("java/lang/AbstractStringBuilder", "maybeLatin1", "Z", false)
  | _ => ("java/lang/AbstractStringBuilder", "count", "I", false)
def tyJ4 : Nat → FieldType := fun k => match k with
  | 0 => .array .byte
  | 1 => .byte
  | 2 => .boolean
  | _ => .int
theorem nmJ4 : ∀ a, a < 4 → ∀ b, b < 4 → a ≠ b → (TJ4 a).2.1 ≠ (TJ4 b).2.1 := by decide +kernel
theorem tyJ4_ok : ∀ k, k < 4 → parseFieldDescriptor (TJ4 k).2.2.1 = some (tyJ4 k) := by decide +kernel
abbrev cJ4_init_da8c8 : ByteArray := prog_34_method_1_code
def yJ4_init_da8c8 : MethodName := ⟨RJ4, "<init>", "()V"⟩
abbrev cJ4_append_15ec4 : ByteArray := prog_34_method_7_code
def yJ4_append_15ec4 : MethodName := ⟨RJ4, "append", "(Ljava/lang/String;)Ljava/lang/StringBuilder;"⟩
abbrev cJ4_append_cf468 : ByteArray := prog_34_method_14_code
def yJ4_append_cf468 : MethodName := ⟨RJ4, "append", "(C)Ljava/lang/StringBuilder;"⟩
abbrev cJ4_append_bf812 : ByteArray := prog_34_method_15_code
def yJ4_append_bf812 : MethodName := ⟨RJ4, "append", "(I)Ljava/lang/StringBuilder;"⟩
abbrev cJ4_toString_0e30d : ByteArray := prog_34_method_42_code
def yJ4_toString_0e30d : MethodName := ⟨RJ4, "toString", "()Ljava/lang/String;"⟩
abbrev cJ4_setLength_d00df : ByteArray := prog_34_method_89_code
def yJ4_setLength_d00df : MethodName := ⟨RJ4, "setLength", "(I)V"⟩
abbrev cJ4_length_8abf5 : ByteArray := prog_34_method_93_code
def yJ4_length_8abf5 : MethodName := ⟨RJ4, "length", "()I"⟩
def RJx7c733 : String := "java/lang/StringIndexOutOfBoundsException"
abbrev cJx7c733_init_d00df : ByteArray := prog_35_method_3_code
def yJx7c733_init_d00df : MethodName := ⟨RJx7c733, "<init>", "(I)V"⟩
def RJ1 : String := "java/lang/StringLatin1"
abbrev cJ1_canEncode_fc78d : ByteArray := prog_36_method_3_code
def yJ1_canEncode_fc78d : MethodName := ⟨RJ1, "canEncode", "(C)Z"⟩
abbrev cJ1_fillNull_b72d1 : ByteArray := prog_36_method_48_code
def yJ1_fillNull_b72d1 : MethodName := ⟨RJ1, "fillNull", "([BII)V"⟩
abbrev cJ1_inflate_0e8fd : ByteArray := prog_36_method_50_code
def yJ1_inflate_0e8fd : MethodName := ⟨RJ1, "inflate", "([BI[BII)V"⟩
def RJ2 : String := "java/lang/StringUTF16"
abbrev cJ2_newBytesFor_77867 : ByteArray := prog_37_method_2_code
def yJ2_newBytesFor_77867 : MethodName := ⟨RJ2, "newBytesFor", "(I)[B"⟩
abbrev cJ2_newBytesLength_0f7a4 : ByteArray := prog_37_method_3_code
def yJ2_newBytesLength_0f7a4 : MethodName := ⟨RJ2, "newBytesLength", "(I)I"⟩
abbrev cJ2_putChar_b72d1 : ByteArray := prog_37_method_4_code
def yJ2_putChar_b72d1 : MethodName := ⟨RJ2, "putChar", "([BII)V"⟩
abbrev cJ2_getChar_3b067 : ByteArray := prog_37_method_5_code
def yJ2_getChar_3b067 : MethodName := ⟨RJ2, "getChar", "([BI)C"⟩
abbrev cJ2_length_9d52b : ByteArray := prog_37_method_6_code
def yJ2_length_9d52b : MethodName := ⟨RJ2, "length", "([B)I"⟩
abbrev cJ2_coderFromArrayLen_85cad : ByteArray := prog_37_method_15_code
def yJ2_coderFromArrayLen_85cad : MethodName := ⟨RJ2, "coderFromArrayLen", "([BI)B"⟩
abbrev cJ2_compress_39247 : ByteArray := prog_37_method_17_code
def yJ2_compress_39247 : MethodName := ⟨RJ2, "compress", "([BII)[B"⟩
abbrev cJ2_compress_5af95 : ByteArray := prog_37_method_22_code
def yJ2_compress_5af95 : MethodName := ⟨RJ2, "compress", "([BI[BII)I"⟩
abbrev cJ2_fillNull_b72d1 : ByteArray := prog_37_method_70_code
def yJ2_fillNull_b72d1 : MethodName := ⟨RJ2, "fillNull", "([BII)V"⟩
abbrev cJ2_putCharSB_b72d1 : ByteArray := prog_37_method_71_code
def yJ2_putCharSB_b72d1 : MethodName := ⟨RJ2, "putCharSB", "([BII)V"⟩
abbrev cJ2_getChars_46870 : ByteArray := prog_37_method_77_code
def yJ2_getChars_46870 : MethodName := ⟨RJ2, "getChars", "(III[B)I"⟩
abbrev cJ2_putCharsAt_cd4e5 : ByteArray := prog_37_method_81_code
def yJ2_putCharsAt_cd4e5 : MethodName := ⟨RJ2, "putCharsAt", "([BICCCC)I"⟩
abbrev cJ2_inflate_0e8fd : ByteArray := prog_37_method_86_code
def yJ2_inflate_0e8fd : MethodName := ⟨RJ2, "inflate", "([BI[BII)V"⟩
abbrev cJ2_getChars_ba4f3 : ByteArray := prog_37_method_89_code
def yJ2_getChars_ba4f3 : MethodName := ⟨RJ2, "getChars", "(II[B)I"⟩
abbrev cJ2_checkIndex_2214a : ByteArray := prog_37_method_91_code
def yJ2_checkIndex_2214a : MethodName := ⟨RJ2, "checkIndex", "(I[B)V"⟩
abbrev cJ2_checkBoundsBeginEnd_d044e : ByteArray := prog_37_method_93_code
def yJ2_checkBoundsBeginEnd_d044e : MethodName := ⟨RJ2, "checkBoundsBeginEnd", "(II[B)V"⟩
abbrev cJ2_checkBoundsOffCount_d044e : ByteArray := prog_37_method_94_code
def yJ2_checkBoundsOffCount_d044e : MethodName := ⟨RJ2, "checkBoundsOffCount", "(II[B)V"⟩
def RJ10 : String := "java/lang/System"
def RJxfd54e : String := "java/lang/constant/Constable"
def RJx3cf43 : String := "java/lang/constant/ConstantDesc"
def RJxa1e45 : String := "java/util/AbstractCollection"
def TJxa1e45 : u_T := fun k => match k with
  | _ => ("", "", "", false)
def tyJxa1e45 : Nat → FieldType := fun k => match k with
  | _ => .int
theorem nmJxa1e45 : ∀ a, a < 0 → ∀ b, b < 0 → a ≠ b → (TJxa1e45 a).2.1 ≠ (TJxa1e45 b).2.1 := by decide +kernel
theorem tyJxa1e45_ok : ∀ k, k < 0 → parseFieldDescriptor (TJxa1e45 k).2.2.1 = some (tyJxa1e45 k) := by decide +kernel
abbrev cJxa1e45_init_da8c8 : ByteArray := prog_42_method_1_code
def yJxa1e45_init_da8c8 : MethodName := ⟨RJxa1e45, "<init>", "()V"⟩
def RJxc12de : String := "java/util/AbstractList"
def TJxc12de : u_T := fun k => match k with
  | _ => ("", "", "", false)
def tyJxc12de : Nat → FieldType := fun k => match k with
  | _ => .int
theorem nmJxc12de : ∀ a, a < 0 → ∀ b, b < 0 → a ≠ b → (TJxc12de a).2.1 ≠ (TJxc12de b).2.1 := by decide +kernel
theorem tyJxc12de_ok : ∀ k, k < 0 → parseFieldDescriptor (TJxc12de k).2.2.1 = some (tyJxc12de k) := by decide +kernel
abbrev cJxc12de_init_da8c8 : ByteArray := prog_43_method_1_code
def yJxc12de_init_da8c8 : MethodName := ⟨RJxc12de, "<init>", "()V"⟩
def RJx4a65c : String := "java/util/ArrayList"
def TJx4a65c : u_T := fun k => match k with
  | 0 => ("java/util/AbstractList", "modCount", "I", false)
  | 1 => ("java/util/ArrayList", "elementData", "[Ljava/lang/Object;", false)
  | _ => ("java/util/ArrayList", "size", "I", false)
def tyJx4a65c : Nat → FieldType := fun k => match k with
  | 0 => .int
  | 1 => .array (.object "java/lang/Object")
  | _ => .int
theorem nmJx4a65c : ∀ a, a < 3 → ∀ b, b < 3 → a ≠ b → (TJx4a65c a).2.1 ≠ (TJx4a65c b).2.1 := by decide +kernel
theorem tyJx4a65c_ok : ∀ k, k < 3 → parseFieldDescriptor (TJx4a65c k).2.2.1 = some (tyJx4a65c k) := by decide +kernel
abbrev cJx4a65c_init_da8c8 : ByteArray := prog_44_method_2_code
def yJx4a65c_init_da8c8 : MethodName := ⟨RJx4a65c, "<init>", "()V"⟩
abbrev cJx4a65c_grow_92f84 : ByteArray := prog_44_method_6_code
def yJx4a65c_grow_92f84 : MethodName := ⟨RJx4a65c, "grow", "(I)[Ljava/lang/Object;"⟩
abbrev cJx4a65c_grow_d5877 : ByteArray := prog_44_method_7_code
def yJx4a65c_grow_d5877 : MethodName := ⟨RJx4a65c, "grow", "()[Ljava/lang/Object;"⟩
abbrev cJx4a65c_size_8abf5 : ByteArray := prog_44_method_8_code
def yJx4a65c_size_8abf5 : MethodName := ⟨RJx4a65c, "size", "()I"⟩
abbrev cJx4a65c_isEmpty_aae02 : ByteArray := prog_44_method_9_code
def yJx4a65c_isEmpty_aae02 : MethodName := ⟨RJx4a65c, "isEmpty", "()Z"⟩
abbrev cJx4a65c_elementData_915e3 : ByteArray := prog_44_method_18_code
def yJx4a65c_elementData_915e3 : MethodName := ⟨RJx4a65c, "elementData", "(I)Ljava/lang/Object;"⟩
abbrev cJx4a65c_get_915e3 : ByteArray := prog_44_method_20_code
def yJx4a65c_get_915e3 : MethodName := ⟨RJx4a65c, "get", "(I)Ljava/lang/Object;"⟩
abbrev cJx4a65c_add_72be8 : ByteArray := prog_44_method_24_code
def yJx4a65c_add_72be8 : MethodName := ⟨RJx4a65c, "add", "(Ljava/lang/Object;[Ljava/lang/Object;I)V"⟩
abbrev cJx4a65c_add_9ea2d : ByteArray := prog_44_method_25_code
def yJx4a65c_add_9ea2d : MethodName := ⟨RJx4a65c, "add", "(Ljava/lang/Object;)Z"⟩
def RJ7 : String := "java/util/Arrays"
abbrev cJ7_rangeCheck_23922 : ByteArray := prog_45_method_30_code
def yJ7_rangeCheck_23922 : MethodName := ⟨RJ7, "rangeCheck", "(III)V"⟩
abbrev cJ7_fill_eb02e : ByteArray := prog_45_method_110_code
def yJ7_fill_eb02e : MethodName := ⟨RJ7, "fill", "([BIIB)V"⟩
abbrev cJ7_copyOf_1904c : ByteArray := prog_45_method_119_code
def yJ7_copyOf_1904c : MethodName := ⟨RJ7, "copyOf", "([Ljava/lang/Object;I)[Ljava/lang/Object;"⟩
abbrev cJ7_copyOf_6403c : ByteArray := prog_45_method_120_code
def yJ7_copyOf_6403c : MethodName := ⟨RJ7, "copyOf", "([Ljava/lang/Object;ILjava/lang/Class;)[Ljava/lang/Object;"⟩
abbrev cJ7_copyOf_9075b : ByteArray := prog_45_method_121_code
def yJ7_copyOf_9075b : MethodName := ⟨RJ7, "copyOf", "([BI)[B"⟩
abbrev cJ7_checkLength_df160 : ByteArray := prog_45_method_131_code
def yJ7_checkLength_df160 : MethodName := ⟨RJ7, "checkLength", "(II)V"⟩
abbrev cJ7_copyOfRange_39247 : ByteArray := prog_45_method_132_code
def yJ7_copyOfRange_39247 : MethodName := ⟨RJ7, "copyOfRange", "([BII)[B"⟩
abbrev cJ7_copyOfRangeByte_39247 : ByteArray := prog_45_method_133_code
def yJ7_copyOfRangeByte_39247 : MethodName := ⟨RJ7, "copyOfRangeByte", "([BII)[B"⟩
def RJx5ef63 : String := "java/util/Collection"
def RJxbd725 : String := "java/util/List"
def RJ15 : String := "java/util/Objects"
def TJ15 : u_T := fun k => match k with
  | _ => ("", "", "", false)
def tyJ15 : Nat → FieldType := fun k => match k with
  | _ => .int
theorem nmJ15 : ∀ a, a < 0 → ∀ b, b < 0 → a ≠ b → (TJ15 a).2.1 ≠ (TJ15 b).2.1 := by decide +kernel
theorem tyJ15_ok : ∀ k, k < 0 → parseFieldDescriptor (TJ15 k).2.2.1 = some (tyJ15 k) := by decide +kernel
abbrev cJ15_checkIndex_7cf53 : ByteArray := prog_48_method_17_code
def yJ15_checkIndex_7cf53 : MethodName := ⟨RJ15, "checkIndex", "(II)I"⟩
def RJxf0a74 : String := "java/util/RandomAccess"
def RJxa66e6 : String := "java/util/SequencedCollection"
def RJ8 : String := "jdk/internal/util/ArraysSupport"
def TJ8 : u_T := fun k => match k with
  | _ => ("", "", "", false)
def tyJ8 : Nat → FieldType := fun k => match k with
  | _ => .int
theorem nmJ8 : ∀ a, a < 0 → ∀ b, b < 0 → a ≠ b → (TJ8 a).2.1 ≠ (TJ8 b).2.1 := by decide +kernel
theorem tyJ8_ok : ∀ k, k < 0 → parseFieldDescriptor (TJ8 k).2.2.1 = some (tyJ8 k) := by decide +kernel
abbrev cJ8_newLength_cabcc : ByteArray := prog_51_method_27_code
def yJ8_newLength_cabcc : MethodName := ⟨RJ8, "newLength", "(III)I"⟩
abbrev cJ8_hugeLength_7cf53 : ByteArray := prog_51_method_28_code
def yJ8_hugeLength_7cf53 : MethodName := ⟨RJ8, "hugeLength", "(II)I"⟩
def RJ3 : String := "jdk/internal/util/Preconditions"
def TJ3 : u_T := fun k => match k with
  | _ => ("", "", "", false)
def tyJ3 : Nat → FieldType := fun k => match k with
  | _ => .int
theorem nmJ3 : ∀ a, a < 0 → ∀ b, b < 0 → a ≠ b → (TJ3 a).2.1 ≠ (TJ3 b).2.1 := by decide +kernel
theorem tyJ3_ok : ∀ k, k < 0 → parseFieldDescriptor (TJ3 k).2.2.1 = some (tyJ3 k) := by decide +kernel
abbrev cJ3_checkIndex_8e157 : ByteArray := prog_52_method_11_code
def yJ3_checkIndex_8e157 : MethodName := ⟨RJ3, "checkIndex", "(IILjava/util/function/BiFunction;)I"⟩
abbrev cJ3_checkFromToIndex_8c36e : ByteArray := prog_52_method_12_code
def yJ3_checkFromToIndex_8c36e : MethodName := ⟨RJ3, "checkFromToIndex", "(IIILjava/util/function/BiFunction;)I"⟩
abbrev cJ3_checkFromIndexSize_8c36e : ByteArray := prog_52_method_13_code
def yJ3_checkFromIndexSize_8c36e : MethodName := ⟨RJ3, "checkFromIndexSize", "(IIILjava/util/function/BiFunction;)I"⟩
def RL : String := "ExportcoverLaw"
abbrev cL_below : ByteArray := method_2_code
def yL_below : MethodName := ⟨RL, "below", "(II)I"⟩
abbrev cL_cell : ByteArray := method_3_code
def yL_cell : MethodName := ⟨RL, "cell", "([II)I"⟩
abbrev cL_office : ByteArray := method_4_code
def yL_office : MethodName := ⟨RL, "office", "([I)LExportcover;"⟩
abbrev cL_isDone : ByteArray := method_5_code
def yL_isDone : MethodName := ⟨RL, "isDone", "(LExportcover;I)Z"⟩
abbrev cL_law : ByteArray := code
def yL_law : MethodName := ⟨RL, "law", "([I)Z"⟩
abbrev cL_isSo : ByteArray := method_7_code
def yL_isSo : MethodName := ⟨RL, "isSo", "(LExportcover;)Z"⟩
end
section
/-! THE BASE: one list of words, one abstract heap (K: kind and length, F: whole numbers, G: references), one judgment V, one form of contract -/
section PB1
def Al : List Cond := lw_tbl.filter goodWord
theorem al_in {i : Nat} {w : Cond} (h : lw_tbl[i]? = some w) (hg : goodWord w = true) : w ∈ Al := List.mem_filter.mpr ⟨List.mem_of_getElem? h, hg⟩
theorem al_tbl {w : Cond} (h : w ∈ Al) : w ∈ lw_tbl := (List.mem_filter.mp h).1
theorem al_good {w : Cond} (h : w ∈ Al) : (w.onTables && w.keeps) = true ∨ ∃ ty, w = .arrayClass ty := good_of_word (List.mem_filter.mp h).2
abbrev wl (y : MethodName) (bytes : ByteArray) (maxL : Nat) (ret : Option FieldType) : List Cond := Cond.code y bytes maxL ret :: Al
theorem al_goodIn {y : MethodName} {bytes : ByteArray} {maxL : Nat} {ret : Option FieldType} (h : Cond.code y bytes maxL ret ∈ Al) : GoodIn Al (wl y bytes maxL ret) := by
  intro w hw
  rcases List.mem_cons.mp hw with rfl | h2
  · exact ⟨h, al_good h⟩
  · exact ⟨h2, al_good h2⟩
theorem al_us {C : String} {T : u_T} {N : Nat} (h1 : ∀ w ∈ u_ws C T N, w ∈ lw_tbl) (h2 : (u_ws C T N).all goodWord = true) : ∀ w ∈ u_ws C T N, w ∈ Al := fun w h => List.mem_filter.mpr ⟨h1 w h, List.all_eq_true.mp h2 w h⟩
abbrev Xt : Type := va_G × ClassId × ClassId × ClassId × ClassId × Nat × Nat
abbrev xD (X : Xt) : va_G := X.1
abbrev xI (X : Xt) : ClassId := X.2.1
abbrev xO (X : Xt) : ClassId := X.2.2.1
abbrev xB (X : Xt) : ClassId := X.2.2.2.1
abbrev xZ (X : Xt) : ClassId := X.2.2.2.2.1
abbrev xb (X : Xt) : Nat := X.2.2.2.2.2.1
abbrev xz (X : Xt) : Nat := X.2.2.2.2.2.2
abbrev Kt : Type := Nat → Nat × Nat
abbrev Ft : Type := Nat → Nat → Int32
abbrev Gt : Type := Nat → Nat → Option Nat
def up2 {α : Type} (F : Nat → Nat → α) (a k : Nat) (v : α) : Nat → Nat → α := va_up F a (va_up (F a) k v)
theorem up2_eq {α : Type} (F : Nat → Nat → α) (a k : Nat) (v : α) : up2 F a k v a k = v := by simp [up2, va_up]
theorem up2_k {α : Type} (F : Nat → Nat → α) {a k j : Nat} (v : α) (h : j ≠ k) : up2 F a k v a j = F a j := by simp [up2, va_up, h]
theorem up2_a {α : Type} (F : Nat → Nat → α) {a k x : Nat} (v : α) (h : x ≠ a) : up2 F a k v x = F x := by simp [up2, va_up, h]
def gp (G : Gt) (a k : Nat) : Nat := (G a k).getD 0
theorem gp_some {G : Gt} {a k : Nat} (h : ¬ G a k = none) : G a k = some (gp G a k) := by
  unfold gp
  cases hq : G a k with
  | none => exact absurd hq h
  | some q => rfl
theorem gp_eq {G : Gt} {a k q : Nat} (h : G a k = some q) : gp G a k = q := by unfold gp; rw [h]; rfl
end PB1
/-! the words, by their places -/
section PWD
theorem aw_1 : Cond.selects RX8 yX8_payWhatIsDue yX8_payWhatIsDue ∈ Al := al_in (i := 1) (by decide +kernel) (by decide +kernel)
theorem aw_2 : Cond.selects RX8 yX8_settle yX8_settle ∈ Al := al_in (i := 2) (by decide +kernel) (by decide +kernel)
theorem aw_3 : Cond.selects RX2 yX2_dueOf yX2_dueOf ∈ Al := al_in (i := 3) (by decide +kernel) (by decide +kernel)
theorem aw_4 : Cond.selects RX8 yX8_chestOfRival yX8_chestOfRival ∈ Al := al_in (i := 4) (by decide +kernel) (by decide +kernel)
theorem aw_5 : Cond.selects RX8 yX8_payWhatIsPutOff yX8_payWhatIsPutOff ∈ Al := al_in (i := 5) (by decide +kernel) (by decide +kernel)
theorem aw_6 : Cond.selects RX8 yX8_policyAt yX8_policyAt ∈ Al := al_in (i := 6) (by decide +kernel) (by decide +kernel)
theorem aw_7 : Cond.selects RX8 yX8_figureOfPolicy yX8_figureOfPolicy ∈ Al := al_in (i := 7) (by decide +kernel) (by decide +kernel)
theorem aw_8 : Cond.selects RX8 yX8_countOfShipmentsUnder yX8_countOfShipmentsUnder ∈ Al := al_in (i := 8) (by decide +kernel) (by decide +kernel)
theorem aw_9 : Cond.selects RX8 yX8_premiumsUnder yX8_premiumsUnder ∈ Al := al_in (i := 9) (by decide +kernel) (by decide +kernel)
theorem aw_10 : Cond.selects RX8 yX8_shipmentAt yX8_shipmentAt ∈ Al := al_in (i := 10) (by decide +kernel) (by decide +kernel)
theorem aw_11 : Cond.selects RX8 yX8_figureOfShipment yX8_figureOfShipment ∈ Al := al_in (i := 11) (by decide +kernel) (by decide +kernel)
theorem aw_12 : Cond.selects RX8 yX8_figureOfBooks yX8_figureOfBooks ∈ Al := al_in (i := 12) (by decide +kernel) (by decide +kernel)
theorem aw_13 : Cond.selects RX8 yX8_balance yX8_balance ∈ Al := al_in (i := 13) (by decide +kernel) (by decide +kernel)
theorem aw_14 : Cond.selects RX8 yX8_countOfMarked yX8_countOfMarked ∈ Al := al_in (i := 14) (by decide +kernel) (by decide +kernel)
theorem aw_15 : Cond.selects RX8 yX8_countOfSuspect yX8_countOfSuspect ∈ Al := al_in (i := 15) (by decide +kernel) (by decide +kernel)
theorem aw_16 : Cond.selects RX8 yX8_isSuspect yX8_isSuspect ∈ Al := al_in (i := 16) (by decide +kernel) (by decide +kernel)
theorem aw_17 : Cond.selects RX8 yX8_reachedFrom yX8_reachedFrom ∈ Al := al_in (i := 17) (by decide +kernel) (by decide +kernel)
theorem aw_18 : Cond.selects RX8 yX8_areChestsSound yX8_areChestsSound ∈ Al := al_in (i := 18) (by decide +kernel) (by decide +kernel)
theorem aw_19 : Cond.selects RX7 yX7_isDamageSound yX7_isDamageSound ∈ Al := al_in (i := 19) (by decide +kernel) (by decide +kernel)
theorem aw_20 : Cond.selects RX8 yX8_digestOfLands yX8_digestOfLands ∈ Al := al_in (i := 20) (by decide +kernel) (by decide +kernel)
theorem aw_21 : Cond.selects RX8 yX8_figureOfLand yX8_figureOfLand ∈ Al := al_in (i := 21) (by decide +kernel) (by decide +kernel)
theorem aw_22 : Cond.selects RX8 yX8_riskIn yX8_riskIn ∈ Al := al_in (i := 22) (by decide +kernel) (by decide +kernel)
theorem aw_23 : Cond.selects RX8 yX8_digestOfBuyers yX8_digestOfBuyers ∈ Al := al_in (i := 23) (by decide +kernel) (by decide +kernel)
theorem aw_24 : Cond.selects RX8 yX8_figureOfBuyer yX8_figureOfBuyer ∈ Al := al_in (i := 24) (by decide +kernel) (by decide +kernel)
theorem aw_25 : Cond.selects RX8 yX8_debtOf yX8_debtOf ∈ Al := al_in (i := 25) (by decide +kernel) (by decide +kernel)
theorem aw_26 : Cond.selects RX8 yX8_digestOfExporters yX8_digestOfExporters ∈ Al := al_in (i := 26) (by decide +kernel) (by decide +kernel)
theorem aw_27 : Cond.selects RX8 yX8_figureOfExporter yX8_figureOfExporter ∈ Al := al_in (i := 27) (by decide +kernel) (by decide +kernel)
theorem aw_28 : Cond.selects RX8 yX8_countOfRunningPolicies yX8_countOfRunningPolicies ∈ Al := al_in (i := 28) (by decide +kernel) (by decide +kernel)
theorem aw_29 : Cond.selects RX8 yX8_countOfShipmentsBy yX8_countOfShipmentsBy ∈ Al := al_in (i := 29) (by decide +kernel) (by decide +kernel)
theorem aw_30 : Cond.selects RX8 yX8_isInCircle yX8_isInCircle ∈ Al := al_in (i := 30) (by decide +kernel) (by decide +kernel)
theorem aw_31 : Cond.selects RX8 yX8_digestOfPolicies yX8_digestOfPolicies ∈ Al := al_in (i := 31) (by decide +kernel) (by decide +kernel)
theorem aw_32 : Cond.selects RX8 yX8_riskUnder yX8_riskUnder ∈ Al := al_in (i := 32) (by decide +kernel) (by decide +kernel)
theorem aw_33 : Cond.selects RX8 yX8_digestOfShipments yX8_digestOfShipments ∈ Al := al_in (i := 33) (by decide +kernel) (by decide +kernel)
theorem aw_34 : Cond.selects RX8 yX8_chanceOfSet yX8_chanceOfSet ∈ Al := al_in (i := 34) (by decide +kernel) (by decide +kernel)
theorem aw_35 : Cond.selects RX8 yX8_addLand yX8_addLand ∈ Al := al_in (i := 35) (by decide +kernel) (by decide +kernel)
theorem aw_36 : Cond.selects RJx4a65c yJx4a65c_add_72be8 yJx4a65c_add_72be8 ∈ Al := al_in (i := 36) (by decide +kernel) (by decide +kernel)
theorem aw_37 : Cond.selects RJx4a65c yJx4a65c_grow_d5877 yJx4a65c_grow_d5877 ∈ Al := al_in (i := 37) (by decide +kernel) (by decide +kernel)
theorem aw_38 : Cond.selects RJx4a65c yJx4a65c_grow_92f84 yJx4a65c_grow_92f84 ∈ Al := al_in (i := 38) (by decide +kernel) (by decide +kernel)
theorem aw_39 : Cond.selects RX8 yX8_addExporter yX8_addExporter ∈ Al := al_in (i := 39) (by decide +kernel) (by decide +kernel)
theorem aw_40 : Cond.selects RX8 yX8_landAt yX8_landAt ∈ Al := al_in (i := 40) (by decide +kernel) (by decide +kernel)
theorem aw_41 : Cond.selects RX8 yX8_addBuyer yX8_addBuyer ∈ Al := al_in (i := 41) (by decide +kernel) (by decide +kernel)
theorem aw_42 : Cond.selects RX8 yX8_buyerAt yX8_buyerAt ∈ Al := al_in (i := 42) (by decide +kernel) (by decide +kernel)
theorem aw_43 : Cond.selects RX8 yX8_exporterAt yX8_exporterAt ∈ Al := al_in (i := 43) (by decide +kernel) (by decide +kernel)
theorem aw_44 : Cond.selects RX8 yX8_reasonOf yX8_reasonOf ∈ Al := al_in (i := 44) (by decide +kernel) (by decide +kernel)
theorem aw_45 : Cond.selects RX8 yX8_refusalOf yX8_refusalOf ∈ Al := al_in (i := 45) (by decide +kernel) (by decide +kernel)
theorem aw_46 : Cond.selects RX8 yX8_isCoverStopped yX8_isCoverStopped ∈ Al := al_in (i := 46) (by decide +kernel) (by decide +kernel)
theorem aw_47 : Cond.selects RX8 yX8_roomFor yX8_roomFor ∈ Al := al_in (i := 47) (by decide +kernel) (by decide +kernel)
theorem aw_48 : Cond.selects RX8 yX8_spaceIn yX8_spaceIn ∈ Al := al_in (i := 48) (by decide +kernel) (by decide +kernel)
theorem aw_49 : Cond.selects RX8 yX8_insuredOf yX8_insuredOf ∈ Al := al_in (i := 49) (by decide +kernel) (by decide +kernel)
theorem aw_50 : Cond.selects RX8 yX8_takePremium yX8_takePremium ∈ Al := al_in (i := 50) (by decide +kernel) (by decide +kernel)
theorem aw_51 : Cond.selects RX8 yX8_firstToPay yX8_firstToPay ∈ Al := al_in (i := 51) (by decide +kernel) (by decide +kernel)
theorem aw_52 : Cond.selects RX8 yX8_payBack yX8_payBack ∈ Al := al_in (i := 52) (by decide +kernel) (by decide +kernel)
theorem aw_53 : Cond.selects RX8 yX8_since yX8_since ∈ Al := al_in (i := 53) (by decide +kernel) (by decide +kernel)
theorem aw_54 : Cond.initialized RL ∈ Al := al_in (i := 54) (by decide +kernel) (by decide +kernel)
theorem aw_55 : Cond.initialized RX8 ∈ Al := al_in (i := 55) (by decide +kernel) (by decide +kernel)
theorem aw_56 : Cond.initialized RJxa1e45 ∈ Al := al_in (i := 56) (by decide +kernel) (by decide +kernel)
theorem aw_57 : Cond.initialized RJxc12de ∈ Al := al_in (i := 57) (by decide +kernel) (by decide +kernel)
theorem aw_58 : Cond.initialized RJx4a65c ∈ Al := al_in (i := 58) (by decide +kernel) (by decide +kernel)
theorem aw_59 : Cond.initialized RX1 ∈ Al := al_in (i := 59) (by decide +kernel) (by decide +kernel)
theorem aw_65 : Cond.initialized RX5 ∈ Al := al_in (i := 65) (by decide +kernel) (by decide +kernel)
theorem aw_66 : Cond.initialized RJ8 ∈ Al := al_in (i := 66) (by decide +kernel) (by decide +kernel)
theorem aw_67 : Cond.initialized RJ9 ∈ Al := al_in (i := 67) (by decide +kernel) (by decide +kernel)
theorem aw_68 : Cond.initialized RJ7 ∈ Al := al_in (i := 68) (by decide +kernel) (by decide +kernel)
theorem aw_70 : Cond.initialized RX4 ∈ Al := al_in (i := 70) (by decide +kernel) (by decide +kernel)
theorem aw_72 : Cond.initialized RJ15 ∈ Al := al_in (i := 72) (by decide +kernel) (by decide +kernel)
theorem aw_73 : Cond.initialized RJ3 ∈ Al := al_in (i := 73) (by decide +kernel) (by decide +kernel)
theorem aw_74 : Cond.initialized RX0 ∈ Al := al_in (i := 74) (by decide +kernel) (by decide +kernel)
theorem aw_75 : Cond.initialized RX6 ∈ Al := al_in (i := 75) (by decide +kernel) (by decide +kernel)
theorem aw_76 : Cond.initialized RX7 ∈ Al := al_in (i := 76) (by decide +kernel) (by decide +kernel)
theorem aw_77 : Cond.initialized RX2 ∈ Al := al_in (i := 77) (by decide +kernel) (by decide +kernel)
theorem aw_78 : Cond.initialized RX3 ∈ Al := al_in (i := 78) (by decide +kernel) (by decide +kernel)
theorem aw_80 : Cond.initialized RJ4 ∈ Al := al_in (i := 80) (by decide +kernel) (by decide +kernel)
theorem aw_88 : Cond.methodLink RL 119 yX8_pass ∈ Al := al_in (i := 88) (by decide +kernel) (by decide +kernel)
theorem aw_89 : Cond.instanceMethod yX8_pass ∈ Al := al_in (i := 89) (by decide +kernel) (by decide +kernel)
theorem aw_90 : Cond.selects RX8 yX8_pass yX8_pass ∈ Al := al_in (i := 90) (by decide +kernel) (by decide +kernel)
theorem aw_91 : Cond.code yX8_pass cX8_pass 3 (some .int) ∈ Al := al_in (i := 91) (by decide +kernel) (by decide +kernel)
theorem aw_92 : Cond.methodLink RX8 44 yX8_isWithin ∈ Al := al_in (i := 92) (by decide +kernel) (by decide +kernel)
theorem aw_93 : Cond.static yX8_isWithin ∈ Al := al_in (i := 93) (by decide +kernel) (by decide +kernel)
theorem aw_94 : Cond.code yX8_isWithin cX8_isWithin 3 (some .boolean) ∈ Al := al_in (i := 94) (by decide +kernel) (by decide +kernel)
theorem aw_95 : Cond.methodLink RX8 48 yX8_demandArgument ∈ Al := al_in (i := 95) (by decide +kernel) (by decide +kernel)
theorem aw_96 : Cond.static yX8_demandArgument ∈ Al := al_in (i := 96) (by decide +kernel) (by decide +kernel)
theorem aw_97 : Cond.code yX8_demandArgument cX8_demandArgument 1 none ∈ Al := al_in (i := 97) (by decide +kernel) (by decide +kernel)
theorem aw_98 : Cond.classLink RX8 447 "java/lang/IllegalArgumentException" ∈ Al := al_in (i := 98) (by decide +kernel) (by decide +kernel)
theorem aw_124 : Cond.instanceMethod objectInit ∈ Al := al_in (i := 124) (by decide +kernel) (by decide +kernel)
theorem aw_125 : Cond.code objectInit ⟨#[0xb1]⟩ 1 none ∈ Al := al_in (i := 125) (by decide +kernel) (by decide +kernel)
theorem aw_169 : Cond.arrayClass .byte ∈ Al := al_in (i := 169) (by decide +kernel) (by decide +kernel)
theorem aw_170 : Cond.methodLink RX8 56 yX8_demandState ∈ Al := al_in (i := 170) (by decide +kernel) (by decide +kernel)
theorem aw_171 : Cond.static yX8_demandState ∈ Al := al_in (i := 171) (by decide +kernel) (by decide +kernel)
theorem aw_172 : Cond.code yX8_demandState cX8_demandState 1 none ∈ Al := al_in (i := 172) (by decide +kernel) (by decide +kernel)
theorem aw_173 : Cond.classLink RX8 452 "java/lang/IllegalStateException" ∈ Al := al_in (i := 173) (by decide +kernel) (by decide +kernel)
theorem aw_189 : Cond.methodLink RX8 326 yX8_payWhatIsDue ∈ Al := al_in (i := 189) (by decide +kernel) (by decide +kernel)
theorem aw_191 : Cond.instanceMethod yX8_payWhatIsDue ∈ Al := al_in (i := 191) (by decide +kernel) (by decide +kernel)
theorem aw_192 : Cond.instantiable RX8 14 ∈ Al := al_in (i := 192) (by decide +kernel) (by decide +kernel)
theorem aw_193 : Cond.code yX8_payWhatIsDue cX8_payWhatIsDue 4 none ∈ Al := al_in (i := 193) (by decide +kernel) (by decide +kernel)
theorem aw_194 : Cond.methodLink RX8 89 yJx4a65c_size_8abf5 ∈ Al := al_in (i := 194) (by decide +kernel) (by decide +kernel)
theorem aw_195 : Cond.instanceMethod yJx4a65c_size_8abf5 ∈ Al := al_in (i := 195) (by decide +kernel) (by decide +kernel)
theorem aw_196 : Cond.selects RJx4a65c yJx4a65c_size_8abf5 yJx4a65c_size_8abf5 ∈ Al := al_in (i := 196) (by decide +kernel) (by decide +kernel)
theorem aw_197 : Cond.code yJx4a65c_size_8abf5 cJx4a65c_size_8abf5 1 (some .int) ∈ Al := al_in (i := 197) (by decide +kernel) (by decide +kernel)
theorem aw_198 : Cond.methodLink RX8 306 yJx4a65c_get_915e3 ∈ Al := al_in (i := 198) (by decide +kernel) (by decide +kernel)
theorem aw_199 : Cond.instanceMethod yJx4a65c_get_915e3 ∈ Al := al_in (i := 199) (by decide +kernel) (by decide +kernel)
theorem aw_200 : Cond.selects RJx4a65c yJx4a65c_get_915e3 yJx4a65c_get_915e3 ∈ Al := al_in (i := 200) (by decide +kernel) (by decide +kernel)
theorem aw_201 : Cond.code yJx4a65c_get_915e3 cJx4a65c_get_915e3 2 (some (.object "java/lang/Object")) ∈ Al := al_in (i := 201) (by decide +kernel) (by decide +kernel)
theorem aw_202 : Cond.methodLink RJx4a65c 118 yJ15_checkIndex_7cf53 ∈ Al := al_in (i := 202) (by decide +kernel) (by decide +kernel)
theorem aw_203 : Cond.static yJ15_checkIndex_7cf53 ∈ Al := al_in (i := 203) (by decide +kernel) (by decide +kernel)
theorem aw_204 : Cond.code yJ15_checkIndex_7cf53 cJ15_checkIndex_7cf53 2 (some .int) ∈ Al := al_in (i := 204) (by decide +kernel) (by decide +kernel)
theorem aw_205 : Cond.methodLink RJ15 105 yJ3_checkIndex_8e157 ∈ Al := al_in (i := 205) (by decide +kernel) (by decide +kernel)
theorem aw_206 : Cond.static yJ3_checkIndex_8e157 ∈ Al := al_in (i := 206) (by decide +kernel) (by decide +kernel)
theorem aw_207 : Cond.code yJ3_checkIndex_8e157 cJ3_checkIndex_8e157 3 (some .int) ∈ Al := al_in (i := 207) (by decide +kernel) (by decide +kernel)
theorem aw_208 : Cond.methodLink RJx4a65c 123 yJx4a65c_elementData_915e3 ∈ Al := al_in (i := 208) (by decide +kernel) (by decide +kernel)
theorem aw_209 : Cond.instanceMethod yJx4a65c_elementData_915e3 ∈ Al := al_in (i := 209) (by decide +kernel) (by decide +kernel)
theorem aw_210 : Cond.selects RJx4a65c yJx4a65c_elementData_915e3 yJx4a65c_elementData_915e3 ∈ Al := al_in (i := 210) (by decide +kernel) (by decide +kernel)
theorem aw_211 : Cond.code yJx4a65c_elementData_915e3 cJx4a65c_elementData_915e3 2 (some (.object "java/lang/Object")) ∈ Al := al_in (i := 211) (by decide +kernel) (by decide +kernel)
theorem aw_212 : Cond.classLink RX8 201 "Exportcover$Shipment" ∈ Al := al_in (i := 212) (by decide +kernel) (by decide +kernel)
theorem aw_213 : Cond.methodLink RX8 314 yX7_isToPay ∈ Al := al_in (i := 213) (by decide +kernel) (by decide +kernel)
theorem aw_214 : Cond.instanceMethod yX7_isToPay ∈ Al := al_in (i := 214) (by decide +kernel) (by decide +kernel)
theorem aw_215 : Cond.selects RX7 yX7_isToPay yX7_isToPay ∈ Al := al_in (i := 215) (by decide +kernel) (by decide +kernel)
theorem aw_216 : Cond.code yX7_isToPay cX7_isToPay 1 (some .boolean) ∈ Al := al_in (i := 216) (by decide +kernel) (by decide +kernel)
theorem aw_217 : Cond.methodLink RX8 235 yX0_canPay ∈ Al := al_in (i := 217) (by decide +kernel) (by decide +kernel)
theorem aw_218 : Cond.instanceMethod yX0_canPay ∈ Al := al_in (i := 218) (by decide +kernel) (by decide +kernel)
theorem aw_219 : Cond.selects RX0 yX0_canPay yX0_canPay ∈ Al := al_in (i := 219) (by decide +kernel) (by decide +kernel)
theorem aw_220 : Cond.code yX0_canPay cX0_canPay 1 (some .boolean) ∈ Al := al_in (i := 220) (by decide +kernel) (by decide +kernel)
theorem aw_221 : Cond.methodLink RX0 32 yX0_isBroke ∈ Al := al_in (i := 221) (by decide +kernel) (by decide +kernel)
theorem aw_222 : Cond.instanceMethod yX0_isBroke ∈ Al := al_in (i := 222) (by decide +kernel) (by decide +kernel)
theorem aw_223 : Cond.selects RX0 yX0_isBroke yX0_isBroke ∈ Al := al_in (i := 223) (by decide +kernel) (by decide +kernel)
theorem aw_224 : Cond.code yX0_isBroke cX0_isBroke 1 (some .boolean) ∈ Al := al_in (i := 224) (by decide +kernel) (by decide +kernel)
theorem aw_225 : Cond.methodLink RX0 36 yX5_isTroubled ∈ Al := al_in (i := 225) (by decide +kernel) (by decide +kernel)
theorem aw_226 : Cond.instanceMethod yX5_isTroubled ∈ Al := al_in (i := 226) (by decide +kernel) (by decide +kernel)
theorem aw_227 : Cond.selects RX5 yX5_isTroubled yX5_isTroubled ∈ Al := al_in (i := 227) (by decide +kernel) (by decide +kernel)
theorem aw_228 : Cond.code yX5_isTroubled cX5_isTroubled 1 (some .boolean) ∈ Al := al_in (i := 228) (by decide +kernel) (by decide +kernel)
theorem aw_229 : Cond.methodLink RX5 36 yX5_trouble ∈ Al := al_in (i := 229) (by decide +kernel) (by decide +kernel)
theorem aw_230 : Cond.instanceMethod yX5_trouble ∈ Al := al_in (i := 230) (by decide +kernel) (by decide +kernel)
theorem aw_231 : Cond.selects RX5 yX5_trouble yX5_trouble ∈ Al := al_in (i := 231) (by decide +kernel) (by decide +kernel)
theorem aw_232 : Cond.code yX5_trouble cX5_trouble 1 (some .int) ∈ Al := al_in (i := 232) (by decide +kernel) (by decide +kernel)
theorem aw_233 : Cond.methodLink RX5 30 yJ9_min_7cf53 ∈ Al := al_in (i := 233) (by decide +kernel) (by decide +kernel)
theorem aw_234 : Cond.static yJ9_min_7cf53 ∈ Al := al_in (i := 234) (by decide +kernel) (by decide +kernel)
theorem aw_235 : Cond.code yJ9_min_7cf53 cJ9_min_7cf53 2 (some .int) ∈ Al := al_in (i := 235) (by decide +kernel) (by decide +kernel)
theorem aw_236 : Cond.methodLink RX8 185 yJ9_min_7cf53 ∈ Al := al_in (i := 236) (by decide +kernel) (by decide +kernel)
theorem aw_237 : Cond.methodLink RX8 245 yX8_settle ∈ Al := al_in (i := 237) (by decide +kernel) (by decide +kernel)
theorem aw_239 : Cond.instanceMethod yX8_settle ∈ Al := al_in (i := 239) (by decide +kernel) (by decide +kernel)
theorem aw_240 : Cond.code yX8_settle cX8_settle 10 none ∈ Al := al_in (i := 240) (by decide +kernel) (by decide +kernel)
theorem aw_241 : Cond.methodLink RX8 84 yX1_giveTo ∈ Al := al_in (i := 241) (by decide +kernel) (by decide +kernel)
theorem aw_242 : Cond.instanceMethod yX1_giveTo ∈ Al := al_in (i := 242) (by decide +kernel) (by decide +kernel)
theorem aw_243 : Cond.selects RX1 yX1_giveTo yX1_giveTo ∈ Al := al_in (i := 243) (by decide +kernel) (by decide +kernel)
theorem aw_244 : Cond.code yX1_giveTo cX1_giveTo 3 none ∈ Al := al_in (i := 244) (by decide +kernel) (by decide +kernel)
theorem aw_245 : Cond.methodLink RX8 521 yX2_recover ∈ Al := al_in (i := 245) (by decide +kernel) (by decide +kernel)
theorem aw_246 : Cond.instanceMethod yX2_recover ∈ Al := al_in (i := 246) (by decide +kernel) (by decide +kernel)
theorem aw_247 : Cond.selects RX2 yX2_recover yX2_recover ∈ Al := al_in (i := 247) (by decide +kernel) (by decide +kernel)
theorem aw_248 : Cond.code yX2_recover cX2_recover 4 none ∈ Al := al_in (i := 248) (by decide +kernel) (by decide +kernel)
theorem aw_249 : Cond.methodLink RX2 31 yX2_partOf ∈ Al := al_in (i := 249) (by decide +kernel) (by decide +kernel)
theorem aw_250 : Cond.instanceMethod yX2_partOf ∈ Al := al_in (i := 250) (by decide +kernel) (by decide +kernel)
theorem aw_251 : Cond.selects RX2 yX2_partOf yX2_partOf ∈ Al := al_in (i := 251) (by decide +kernel) (by decide +kernel)
theorem aw_252 : Cond.code yX2_partOf cX2_partOf 2 (some .int) ∈ Al := al_in (i := 252) (by decide +kernel) (by decide +kernel)
theorem aw_253 : Cond.methodLink RX2 35 yX2_dueOf ∈ Al := al_in (i := 253) (by decide +kernel) (by decide +kernel)
theorem aw_255 : Cond.instanceMethod yX2_dueOf ∈ Al := al_in (i := 255) (by decide +kernel) (by decide +kernel)
theorem aw_256 : Cond.instantiable RX2 7 ∈ Al := al_in (i := 256) (by decide +kernel) (by decide +kernel)
theorem aw_257 : Cond.code yX2_dueOf cX2_dueOf 2 (some .int) ∈ Al := al_in (i := 257) (by decide +kernel) (by decide +kernel)
theorem aw_258 : Cond.methodLink RX8 296 yX8_chestOfRival ∈ Al := al_in (i := 258) (by decide +kernel) (by decide +kernel)
theorem aw_260 : Cond.instanceMethod yX8_chestOfRival ∈ Al := al_in (i := 260) (by decide +kernel) (by decide +kernel)
theorem aw_261 : Cond.code yX8_chestOfRival cX8_chestOfRival 2 (some (.object "Exportcover$Chest")) ∈ Al := al_in (i := 261) (by decide +kernel) (by decide +kernel)
theorem aw_262 : Cond.methodLink RX8 329 yX8_payWhatIsPutOff ∈ Al := al_in (i := 262) (by decide +kernel) (by decide +kernel)
theorem aw_264 : Cond.instanceMethod yX8_payWhatIsPutOff ∈ Al := al_in (i := 264) (by decide +kernel) (by decide +kernel)
theorem aw_265 : Cond.code yX8_payWhatIsPutOff cX8_payWhatIsPutOff 5 none ∈ Al := al_in (i := 265) (by decide +kernel) (by decide +kernel)
theorem aw_266 : Cond.methodLink RX8 531 yX3_nextOf ∈ Al := al_in (i := 266) (by decide +kernel) (by decide +kernel)
theorem aw_267 : Cond.instanceMethod yX3_nextOf ∈ Al := al_in (i := 267) (by decide +kernel) (by decide +kernel)
theorem aw_268 : Cond.selects RX3 yX3_nextOf yX3_nextOf ∈ Al := al_in (i := 268) (by decide +kernel) (by decide +kernel)
theorem aw_269 : Cond.code yX3_nextOf cX3_nextOf 2 (some .int) ∈ Al := al_in (i := 269) (by decide +kernel) (by decide +kernel)
theorem aw_270 : Cond.methodLink RX3 22 yJ9_min_7cf53 ∈ Al := al_in (i := 270) (by decide +kernel) (by decide +kernel)
theorem aw_271 : Cond.methodLink RL 122 yX8_ofPolicy ∈ Al := al_in (i := 271) (by decide +kernel) (by decide +kernel)
theorem aw_272 : Cond.instanceMethod yX8_ofPolicy ∈ Al := al_in (i := 272) (by decide +kernel) (by decide +kernel)
theorem aw_273 : Cond.selects RX8 yX8_ofPolicy yX8_ofPolicy ∈ Al := al_in (i := 273) (by decide +kernel) (by decide +kernel)
theorem aw_274 : Cond.code yX8_ofPolicy cX8_ofPolicy 4 (some .int) ∈ Al := al_in (i := 274) (by decide +kernel) (by decide +kernel)
theorem aw_275 : Cond.methodLink RX8 177 yX8_policyAt ∈ Al := al_in (i := 275) (by decide +kernel) (by decide +kernel)
theorem aw_277 : Cond.instanceMethod yX8_policyAt ∈ Al := al_in (i := 277) (by decide +kernel) (by decide +kernel)
theorem aw_278 : Cond.code yX8_policyAt cX8_policyAt 2 (some (.object "Exportcover$Policy")) ∈ Al := al_in (i := 278) (by decide +kernel) (by decide +kernel)
theorem aw_279 : Cond.classLink RX8 440 "java/lang/IndexOutOfBoundsException" ∈ Al := al_in (i := 279) (by decide +kernel) (by decide +kernel)
theorem aw_295 : Cond.classLink RX8 167 "Exportcover$Policy" ∈ Al := al_in (i := 295) (by decide +kernel) (by decide +kernel)
theorem aw_296 : Cond.methodLink RX8 347 yX8_figureOfPolicy ∈ Al := al_in (i := 296) (by decide +kernel) (by decide +kernel)
theorem aw_298 : Cond.instanceMethod yX8_figureOfPolicy ∈ Al := al_in (i := 298) (by decide +kernel) (by decide +kernel)
theorem aw_299 : Cond.code yX8_figureOfPolicy cX8_figureOfPolicy 3 (some .int) ∈ Al := al_in (i := 299) (by decide +kernel) (by decide +kernel)
theorem aw_300 : Cond.methodLink RX8 560 yX8_countOfShipmentsUnder ∈ Al := al_in (i := 300) (by decide +kernel) (by decide +kernel)
theorem aw_302 : Cond.instanceMethod yX8_countOfShipmentsUnder ∈ Al := al_in (i := 302) (by decide +kernel) (by decide +kernel)
theorem aw_303 : Cond.code yX8_countOfShipmentsUnder cX8_countOfShipmentsUnder 4 (some .int) ∈ Al := al_in (i := 303) (by decide +kernel) (by decide +kernel)
theorem aw_304 : Cond.methodLink RX8 564 yX8_premiumsUnder ∈ Al := al_in (i := 304) (by decide +kernel) (by decide +kernel)
theorem aw_306 : Cond.instanceMethod yX8_premiumsUnder ∈ Al := al_in (i := 306) (by decide +kernel) (by decide +kernel)
theorem aw_307 : Cond.code yX8_premiumsUnder cX8_premiumsUnder 5 (some .int) ∈ Al := al_in (i := 307) (by decide +kernel) (by decide +kernel)
theorem aw_308 : Cond.methodLink RL 116 yX8_ofShipment ∈ Al := al_in (i := 308) (by decide +kernel) (by decide +kernel)
theorem aw_309 : Cond.instanceMethod yX8_ofShipment ∈ Al := al_in (i := 309) (by decide +kernel) (by decide +kernel)
theorem aw_310 : Cond.selects RX8 yX8_ofShipment yX8_ofShipment ∈ Al := al_in (i := 310) (by decide +kernel) (by decide +kernel)
theorem aw_311 : Cond.code yX8_ofShipment cX8_ofShipment 4 (some .int) ∈ Al := al_in (i := 311) (by decide +kernel) (by decide +kernel)
theorem aw_312 : Cond.methodLink RX8 249 yX8_shipmentAt ∈ Al := al_in (i := 312) (by decide +kernel) (by decide +kernel)
theorem aw_314 : Cond.instanceMethod yX8_shipmentAt ∈ Al := al_in (i := 314) (by decide +kernel) (by decide +kernel)
theorem aw_315 : Cond.code yX8_shipmentAt cX8_shipmentAt 2 (some (.object "Exportcover$Shipment")) ∈ Al := al_in (i := 315) (by decide +kernel) (by decide +kernel)
theorem aw_317 : Cond.methodLink RX8 355 yX8_figureOfShipment ∈ Al := al_in (i := 317) (by decide +kernel) (by decide +kernel)
theorem aw_319 : Cond.instanceMethod yX8_figureOfShipment ∈ Al := al_in (i := 319) (by decide +kernel) (by decide +kernel)
theorem aw_320 : Cond.code yX8_figureOfShipment cX8_figureOfShipment 5 (some .int) ∈ Al := al_in (i := 320) (by decide +kernel) (by decide +kernel)
theorem aw_321 : Cond.methodLink RX8 259 yX7_causeOn ∈ Al := al_in (i := 321) (by decide +kernel) (by decide +kernel)
theorem aw_322 : Cond.instanceMethod yX7_causeOn ∈ Al := al_in (i := 322) (by decide +kernel) (by decide +kernel)
theorem aw_323 : Cond.selects RX7 yX7_causeOn yX7_causeOn ∈ Al := al_in (i := 323) (by decide +kernel) (by decide +kernel)
theorem aw_324 : Cond.code yX7_causeOn cX7_causeOn 2 (some .int) ∈ Al := al_in (i := 324) (by decide +kernel) (by decide +kernel)
theorem aw_325 : Cond.methodLink RX7 69 yX7_causeOnceDue ∈ Al := al_in (i := 325) (by decide +kernel) (by decide +kernel)
theorem aw_326 : Cond.instanceMethod yX7_causeOnceDue ∈ Al := al_in (i := 326) (by decide +kernel) (by decide +kernel)
theorem aw_327 : Cond.selects RX7 yX7_causeOnceDue yX7_causeOnceDue ∈ Al := al_in (i := 327) (by decide +kernel) (by decide +kernel)
theorem aw_328 : Cond.code yX7_causeOnceDue cX7_causeOnceDue 4 (some .int) ∈ Al := al_in (i := 328) (by decide +kernel) (by decide +kernel)
theorem aw_329 : Cond.methodLink RX7 79 yX5_trouble ∈ Al := al_in (i := 329) (by decide +kernel) (by decide +kernel)
theorem aw_330 : Cond.methodLink RX7 84 yX0_isBroke ∈ Al := al_in (i := 330) (by decide +kernel) (by decide +kernel)
theorem aw_331 : Cond.methodLink RX8 579 yX7_marks ∈ Al := al_in (i := 331) (by decide +kernel) (by decide +kernel)
theorem aw_332 : Cond.instanceMethod yX7_marks ∈ Al := al_in (i := 332) (by decide +kernel) (by decide +kernel)
theorem aw_333 : Cond.selects RX7 yX7_marks yX7_marks ∈ Al := al_in (i := 333) (by decide +kernel) (by decide +kernel)
theorem aw_334 : Cond.code yX7_marks cX7_marks 2 (some .int) ∈ Al := al_in (i := 334) (by decide +kernel) (by decide +kernel)
theorem aw_335 : Cond.methodLink RL 47 yX8_books ∈ Al := al_in (i := 335) (by decide +kernel) (by decide +kernel)
theorem aw_336 : Cond.instanceMethod yX8_books ∈ Al := al_in (i := 336) (by decide +kernel) (by decide +kernel)
theorem aw_337 : Cond.selects RX8 yX8_books yX8_books ∈ Al := al_in (i := 337) (by decide +kernel) (by decide +kernel)
theorem aw_338 : Cond.code yX8_books cX8_books 2 (some .int) ∈ Al := al_in (i := 338) (by decide +kernel) (by decide +kernel)
theorem aw_339 : Cond.methodLink RX8 363 yX8_figureOfBooks ∈ Al := al_in (i := 339) (by decide +kernel) (by decide +kernel)
theorem aw_341 : Cond.instanceMethod yX8_figureOfBooks ∈ Al := al_in (i := 341) (by decide +kernel) (by decide +kernel)
theorem aw_342 : Cond.code yX8_figureOfBooks cX8_figureOfBooks 2 (some .int) ∈ Al := al_in (i := 342) (by decide +kernel) (by decide +kernel)
theorem aw_343 : Cond.methodLink RX8 400 yX8_balance ∈ Al := al_in (i := 343) (by decide +kernel) (by decide +kernel)
theorem aw_345 : Cond.instanceMethod yX8_balance ∈ Al := al_in (i := 345) (by decide +kernel) (by decide +kernel)
theorem aw_346 : Cond.code yX8_balance cX8_balance 1 (some .int) ∈ Al := al_in (i := 346) (by decide +kernel) (by decide +kernel)
theorem aw_347 : Cond.methodLink RX8 600 yX8_countOfMarked ∈ Al := al_in (i := 347) (by decide +kernel) (by decide +kernel)
theorem aw_349 : Cond.instanceMethod yX8_countOfMarked ∈ Al := al_in (i := 349) (by decide +kernel) (by decide +kernel)
theorem aw_350 : Cond.code yX8_countOfMarked cX8_countOfMarked 4 (some .int) ∈ Al := al_in (i := 350) (by decide +kernel) (by decide +kernel)
theorem aw_351 : Cond.methodLink RX8 603 yX8_countOfSuspect ∈ Al := al_in (i := 351) (by decide +kernel) (by decide +kernel)
theorem aw_353 : Cond.instanceMethod yX8_countOfSuspect ∈ Al := al_in (i := 353) (by decide +kernel) (by decide +kernel)
theorem aw_354 : Cond.code yX8_countOfSuspect cX8_countOfSuspect 3 (some .int) ∈ Al := al_in (i := 354) (by decide +kernel) (by decide +kernel)
theorem aw_355 : Cond.methodLink RX8 542 yX8_isSuspect ∈ Al := al_in (i := 355) (by decide +kernel) (by decide +kernel)
theorem aw_357 : Cond.instanceMethod yX8_isSuspect ∈ Al := al_in (i := 357) (by decide +kernel) (by decide +kernel)
theorem aw_358 : Cond.code yX8_isSuspect cX8_isSuspect 3 (some .boolean) ∈ Al := al_in (i := 358) (by decide +kernel) (by decide +kernel)
theorem aw_359 : Cond.methodLink RX8 539 yX8_reachedFrom ∈ Al := al_in (i := 359) (by decide +kernel) (by decide +kernel)
theorem aw_361 : Cond.instanceMethod yX8_reachedFrom ∈ Al := al_in (i := 361) (by decide +kernel) (by decide +kernel)
theorem aw_362 : Cond.code yX8_reachedFrom cX8_reachedFrom 7 (some .int) ∈ Al := al_in (i := 362) (by decide +kernel) (by decide +kernel)
theorem aw_363 : Cond.classLink RX8 139 "Exportcover$Exporter" ∈ Al := al_in (i := 363) (by decide +kernel) (by decide +kernel)
theorem aw_364 : Cond.methodLink RX8 536 yX4_suppliers ∈ Al := al_in (i := 364) (by decide +kernel) (by decide +kernel)
theorem aw_365 : Cond.instanceMethod yX4_suppliers ∈ Al := al_in (i := 365) (by decide +kernel) (by decide +kernel)
theorem aw_366 : Cond.selects RX4 yX4_suppliers yX4_suppliers ∈ Al := al_in (i := 366) (by decide +kernel) (by decide +kernel)
theorem aw_367 : Cond.code yX4_suppliers cX4_suppliers 1 (some .int) ∈ Al := al_in (i := 367) (by decide +kernel) (by decide +kernel)
theorem aw_368 : Cond.methodLink RL 133 yX8_isSound ∈ Al := al_in (i := 368) (by decide +kernel) (by decide +kernel)
theorem aw_369 : Cond.instanceMethod yX8_isSound ∈ Al := al_in (i := 369) (by decide +kernel) (by decide +kernel)
theorem aw_370 : Cond.selects RX8 yX8_isSound yX8_isSound ∈ Al := al_in (i := 370) (by decide +kernel) (by decide +kernel)
theorem aw_371 : Cond.code yX8_isSound cX8_isSound 2 (some .boolean) ∈ Al := al_in (i := 371) (by decide +kernel) (by decide +kernel)
theorem aw_372 : Cond.methodLink RX8 397 yX8_areChestsSound ∈ Al := al_in (i := 372) (by decide +kernel) (by decide +kernel)
theorem aw_374 : Cond.instanceMethod yX8_areChestsSound ∈ Al := al_in (i := 374) (by decide +kernel) (by decide +kernel)
theorem aw_375 : Cond.code yX8_areChestsSound cX8_areChestsSound 4 (some .boolean) ∈ Al := al_in (i := 375) (by decide +kernel) (by decide +kernel)
theorem aw_376 : Cond.classLink RX8 80 "Exportcover$Buyer" ∈ Al := al_in (i := 376) (by decide +kernel) (by decide +kernel)
theorem aw_377 : Cond.methodLink RX8 403 yX7_isSoundAlone ∈ Al := al_in (i := 377) (by decide +kernel) (by decide +kernel)
theorem aw_378 : Cond.instanceMethod yX7_isSoundAlone ∈ Al := al_in (i := 378) (by decide +kernel) (by decide +kernel)
theorem aw_379 : Cond.selects RX7 yX7_isSoundAlone yX7_isSoundAlone ∈ Al := al_in (i := 379) (by decide +kernel) (by decide +kernel)
theorem aw_380 : Cond.code yX7_isSoundAlone cX7_isSoundAlone 1 (some .boolean) ∈ Al := al_in (i := 380) (by decide +kernel) (by decide +kernel)
theorem aw_381 : Cond.methodLink RX7 104 yX7_isDamageSound ∈ Al := al_in (i := 381) (by decide +kernel) (by decide +kernel)
theorem aw_383 : Cond.instanceMethod yX7_isDamageSound ∈ Al := al_in (i := 383) (by decide +kernel) (by decide +kernel)
theorem aw_384 : Cond.instantiable RX7 16 ∈ Al := al_in (i := 384) (by decide +kernel) (by decide +kernel)
theorem aw_385 : Cond.code yX7_isDamageSound cX7_isDamageSound 2 (some .boolean) ∈ Al := al_in (i := 385) (by decide +kernel) (by decide +kernel)
theorem aw_386 : Cond.methodLink RX7 110 yX2_isSplitSound ∈ Al := al_in (i := 386) (by decide +kernel) (by decide +kernel)
theorem aw_387 : Cond.instanceMethod yX2_isSplitSound ∈ Al := al_in (i := 387) (by decide +kernel) (by decide +kernel)
theorem aw_388 : Cond.selects RX2 yX2_isSplitSound yX2_isSplitSound ∈ Al := al_in (i := 388) (by decide +kernel) (by decide +kernel)
theorem aw_389 : Cond.code yX2_isSplitSound cX2_isSplitSound 2 (some .boolean) ∈ Al := al_in (i := 389) (by decide +kernel) (by decide +kernel)
theorem aw_390 : Cond.methodLink RX2 38 yX2_hadBy ∈ Al := al_in (i := 390) (by decide +kernel) (by decide +kernel)
theorem aw_391 : Cond.instanceMethod yX2_hadBy ∈ Al := al_in (i := 391) (by decide +kernel) (by decide +kernel)
theorem aw_392 : Cond.selects RX2 yX2_hadBy yX2_hadBy ∈ Al := al_in (i := 392) (by decide +kernel) (by decide +kernel)
theorem aw_393 : Cond.code yX2_hadBy cX2_hadBy 2 (some .int) ∈ Al := al_in (i := 393) (by decide +kernel) (by decide +kernel)
theorem aw_394 : Cond.methodLink RL 129 yX8_digest ∈ Al := al_in (i := 394) (by decide +kernel) (by decide +kernel)
theorem aw_395 : Cond.instanceMethod yX8_digest ∈ Al := al_in (i := 395) (by decide +kernel) (by decide +kernel)
theorem aw_396 : Cond.selects RX8 yX8_digest yX8_digest ∈ Al := al_in (i := 396) (by decide +kernel) (by decide +kernel)
theorem aw_397 : Cond.code yX8_digest cX8_digest 4 (some .long) ∈ Al := al_in (i := 397) (by decide +kernel) (by decide +kernel)
theorem aw_398 : Cond.constantLong RX8 406 58265 ∈ Al := al_in (i := 398) (by decide +kernel) (by decide +kernel)
theorem aw_399 : Cond.constantLong RX8 408 31 ∈ Al := al_in (i := 399) (by decide +kernel) (by decide +kernel)
theorem aw_400 : Cond.methodLink RX8 410 yX8_digestOfLands ∈ Al := al_in (i := 400) (by decide +kernel) (by decide +kernel)
theorem aw_402 : Cond.instanceMethod yX8_digestOfLands ∈ Al := al_in (i := 402) (by decide +kernel) (by decide +kernel)
theorem aw_403 : Cond.code yX8_digestOfLands cX8_digestOfLands 8 (some .long) ∈ Al := al_in (i := 403) (by decide +kernel) (by decide +kernel)
theorem aw_404 : Cond.classLink RX8 94 "Exportcover$Land" ∈ Al := al_in (i := 404) (by decide +kernel) (by decide +kernel)
theorem aw_405 : Cond.methodLink RX8 335 yX8_figureOfLand ∈ Al := al_in (i := 405) (by decide +kernel) (by decide +kernel)
theorem aw_407 : Cond.instanceMethod yX8_figureOfLand ∈ Al := al_in (i := 407) (by decide +kernel) (by decide +kernel)
theorem aw_408 : Cond.code yX8_figureOfLand cX8_figureOfLand 3 (some .int) ∈ Al := al_in (i := 408) (by decide +kernel) (by decide +kernel)
theorem aw_409 : Cond.methodLink RX8 546 yX5_trouble ∈ Al := al_in (i := 409) (by decide +kernel) (by decide +kernel)
theorem aw_410 : Cond.methodLink RX8 385 yX8_riskIn ∈ Al := al_in (i := 410) (by decide +kernel) (by decide +kernel)
theorem aw_412 : Cond.instanceMethod yX8_riskIn ∈ Al := al_in (i := 412) (by decide +kernel) (by decide +kernel)
theorem aw_413 : Cond.code yX8_riskIn cX8_riskIn 5 (some .int) ∈ Al := al_in (i := 413) (by decide +kernel) (by decide +kernel)
theorem aw_414 : Cond.methodLink RX8 476 yX7_atRisk ∈ Al := al_in (i := 414) (by decide +kernel) (by decide +kernel)
theorem aw_415 : Cond.instanceMethod yX7_atRisk ∈ Al := al_in (i := 415) (by decide +kernel) (by decide +kernel)
theorem aw_416 : Cond.selects RX7 yX7_atRisk yX7_atRisk ∈ Al := al_in (i := 416) (by decide +kernel) (by decide +kernel)
theorem aw_417 : Cond.code yX7_atRisk cX7_atRisk 1 (some .int) ∈ Al := al_in (i := 417) (by decide +kernel) (by decide +kernel)
theorem aw_418 : Cond.methodLink RX7 59 yX7_isOpen ∈ Al := al_in (i := 418) (by decide +kernel) (by decide +kernel)
theorem aw_419 : Cond.instanceMethod yX7_isOpen ∈ Al := al_in (i := 419) (by decide +kernel) (by decide +kernel)
theorem aw_420 : Cond.selects RX7 yX7_isOpen yX7_isOpen ∈ Al := al_in (i := 420) (by decide +kernel) (by decide +kernel)
theorem aw_421 : Cond.code yX7_isOpen cX7_isOpen 1 (some .boolean) ∈ Al := al_in (i := 421) (by decide +kernel) (by decide +kernel)
theorem aw_422 : Cond.methodLink RX7 63 yJ9_min_7cf53 ∈ Al := al_in (i := 422) (by decide +kernel) (by decide +kernel)
theorem aw_423 : Cond.methodLink RX8 154 yX5_noticeOn ∈ Al := al_in (i := 423) (by decide +kernel) (by decide +kernel)
theorem aw_424 : Cond.instanceMethod yX5_noticeOn ∈ Al := al_in (i := 424) (by decide +kernel) (by decide +kernel)
theorem aw_425 : Cond.selects RX5 yX5_noticeOn yX5_noticeOn ∈ Al := al_in (i := 425) (by decide +kernel) (by decide +kernel)
theorem aw_426 : Cond.code yX5_noticeOn cX5_noticeOn 3 (some .int) ∈ Al := al_in (i := 426) (by decide +kernel) (by decide +kernel)
theorem aw_427 : Cond.methodLink RX8 490 yX5_longestTermOn ∈ Al := al_in (i := 427) (by decide +kernel) (by decide +kernel)
theorem aw_428 : Cond.instanceMethod yX5_longestTermOn ∈ Al := al_in (i := 428) (by decide +kernel) (by decide +kernel)
theorem aw_429 : Cond.selects RX5 yX5_longestTermOn yX5_longestTermOn ∈ Al := al_in (i := 429) (by decide +kernel) (by decide +kernel)
theorem aw_430 : Cond.code yX5_longestTermOn cX5_longestTermOn 2 (some .int) ∈ Al := al_in (i := 430) (by decide +kernel) (by decide +kernel)
theorem aw_431 : Cond.methodLink RX5 43 yX5_noticeOn ∈ Al := al_in (i := 431) (by decide +kernel) (by decide +kernel)
theorem aw_432 : Cond.methodLink RX8 414 yX8_digestOfBuyers ∈ Al := al_in (i := 432) (by decide +kernel) (by decide +kernel)
theorem aw_434 : Cond.instanceMethod yX8_digestOfBuyers ∈ Al := al_in (i := 434) (by decide +kernel) (by decide +kernel)
theorem aw_435 : Cond.code yX8_digestOfBuyers cX8_digestOfBuyers 8 (some .long) ∈ Al := al_in (i := 435) (by decide +kernel) (by decide +kernel)
theorem aw_436 : Cond.methodLink RX8 339 yX8_figureOfBuyer ∈ Al := al_in (i := 436) (by decide +kernel) (by decide +kernel)
theorem aw_438 : Cond.instanceMethod yX8_figureOfBuyer ∈ Al := al_in (i := 438) (by decide +kernel) (by decide +kernel)
theorem aw_439 : Cond.code yX8_figureOfBuyer cX8_figureOfBuyer 3 (some .int) ∈ Al := al_in (i := 439) (by decide +kernel) (by decide +kernel)
theorem aw_440 : Cond.methodLink RX8 549 yX8_debtOf ∈ Al := al_in (i := 440) (by decide +kernel) (by decide +kernel)
theorem aw_442 : Cond.instanceMethod yX8_debtOf ∈ Al := al_in (i := 442) (by decide +kernel) (by decide +kernel)
theorem aw_443 : Cond.code yX8_debtOf cX8_debtOf 5 (some .int) ∈ Al := al_in (i := 443) (by decide +kernel) (by decide +kernel)
theorem aw_444 : Cond.methodLink RX8 417 yX8_digestOfExporters ∈ Al := al_in (i := 444) (by decide +kernel) (by decide +kernel)
theorem aw_446 : Cond.instanceMethod yX8_digestOfExporters ∈ Al := al_in (i := 446) (by decide +kernel) (by decide +kernel)
theorem aw_447 : Cond.code yX8_digestOfExporters cX8_digestOfExporters 8 (some .long) ∈ Al := al_in (i := 447) (by decide +kernel) (by decide +kernel)
theorem aw_448 : Cond.methodLink RX8 343 yX8_figureOfExporter ∈ Al := al_in (i := 448) (by decide +kernel) (by decide +kernel)
theorem aw_450 : Cond.instanceMethod yX8_figureOfExporter ∈ Al := al_in (i := 450) (by decide +kernel) (by decide +kernel)
theorem aw_451 : Cond.code yX8_figureOfExporter cX8_figureOfExporter 3 (some .int) ∈ Al := al_in (i := 451) (by decide +kernel) (by decide +kernel)
theorem aw_452 : Cond.methodLink RX8 553 yX8_countOfRunningPolicies ∈ Al := al_in (i := 452) (by decide +kernel) (by decide +kernel)
theorem aw_454 : Cond.instanceMethod yX8_countOfRunningPolicies ∈ Al := al_in (i := 454) (by decide +kernel) (by decide +kernel)
theorem aw_455 : Cond.code yX8_countOfRunningPolicies cX8_countOfRunningPolicies 5 (some .int) ∈ Al := al_in (i := 455) (by decide +kernel) (by decide +kernel)
theorem aw_456 : Cond.methodLink RX8 557 yX8_countOfShipmentsBy ∈ Al := al_in (i := 456) (by decide +kernel) (by decide +kernel)
theorem aw_458 : Cond.instanceMethod yX8_countOfShipmentsBy ∈ Al := al_in (i := 458) (by decide +kernel) (by decide +kernel)
theorem aw_459 : Cond.code yX8_countOfShipmentsBy cX8_countOfShipmentsBy 4 (some .int) ∈ Al := al_in (i := 459) (by decide +kernel) (by decide +kernel)
theorem aw_460 : Cond.methodLink RX8 377 yX8_isInCircle ∈ Al := al_in (i := 460) (by decide +kernel) (by decide +kernel)
theorem aw_462 : Cond.instanceMethod yX8_isInCircle ∈ Al := al_in (i := 462) (by decide +kernel) (by decide +kernel)
theorem aw_463 : Cond.code yX8_isInCircle cX8_isInCircle 2 (some .boolean) ∈ Al := al_in (i := 463) (by decide +kernel) (by decide +kernel)
theorem aw_464 : Cond.methodLink RX8 420 yX8_digestOfPolicies ∈ Al := al_in (i := 464) (by decide +kernel) (by decide +kernel)
theorem aw_466 : Cond.instanceMethod yX8_digestOfPolicies ∈ Al := al_in (i := 466) (by decide +kernel) (by decide +kernel)
theorem aw_467 : Cond.code yX8_digestOfPolicies cX8_digestOfPolicies 9 (some .long) ∈ Al := al_in (i := 467) (by decide +kernel) (by decide +kernel)
theorem aw_468 : Cond.methodLink RX8 195 yX6_grantedFor ∈ Al := al_in (i := 468) (by decide +kernel) (by decide +kernel)
theorem aw_469 : Cond.instanceMethod yX6_grantedFor ∈ Al := al_in (i := 469) (by decide +kernel) (by decide +kernel)
theorem aw_470 : Cond.selects RX6 yX6_grantedFor yX6_grantedFor ∈ Al := al_in (i := 470) (by decide +kernel) (by decide +kernel)
theorem aw_471 : Cond.code yX6_grantedFor cX6_grantedFor 2 (some .int) ∈ Al := al_in (i := 471) (by decide +kernel) (by decide +kernel)
theorem aw_472 : Cond.methodLink RX8 351 yX8_riskUnder ∈ Al := al_in (i := 472) (by decide +kernel) (by decide +kernel)
theorem aw_474 : Cond.instanceMethod yX8_riskUnder ∈ Al := al_in (i := 474) (by decide +kernel) (by decide +kernel)
theorem aw_475 : Cond.code yX8_riskUnder cX8_riskUnder 6 (some .int) ∈ Al := al_in (i := 475) (by decide +kernel) (by decide +kernel)
theorem aw_476 : Cond.methodLink RX8 423 yX8_digestOfShipments ∈ Al := al_in (i := 476) (by decide +kernel) (by decide +kernel)
theorem aw_478 : Cond.instanceMethod yX8_digestOfShipments ∈ Al := al_in (i := 478) (by decide +kernel) (by decide +kernel)
theorem aw_479 : Cond.code yX8_digestOfShipments cX8_digestOfShipments 9 (some .long) ∈ Al := al_in (i := 479) (by decide +kernel) (by decide +kernel)
theorem aw_480 : Cond.classLink RX8 366 "java/lang/StringBuilder" ∈ Al := al_in (i := 480) (by decide +kernel) (by decide +kernel)
theorem aw_481 : Cond.instantiable RJ4 4 ∈ Al := al_in (i := 481) (by decide +kernel) (by decide +kernel)
theorem aw_482 : Cond.methodLink RX8 368 yJ4_init_da8c8 ∈ Al := al_in (i := 482) (by decide +kernel) (by decide +kernel)
theorem aw_483 : Cond.instanceMethod yJ4_init_da8c8 ∈ Al := al_in (i := 483) (by decide +kernel) (by decide +kernel)
theorem aw_484 : Cond.code yJ4_init_da8c8 cJ4_init_da8c8 1 none ∈ Al := al_in (i := 484) (by decide +kernel) (by decide +kernel)
theorem aw_512 : Cond.methodLink RX8 359 yX8_figureOfPart ∈ Al := al_in (i := 512) (by decide +kernel) (by decide +kernel)
theorem aw_513 : Cond.static yX8_figureOfPart ∈ Al := al_in (i := 513) (by decide +kernel) (by decide +kernel)
theorem aw_514 : Cond.code yX8_figureOfPart cX8_figureOfPart 4 (some .int) ∈ Al := al_in (i := 514) (by decide +kernel) (by decide +kernel)
theorem aw_515 : Cond.methodLink RX8 594 yX2_hadBy ∈ Al := al_in (i := 515) (by decide +kernel) (by decide +kernel)
theorem aw_516 : Cond.methodLink RX8 597 yX2_partOf ∈ Al := al_in (i := 516) (by decide +kernel) (by decide +kernel)
theorem aw_517 : Cond.methodLink RX8 271 yX7_claimableFrom ∈ Al := al_in (i := 517) (by decide +kernel) (by decide +kernel)
theorem aw_518 : Cond.instanceMethod yX7_claimableFrom ∈ Al := al_in (i := 518) (by decide +kernel) (by decide +kernel)
theorem aw_519 : Cond.selects RX7 yX7_claimableFrom yX7_claimableFrom ∈ Al := al_in (i := 519) (by decide +kernel) (by decide +kernel)
theorem aw_520 : Cond.code yX7_claimableFrom cX7_claimableFrom 1 (some .int) ∈ Al := al_in (i := 520) (by decide +kernel) (by decide +kernel)
theorem aw_521 : Cond.methodLink RX7 93 yX7_waiting ∈ Al := al_in (i := 521) (by decide +kernel) (by decide +kernel)
theorem aw_522 : Cond.instanceMethod yX7_waiting ∈ Al := al_in (i := 522) (by decide +kernel) (by decide +kernel)
theorem aw_523 : Cond.selects RX7 yX7_waiting yX7_waiting ∈ Al := al_in (i := 523) (by decide +kernel) (by decide +kernel)
theorem aw_524 : Cond.code yX7_waiting cX7_waiting 1 (some .int) ∈ Al := al_in (i := 524) (by decide +kernel) (by decide +kernel)
theorem aw_525 : Cond.methodLink RX8 632 yJ4_setLength_d00df ∈ Al := al_in (i := 525) (by decide +kernel) (by decide +kernel)
theorem aw_526 : Cond.instanceMethod yJ4_setLength_d00df ∈ Al := al_in (i := 526) (by decide +kernel) (by decide +kernel)
theorem aw_527 : Cond.selects RJ4 yJ4_setLength_d00df yJ4_setLength_d00df ∈ Al := al_in (i := 527) (by decide +kernel) (by decide +kernel)
theorem aw_528 : Cond.code yJ4_setLength_d00df cJ4_setLength_d00df 2 none ∈ Al := al_in (i := 528) (by decide +kernel) (by decide +kernel)
theorem aw_541 : Cond.instanceMethod yJ4_append_15ec4 ∈ Al := al_in (i := 541) (by decide +kernel) (by decide +kernel)
theorem aw_542 : Cond.selects RJ4 yJ4_append_15ec4 yJ4_append_15ec4 ∈ Al := al_in (i := 542) (by decide +kernel) (by decide +kernel)
theorem aw_543 : Cond.code yJ4_append_15ec4 cJ4_append_15ec4 2 (some (.object "java/lang/StringBuilder")) ∈ Al := al_in (i := 543) (by decide +kernel) (by decide +kernel)
theorem aw_560 : Cond.static yJ8_newLength_cabcc ∈ Al := al_in (i := 560) (by decide +kernel) (by decide +kernel)
theorem aw_561 : Cond.code yJ8_newLength_cabcc cJ8_newLength_cabcc 4 (some .int) ∈ Al := al_in (i := 561) (by decide +kernel) (by decide +kernel)
theorem aw_562 : Cond.methodLink RJ8 194 yJ9_max_7cf53 ∈ Al := al_in (i := 562) (by decide +kernel) (by decide +kernel)
theorem aw_563 : Cond.static yJ9_max_7cf53 ∈ Al := al_in (i := 563) (by decide +kernel) (by decide +kernel)
theorem aw_564 : Cond.code yJ9_max_7cf53 cJ9_max_7cf53 2 (some .int) ∈ Al := al_in (i := 564) (by decide +kernel) (by decide +kernel)
theorem aw_565 : Cond.constant RJ8 200 2147483639 ∈ Al := al_in (i := 565) (by decide +kernel) (by decide +kernel)
theorem aw_566 : Cond.methodLink RJ8 201 yJ8_hugeLength_7cf53 ∈ Al := al_in (i := 566) (by decide +kernel) (by decide +kernel)
theorem aw_567 : Cond.static yJ8_hugeLength_7cf53 ∈ Al := al_in (i := 567) (by decide +kernel) (by decide +kernel)
theorem aw_568 : Cond.code yJ8_hugeLength_7cf53 cJ8_hugeLength_7cf53 3 (some .int) ∈ Al := al_in (i := 568) (by decide +kernel) (by decide +kernel)
theorem aw_659 : Cond.instanceMethod yJ4_append_bf812 ∈ Al := al_in (i := 659) (by decide +kernel) (by decide +kernel)
theorem aw_660 : Cond.selects RJ4 yJ4_append_bf812 yJ4_append_bf812 ∈ Al := al_in (i := 660) (by decide +kernel) (by decide +kernel)
theorem aw_661 : Cond.code yJ4_append_bf812 cJ4_append_bf812 2 (some (.object "java/lang/StringBuilder")) ∈ Al := al_in (i := 661) (by decide +kernel) (by decide +kernel)
theorem aw_705 : Cond.instanceMethod yJ4_length_8abf5 ∈ Al := al_in (i := 705) (by decide +kernel) (by decide +kernel)
theorem aw_706 : Cond.code yJ4_length_8abf5 cJ4_length_8abf5 1 (some .int) ∈ Al := al_in (i := 706) (by decide +kernel) (by decide +kernel)
theorem aw_787 : Cond.methodLink RX8 369 yX8_writeSlip ∈ Al := al_in (i := 787) (by decide +kernel) (by decide +kernel)
theorem aw_788 : Cond.static yX8_writeSlip ∈ Al := al_in (i := 788) (by decide +kernel) (by decide +kernel)
theorem aw_789 : Cond.code yX8_writeSlip cX8_writeSlip 4 none ∈ Al := al_in (i := 789) (by decide +kernel) (by decide +kernel)
theorem aw_790 : Cond.methodLink RX8 606 yJ4_append_bf812 ∈ Al := al_in (i := 790) (by decide +kernel) (by decide +kernel)
theorem aw_792 : Cond.methodLink RX8 612 yJ4_append_15ec4 ∈ Al := al_in (i := 792) (by decide +kernel) (by decide +kernel)
theorem aw_793 : Cond.methodLink RX8 615 yJ4_append_cf468 ∈ Al := al_in (i := 793) (by decide +kernel) (by decide +kernel)
theorem aw_794 : Cond.instanceMethod yJ4_append_cf468 ∈ Al := al_in (i := 794) (by decide +kernel) (by decide +kernel)
theorem aw_795 : Cond.selects RJ4 yJ4_append_cf468 yJ4_append_cf468 ∈ Al := al_in (i := 795) (by decide +kernel) (by decide +kernel)
theorem aw_796 : Cond.code yJ4_append_cf468 cJ4_append_cf468 2 (some (.object "java/lang/StringBuilder")) ∈ Al := al_in (i := 796) (by decide +kernel) (by decide +kernel)
theorem aw_814 : Cond.methodLink RX8 620 yX8_writeIfMarked ∈ Al := al_in (i := 814) (by decide +kernel) (by decide +kernel)
theorem aw_815 : Cond.static yX8_writeIfMarked ∈ Al := al_in (i := 815) (by decide +kernel) (by decide +kernel)
theorem aw_816 : Cond.code yX8_writeIfMarked cX8_writeIfMarked 4 none ∈ Al := al_in (i := 816) (by decide +kernel) (by decide +kernel)
theorem aw_821 : Cond.methodLink RX8 635 yJ4_length_8abf5 ∈ Al := al_in (i := 821) (by decide +kernel) (by decide +kernel)
theorem aw_822 : Cond.methodLink RX8 426 yX8_circles ∈ Al := al_in (i := 822) (by decide +kernel) (by decide +kernel)
theorem aw_823 : Cond.instanceMethod yX8_circles ∈ Al := al_in (i := 823) (by decide +kernel) (by decide +kernel)
theorem aw_824 : Cond.selects RX8 yX8_circles yX8_circles ∈ Al := al_in (i := 824) (by decide +kernel) (by decide +kernel)
theorem aw_825 : Cond.code yX8_circles cX8_circles 3 (some .int) ∈ Al := al_in (i := 825) (by decide +kernel) (by decide +kernel)
theorem aw_826 : Cond.constantDouble RX8 429 4652218415073722368 ∈ Al := al_in (i := 826) (by decide +kernel) (by decide +kernel)
theorem aw_827 : Cond.methodLink RX8 431 yX8_expected ∈ Al := al_in (i := 827) (by decide +kernel) (by decide +kernel)
theorem aw_828 : Cond.instanceMethod yX8_expected ∈ Al := al_in (i := 828) (by decide +kernel) (by decide +kernel)
theorem aw_829 : Cond.selects RX8 yX8_expected yX8_expected ∈ Al := al_in (i := 829) (by decide +kernel) (by decide +kernel)
theorem aw_830 : Cond.code yX8_expected cX8_expected 5 (some .double) ∈ Al := al_in (i := 830) (by decide +kernel) (by decide +kernel)
theorem aw_831 : Cond.methodLink RX8 381 yX5_chanceToFail ∈ Al := al_in (i := 831) (by decide +kernel) (by decide +kernel)
theorem aw_832 : Cond.instanceMethod yX5_chanceToFail ∈ Al := al_in (i := 832) (by decide +kernel) (by decide +kernel)
theorem aw_833 : Cond.selects RX5 yX5_chanceToFail yX5_chanceToFail ∈ Al := al_in (i := 833) (by decide +kernel) (by decide +kernel)
theorem aw_834 : Cond.code yX5_chanceToFail cX5_chanceToFail 1 (some .double) ∈ Al := al_in (i := 834) (by decide +kernel) (by decide +kernel)
theorem aw_835 : Cond.constantDouble RX5 47 4634204016564240384 ∈ Al := al_in (i := 835) (by decide +kernel) (by decide +kernel)
theorem aw_836 : Cond.methodLink RX8 434 yX8_probable ∈ Al := al_in (i := 836) (by decide +kernel) (by decide +kernel)
theorem aw_837 : Cond.instanceMethod yX8_probable ∈ Al := al_in (i := 837) (by decide +kernel) (by decide +kernel)
theorem aw_838 : Cond.selects RX8 yX8_probable yX8_probable ∈ Al := al_in (i := 838) (by decide +kernel) (by decide +kernel)
theorem aw_839 : Cond.code yX8_probable cX8_probable 6 (some .double) ∈ Al := al_in (i := 839) (by decide +kernel) (by decide +kernel)
theorem aw_840 : Cond.methodLink RX8 389 yX8_sumOfSet ∈ Al := al_in (i := 840) (by decide +kernel) (by decide +kernel)
theorem aw_841 : Cond.static yX8_sumOfSet ∈ Al := al_in (i := 841) (by decide +kernel) (by decide +kernel)
theorem aw_842 : Cond.code yX8_sumOfSet cX8_sumOfSet 4 (some .int) ∈ Al := al_in (i := 842) (by decide +kernel) (by decide +kernel)
theorem aw_843 : Cond.methodLink RX8 393 yX8_chanceOfSet ∈ Al := al_in (i := 843) (by decide +kernel) (by decide +kernel)
theorem aw_845 : Cond.instanceMethod yX8_chanceOfSet ∈ Al := al_in (i := 845) (by decide +kernel) (by decide +kernel)
theorem aw_846 : Cond.code yX8_chanceOfSet cX8_chanceOfSet 7 (some .double) ∈ Al := al_in (i := 846) (by decide +kernel) (by decide +kernel)
theorem aw_847 : Cond.methodLink RX8 437 yX8_isSound ∈ Al := al_in (i := 847) (by decide +kernel) (by decide +kernel)
theorem aw_848 : Cond.arrayClass .int ∈ Al := al_in (i := 848) (by decide +kernel) (by decide +kernel)
theorem aw_849 : Cond.methodLink RL 18 yL_below ∈ Al := al_in (i := 849) (by decide +kernel) (by decide +kernel)
theorem aw_850 : Cond.static yL_below ∈ Al := al_in (i := 850) (by decide +kernel) (by decide +kernel)
theorem aw_851 : Cond.code yL_below cL_below 2 (some .int) ∈ Al := al_in (i := 851) (by decide +kernel) (by decide +kernel)
theorem aw_852 : Cond.constant RL 7 2147483647 ∈ Al := al_in (i := 852) (by decide +kernel) (by decide +kernel)
theorem aw_853 : Cond.methodLink RL 12 yL_cell ∈ Al := al_in (i := 853) (by decide +kernel) (by decide +kernel)
theorem aw_854 : Cond.static yL_cell ∈ Al := al_in (i := 854) (by decide +kernel) (by decide +kernel)
theorem aw_855 : Cond.code yL_cell cL_cell 2 (some .int) ∈ Al := al_in (i := 855) (by decide +kernel) (by decide +kernel)
theorem aw_856 : Cond.constant RL 8 790386105 ∈ Al := al_in (i := 856) (by decide +kernel) (by decide +kernel)
theorem aw_857 : Cond.methodLink RL 108 yL_office ∈ Al := al_in (i := 857) (by decide +kernel) (by decide +kernel)
theorem aw_858 : Cond.static yL_office ∈ Al := al_in (i := 858) (by decide +kernel) (by decide +kernel)
theorem aw_859 : Cond.code yL_office cL_office 5 (some (.object "Exportcover")) ∈ Al := al_in (i := 859) (by decide +kernel) (by decide +kernel)
theorem aw_860 : Cond.classLink RL 9 "Exportcover" ∈ Al := al_in (i := 860) (by decide +kernel) (by decide +kernel)
theorem aw_861 : Cond.methodLink RL 11 yX8_init ∈ Al := al_in (i := 861) (by decide +kernel) (by decide +kernel)
theorem aw_862 : Cond.instanceMethod yX8_init ∈ Al := al_in (i := 862) (by decide +kernel) (by decide +kernel)
theorem aw_863 : Cond.code yX8_init cX8_init 1 none ∈ Al := al_in (i := 863) (by decide +kernel) (by decide +kernel)
theorem aw_864 : Cond.methodLink RX8 1 objectInit ∈ Al := al_in (i := 864) (by decide +kernel) (by decide +kernel)
theorem aw_865 : Cond.classLink RX8 7 "java/util/ArrayList" ∈ Al := al_in (i := 865) (by decide +kernel) (by decide +kernel)
theorem aw_866 : Cond.instantiable RJx4a65c 3 ∈ Al := al_in (i := 866) (by decide +kernel) (by decide +kernel)
theorem aw_867 : Cond.methodLink RX8 9 yJx4a65c_init_da8c8 ∈ Al := al_in (i := 867) (by decide +kernel) (by decide +kernel)
theorem aw_868 : Cond.instanceMethod yJx4a65c_init_da8c8 ∈ Al := al_in (i := 868) (by decide +kernel) (by decide +kernel)
theorem aw_869 : Cond.code yJx4a65c_init_da8c8 cJx4a65c_init_da8c8 1 none ∈ Al := al_in (i := 869) (by decide +kernel) (by decide +kernel)
theorem aw_870 : Cond.methodLink RJx4a65c 1 yJxc12de_init_da8c8 ∈ Al := al_in (i := 870) (by decide +kernel) (by decide +kernel)
theorem aw_871 : Cond.instanceMethod yJxc12de_init_da8c8 ∈ Al := al_in (i := 871) (by decide +kernel) (by decide +kernel)
theorem aw_872 : Cond.code yJxc12de_init_da8c8 cJxc12de_init_da8c8 1 none ∈ Al := al_in (i := 872) (by decide +kernel) (by decide +kernel)
theorem aw_873 : Cond.methodLink RJxc12de 1 yJxa1e45_init_da8c8 ∈ Al := al_in (i := 873) (by decide +kernel) (by decide +kernel)
theorem aw_874 : Cond.instanceMethod yJxa1e45_init_da8c8 ∈ Al := al_in (i := 874) (by decide +kernel) (by decide +kernel)
theorem aw_875 : Cond.code yJxa1e45_init_da8c8 cJxa1e45_init_da8c8 1 none ∈ Al := al_in (i := 875) (by decide +kernel) (by decide +kernel)
theorem aw_876 : Cond.methodLink RJxa1e45 1 objectInit ∈ Al := al_in (i := 876) (by decide +kernel) (by decide +kernel)
theorem aw_877 : Cond.fieldLink RJx4a65c 39 "java/util/ArrayList" "DEFAULTCAPACITY_EMPTY_ELEMENTDATA" "[Ljava/lang/Object;" ∈ Al := al_in (i := 877) (by decide +kernel) (by decide +kernel)
theorem aw_879 : Cond.fieldLink RJx4a65c 9 "java/util/ArrayList" "elementData" "[Ljava/lang/Object;" ∈ Al := al_in (i := 879) (by decide +kernel) (by decide +kernel)
theorem aw_880 : Cond.fieldLink RJx4a65c 48 "java/util/ArrayList" "size" "I" ∈ Al := al_in (i := 880) (by decide +kernel) (by decide +kernel)
theorem aw_881 : Cond.fieldLink RJxc12de 7 "java/util/AbstractList" "modCount" "I" ∈ Al := al_in (i := 881) (by decide +kernel) (by decide +kernel)
theorem aw_882 : Cond.fieldLink RJx4a65c 63 "java/util/ArrayList" "modCount" "I" ∈ Al := al_in (i := 882) (by decide +kernel) (by decide +kernel)
theorem aw_891 : Cond.classLink RX8 28 "Exportcover$Chest" ∈ Al := al_in (i := 891) (by decide +kernel) (by decide +kernel)
theorem aw_892 : Cond.instantiable RX1 1 ∈ Al := al_in (i := 892) (by decide +kernel) (by decide +kernel)
theorem aw_894 : Cond.instanceMethod yX1_init ∈ Al := al_in (i := 894) (by decide +kernel) (by decide +kernel)
theorem aw_895 : Cond.code yX1_init cX1_init 1 none ∈ Al := al_in (i := 895) (by decide +kernel) (by decide +kernel)
theorem aw_896 : Cond.methodLink RX1 1 objectInit ∈ Al := al_in (i := 896) (by decide +kernel) (by decide +kernel)
theorem aw_897 : Cond.fieldLink RX1 7 "Exportcover$Chest" "cents" "I" ∈ Al := al_in (i := 897) (by decide +kernel) (by decide +kernel)
theorem aw_898 : Cond.fieldLink RX8 129 "Exportcover$Chest" "cents" "I" ∈ Al := al_in (i := 898) (by decide +kernel) (by decide +kernel)
theorem aw_902 : Cond.fieldLink RX8 10 "Exportcover" "lands" "Ljava/util/ArrayList;" ∈ Al := al_in (i := 902) (by decide +kernel) (by decide +kernel)
theorem aw_903 : Cond.fieldLink RX8 16 "Exportcover" "buyers" "Ljava/util/ArrayList;" ∈ Al := al_in (i := 903) (by decide +kernel) (by decide +kernel)
theorem aw_904 : Cond.fieldLink RX8 19 "Exportcover" "exporters" "Ljava/util/ArrayList;" ∈ Al := al_in (i := 904) (by decide +kernel) (by decide +kernel)
theorem aw_905 : Cond.fieldLink RX8 22 "Exportcover" "policies" "Ljava/util/ArrayList;" ∈ Al := al_in (i := 905) (by decide +kernel) (by decide +kernel)
theorem aw_906 : Cond.fieldLink RX8 25 "Exportcover" "shipments" "Ljava/util/ArrayList;" ∈ Al := al_in (i := 906) (by decide +kernel) (by decide +kernel)
theorem aw_907 : Cond.fieldLink RX8 31 "Exportcover" "office" "LExportcover$Chest;" ∈ Al := al_in (i := 907) (by decide +kernel) (by decide +kernel)
theorem aw_908 : Cond.fieldLink RX8 35 "Exportcover" "rivalZero" "LExportcover$Chest;" ∈ Al := al_in (i := 908) (by decide +kernel) (by decide +kernel)
theorem aw_909 : Cond.fieldLink RX8 38 "Exportcover" "rivalOne" "LExportcover$Chest;" ∈ Al := al_in (i := 909) (by decide +kernel) (by decide +kernel)
theorem aw_910 : Cond.fieldLink RX8 41 "Exportcover" "world" "LExportcover$Chest;" ∈ Al := al_in (i := 910) (by decide +kernel) (by decide +kernel)
theorem aw_911 : Cond.fieldLink RX8 151 "Exportcover" "day" "I" ∈ Al := al_in (i := 911) (by decide +kernel) (by decide +kernel)
theorem aw_912 : Cond.fieldLink RX8 506 "Exportcover" "premiums" "I" ∈ Al := al_in (i := 912) (by decide +kernel) (by decide +kernel)
theorem aw_913 : Cond.fieldLink RX8 300 "Exportcover" "claims" "I" ∈ Al := al_in (i := 913) (by decide +kernel) (by decide +kernel)
theorem aw_914 : Cond.fieldLink RX8 524 "Exportcover" "recoveries" "I" ∈ Al := al_in (i := 914) (by decide +kernel) (by decide +kernel)
theorem aw_915 : Cond.fieldLink RX8 332 "Exportcover" "refused" "I" ∈ Al := al_in (i := 915) (by decide +kernel) (by decide +kernel)
theorem aw_945 : Cond.methodLink RL 22 yX8_market ∈ Al := al_in (i := 945) (by decide +kernel) (by decide +kernel)
theorem aw_946 : Cond.instanceMethod yX8_market ∈ Al := al_in (i := 946) (by decide +kernel) (by decide +kernel)
theorem aw_947 : Cond.selects RX8 yX8_market yX8_market ∈ Al := al_in (i := 947) (by decide +kernel) (by decide +kernel)
theorem aw_948 : Cond.code yX8_market cX8_market 7 (some .int) ∈ Al := al_in (i := 948) (by decide +kernel) (by decide +kernel)
theorem aw_949 : Cond.methodLink RX8 52 yJx4a65c_isEmpty_aae02 ∈ Al := al_in (i := 949) (by decide +kernel) (by decide +kernel)
theorem aw_950 : Cond.instanceMethod yJx4a65c_isEmpty_aae02 ∈ Al := al_in (i := 950) (by decide +kernel) (by decide +kernel)
theorem aw_951 : Cond.selects RJx4a65c yJx4a65c_isEmpty_aae02 yJx4a65c_isEmpty_aae02 ∈ Al := al_in (i := 951) (by decide +kernel) (by decide +kernel)
theorem aw_952 : Cond.code yJx4a65c_isEmpty_aae02 cJx4a65c_isEmpty_aae02 1 (some .boolean) ∈ Al := al_in (i := 952) (by decide +kernel) (by decide +kernel)
theorem aw_953 : Cond.methodLink RX8 59 yX8_nextInRow ∈ Al := al_in (i := 953) (by decide +kernel) (by decide +kernel)
theorem aw_954 : Cond.static yX8_nextInRow ∈ Al := al_in (i := 954) (by decide +kernel) (by decide +kernel)
theorem aw_955 : Cond.code yX8_nextInRow cX8_nextInRow 1 (some .int) ∈ Al := al_in (i := 955) (by decide +kernel) (by decide +kernel)
theorem aw_956 : Cond.methodLink RX8 63 yX8_addLand ∈ Al := al_in (i := 956) (by decide +kernel) (by decide +kernel)
theorem aw_958 : Cond.instanceMethod yX8_addLand ∈ Al := al_in (i := 958) (by decide +kernel) (by decide +kernel)
theorem aw_959 : Cond.code yX8_addLand cX8_addLand 4 (some (.object "Exportcover$Land")) ∈ Al := al_in (i := 959) (by decide +kernel) (by decide +kernel)
theorem aw_960 : Cond.instantiable RX5 8 ∈ Al := al_in (i := 960) (by decide +kernel) (by decide +kernel)
theorem aw_961 : Cond.methodLink RX8 470 yX5_init ∈ Al := al_in (i := 961) (by decide +kernel) (by decide +kernel)
theorem aw_962 : Cond.instanceMethod yX5_init ∈ Al := al_in (i := 962) (by decide +kernel) (by decide +kernel)
theorem aw_963 : Cond.code yX5_init cX5_init 4 none ∈ Al := al_in (i := 963) (by decide +kernel) (by decide +kernel)
theorem aw_964 : Cond.methodLink RX5 3 objectInit ∈ Al := al_in (i := 964) (by decide +kernel) (by decide +kernel)
theorem aw_965 : Cond.fieldLink RX5 21 "Exportcover$Land" "number" "I" ∈ Al := al_in (i := 965) (by decide +kernel) (by decide +kernel)
theorem aw_966 : Cond.fieldLink RX8 93 "Exportcover$Land" "number" "I" ∈ Al := al_in (i := 966) (by decide +kernel) (by decide +kernel)
theorem aw_967 : Cond.fieldLink RX5 24 "Exportcover$Land" "grade" "I" ∈ Al := al_in (i := 967) (by decide +kernel) (by decide +kernel)
theorem aw_968 : Cond.fieldLink RX8 103 "Exportcover$Land" "grade" "I" ∈ Al := al_in (i := 968) (by decide +kernel) (by decide +kernel)
theorem aw_969 : Cond.fieldLink RX5 27 "Exportcover$Land" "ceiling" "I" ∈ Al := al_in (i := 969) (by decide +kernel) (by decide +kernel)
theorem aw_970 : Cond.fieldLink RX8 106 "Exportcover$Land" "ceiling" "I" ∈ Al := al_in (i := 970) (by decide +kernel) (by decide +kernel)
theorem aw_971 : Cond.fieldLink RX8 109 "Exportcover$Land" "isClosed" "Z" ∈ Al := al_in (i := 971) (by decide +kernel) (by decide +kernel)
theorem aw_972 : Cond.fieldLink RX5 9 "Exportcover$Land" "stoppedSince" "I" ∈ Al := al_in (i := 972) (by decide +kernel) (by decide +kernel)
theorem aw_973 : Cond.fieldLink RX8 113 "Exportcover$Land" "stoppedSince" "I" ∈ Al := al_in (i := 973) (by decide +kernel) (by decide +kernel)
theorem aw_974 : Cond.fieldLink RX5 15 "Exportcover$Land" "warSince" "I" ∈ Al := al_in (i := 974) (by decide +kernel) (by decide +kernel)
theorem aw_975 : Cond.fieldLink RX8 120 "Exportcover$Land" "warSince" "I" ∈ Al := al_in (i := 975) (by decide +kernel) (by decide +kernel)
theorem aw_976 : Cond.fieldLink RX5 40 "Exportcover$Land" "noticeRate" "I" ∈ Al := al_in (i := 976) (by decide +kernel) (by decide +kernel)
theorem aw_977 : Cond.fieldLink RX8 157 "Exportcover$Land" "noticeRate" "I" ∈ Al := al_in (i := 977) (by decide +kernel) (by decide +kernel)
theorem aw_978 : Cond.fieldLink RX5 18 "Exportcover$Land" "noticeDay" "I" ∈ Al := al_in (i := 978) (by decide +kernel) (by decide +kernel)
theorem aw_979 : Cond.fieldLink RX8 160 "Exportcover$Land" "noticeDay" "I" ∈ Al := al_in (i := 979) (by decide +kernel) (by decide +kernel)
theorem aw_997 : Cond.methodLink RX8 172 yJx4a65c_add_9ea2d ∈ Al := al_in (i := 997) (by decide +kernel) (by decide +kernel)
theorem aw_998 : Cond.instanceMethod yJx4a65c_add_9ea2d ∈ Al := al_in (i := 998) (by decide +kernel) (by decide +kernel)
theorem aw_999 : Cond.selects RJx4a65c yJx4a65c_add_9ea2d yJx4a65c_add_9ea2d ∈ Al := al_in (i := 999) (by decide +kernel) (by decide +kernel)
theorem aw_1000 : Cond.code yJx4a65c_add_9ea2d cJx4a65c_add_9ea2d 2 (some .boolean) ∈ Al := al_in (i := 1000) (by decide +kernel) (by decide +kernel)
theorem aw_1001 : Cond.methodLink RJx4a65c 131 yJx4a65c_add_72be8 ∈ Al := al_in (i := 1001) (by decide +kernel) (by decide +kernel)
theorem aw_1003 : Cond.instanceMethod yJx4a65c_add_72be8 ∈ Al := al_in (i := 1003) (by decide +kernel) (by decide +kernel)
theorem aw_1004 : Cond.code yJx4a65c_add_72be8 cJx4a65c_add_72be8 4 none ∈ Al := al_in (i := 1004) (by decide +kernel) (by decide +kernel)
theorem aw_1005 : Cond.methodLink RJx4a65c 129 yJx4a65c_grow_d5877 ∈ Al := al_in (i := 1005) (by decide +kernel) (by decide +kernel)
theorem aw_1007 : Cond.instanceMethod yJx4a65c_grow_d5877 ∈ Al := al_in (i := 1007) (by decide +kernel) (by decide +kernel)
theorem aw_1008 : Cond.code yJx4a65c_grow_d5877 cJx4a65c_grow_d5877 1 (some (.array (.object "java/lang/Object"))) ∈ Al := al_in (i := 1008) (by decide +kernel) (by decide +kernel)
theorem aw_1009 : Cond.methodLink RJx4a65c 69 yJx4a65c_grow_92f84 ∈ Al := al_in (i := 1009) (by decide +kernel) (by decide +kernel)
theorem aw_1011 : Cond.instanceMethod yJx4a65c_grow_92f84 ∈ Al := al_in (i := 1011) (by decide +kernel) (by decide +kernel)
theorem aw_1012 : Cond.code yJx4a65c_grow_92f84 cJx4a65c_grow_92f84 4 (some (.array (.object "java/lang/Object"))) ∈ Al := al_in (i := 1012) (by decide +kernel) (by decide +kernel)
theorem aw_1013 : Cond.methodLink RJx4a65c 73 yJ8_newLength_cabcc ∈ Al := al_in (i := 1013) (by decide +kernel) (by decide +kernel)
theorem aw_1014 : Cond.methodLink RJx4a65c 66 yJ7_copyOf_1904c ∈ Al := al_in (i := 1014) (by decide +kernel) (by decide +kernel)
theorem aw_1015 : Cond.static yJ7_copyOf_1904c ∈ Al := al_in (i := 1015) (by decide +kernel) (by decide +kernel)
theorem aw_1016 : Cond.code yJ7_copyOf_1904c cJ7_copyOf_1904c 2 (some (.array (.object "java/lang/Object"))) ∈ Al := al_in (i := 1016) (by decide +kernel) (by decide +kernel)
theorem aw_1044 : Cond.methodLink RJx4a65c 79 yJ9_max_7cf53 ∈ Al := al_in (i := 1044) (by decide +kernel) (by decide +kernel)
theorem aw_1045 : Cond.classLink RJx4a65c 7 "java/lang/Object" ∈ Al := al_in (i := 1045) (by decide +kernel) (by decide +kernel)
theorem aw_1046 : Cond.methodLink RX8 67 yX8_addExporter ∈ Al := al_in (i := 1046) (by decide +kernel) (by decide +kernel)
theorem aw_1048 : Cond.instanceMethod yX8_addExporter ∈ Al := al_in (i := 1048) (by decide +kernel) (by decide +kernel)
theorem aw_1049 : Cond.code yX8_addExporter cX8_addExporter 2 (some (.object "Exportcover$Exporter")) ∈ Al := al_in (i := 1049) (by decide +kernel) (by decide +kernel)
theorem aw_1050 : Cond.instantiable RX4 5 ∈ Al := al_in (i := 1050) (by decide +kernel) (by decide +kernel)
theorem aw_1051 : Cond.methodLink RX8 474 yX4_init ∈ Al := al_in (i := 1051) (by decide +kernel) (by decide +kernel)
theorem aw_1052 : Cond.instanceMethod yX4_init ∈ Al := al_in (i := 1052) (by decide +kernel) (by decide +kernel)
theorem aw_1053 : Cond.code yX4_init cX4_init 2 none ∈ Al := al_in (i := 1053) (by decide +kernel) (by decide +kernel)
theorem aw_1054 : Cond.methodLink RX4 1 objectInit ∈ Al := al_in (i := 1054) (by decide +kernel) (by decide +kernel)
theorem aw_1055 : Cond.classLink RX4 7 "Exportcover$Chest" ∈ Al := al_in (i := 1055) (by decide +kernel) (by decide +kernel)
theorem aw_1057 : Cond.fieldLink RX4 16 "Exportcover$Exporter" "number" "I" ∈ Al := al_in (i := 1057) (by decide +kernel) (by decide +kernel)
theorem aw_1058 : Cond.fieldLink RX8 138 "Exportcover$Exporter" "number" "I" ∈ Al := al_in (i := 1058) (by decide +kernel) (by decide +kernel)
theorem aw_1059 : Cond.fieldLink RX4 10 "Exportcover$Exporter" "chest" "LExportcover$Chest;" ∈ Al := al_in (i := 1059) (by decide +kernel) (by decide +kernel)
theorem aw_1060 : Cond.fieldLink RX8 292 "Exportcover$Exporter" "chest" "LExportcover$Chest;" ∈ Al := al_in (i := 1060) (by decide +kernel) (by decide +kernel)
theorem aw_1061 : Cond.fieldLink RX4 20 "Exportcover$Exporter" "owned" "I" ∈ Al := al_in (i := 1061) (by decide +kernel) (by decide +kernel)
theorem aw_1062 : Cond.fieldLink RX8 145 "Exportcover$Exporter" "owned" "I" ∈ Al := al_in (i := 1062) (by decide +kernel) (by decide +kernel)
theorem aw_1063 : Cond.fieldLink RX4 23 "Exportcover$Exporter" "sellers" "I" ∈ Al := al_in (i := 1063) (by decide +kernel) (by decide +kernel)
theorem aw_1064 : Cond.fieldLink RX8 148 "Exportcover$Exporter" "sellers" "I" ∈ Al := al_in (i := 1064) (by decide +kernel) (by decide +kernel)
theorem aw_1065 : Cond.fieldLink RX8 228 "Exportcover$Exporter" "suppliedBuyers" "I" ∈ Al := al_in (i := 1065) (by decide +kernel) (by decide +kernel)
theorem aw_1077 : Cond.methodLink RX8 71 yX8_landAt ∈ Al := al_in (i := 1077) (by decide +kernel) (by decide +kernel)
theorem aw_1079 : Cond.instanceMethod yX8_landAt ∈ Al := al_in (i := 1079) (by decide +kernel) (by decide +kernel)
theorem aw_1080 : Cond.code yX8_landAt cX8_landAt 2 (some (.object "Exportcover$Land")) ∈ Al := al_in (i := 1080) (by decide +kernel) (by decide +kernel)
theorem aw_1082 : Cond.methodLink RX8 75 yX8_addBuyer ∈ Al := al_in (i := 1082) (by decide +kernel) (by decide +kernel)
theorem aw_1084 : Cond.instanceMethod yX8_addBuyer ∈ Al := al_in (i := 1084) (by decide +kernel) (by decide +kernel)
theorem aw_1085 : Cond.code yX8_addBuyer cX8_addBuyer 4 (some (.object "Exportcover$Buyer")) ∈ Al := al_in (i := 1085) (by decide +kernel) (by decide +kernel)
theorem aw_1086 : Cond.instantiable RX0 5 ∈ Al := al_in (i := 1086) (by decide +kernel) (by decide +kernel)
theorem aw_1087 : Cond.methodLink RX8 471 yX0_init ∈ Al := al_in (i := 1087) (by decide +kernel) (by decide +kernel)
theorem aw_1088 : Cond.instanceMethod yX0_init ∈ Al := al_in (i := 1088) (by decide +kernel) (by decide +kernel)
theorem aw_1089 : Cond.code yX0_init cX0_init 4 none ∈ Al := al_in (i := 1089) (by decide +kernel) (by decide +kernel)
theorem aw_1090 : Cond.methodLink RX0 3 objectInit ∈ Al := al_in (i := 1090) (by decide +kernel) (by decide +kernel)
theorem aw_1091 : Cond.classLink RX0 9 "Exportcover$Chest" ∈ Al := al_in (i := 1091) (by decide +kernel) (by decide +kernel)
theorem aw_1093 : Cond.fieldLink RX0 22 "Exportcover$Buyer" "number" "I" ∈ Al := al_in (i := 1093) (by decide +kernel) (by decide +kernel)
theorem aw_1094 : Cond.fieldLink RX8 123 "Exportcover$Buyer" "number" "I" ∈ Al := al_in (i := 1094) (by decide +kernel) (by decide +kernel)
theorem aw_1095 : Cond.fieldLink RX0 25 "Exportcover$Buyer" "land" "LExportcover$Land;" ∈ Al := al_in (i := 1095) (by decide +kernel) (by decide +kernel)
theorem aw_1096 : Cond.fieldLink RX7 73 "Exportcover$Buyer" "land" "LExportcover$Land;" ∈ Al := al_in (i := 1096) (by decide +kernel) (by decide +kernel)
theorem aw_1097 : Cond.fieldLink RX8 206 "Exportcover$Buyer" "land" "LExportcover$Land;" ∈ Al := al_in (i := 1097) (by decide +kernel) (by decide +kernel)
theorem aw_1098 : Cond.fieldLink RX0 29 "Exportcover$Buyer" "grade" "I" ∈ Al := al_in (i := 1098) (by decide +kernel) (by decide +kernel)
theorem aw_1099 : Cond.fieldLink RX8 184 "Exportcover$Buyer" "grade" "I" ∈ Al := al_in (i := 1099) (by decide +kernel) (by decide +kernel)
theorem aw_1100 : Cond.fieldLink RX0 12 "Exportcover$Buyer" "chest" "LExportcover$Chest;" ∈ Al := al_in (i := 1100) (by decide +kernel) (by decide +kernel)
theorem aw_1101 : Cond.fieldLink RX8 79 "Exportcover$Buyer" "chest" "LExportcover$Chest;" ∈ Al := al_in (i := 1101) (by decide +kernel) (by decide +kernel)
theorem aw_1102 : Cond.fieldLink RX0 18 "Exportcover$Buyer" "brokeOn" "I" ∈ Al := al_in (i := 1102) (by decide +kernel) (by decide +kernel)
theorem aw_1103 : Cond.fieldLink RX7 87 "Exportcover$Buyer" "brokeOn" "I" ∈ Al := al_in (i := 1103) (by decide +kernel) (by decide +kernel)
theorem aw_1104 : Cond.fieldLink RX8 135 "Exportcover$Buyer" "brokeOn" "I" ∈ Al := al_in (i := 1104) (by decide +kernel) (by decide +kernel)
theorem aw_1116 : Cond.methodLink RL 26 yX8_land ∈ Al := al_in (i := 1116) (by decide +kernel) (by decide +kernel)
theorem aw_1117 : Cond.instanceMethod yX8_land ∈ Al := al_in (i := 1117) (by decide +kernel) (by decide +kernel)
theorem aw_1118 : Cond.selects RX8 yX8_land yX8_land ∈ Al := al_in (i := 1118) (by decide +kernel) (by decide +kernel)
theorem aw_1119 : Cond.code yX8_land cX8_land 3 (some .int) ∈ Al := al_in (i := 1119) (by decide +kernel) (by decide +kernel)
theorem aw_1120 : Cond.constant RX8 88 999999 ∈ Al := al_in (i := 1120) (by decide +kernel) (by decide +kernel)
theorem aw_1121 : Cond.methodLink RL 29 yX8_exporter ∈ Al := al_in (i := 1121) (by decide +kernel) (by decide +kernel)
theorem aw_1122 : Cond.instanceMethod yX8_exporter ∈ Al := al_in (i := 1122) (by decide +kernel) (by decide +kernel)
theorem aw_1123 : Cond.selects RX8 yX8_exporter yX8_exporter ∈ Al := al_in (i := 1123) (by decide +kernel) (by decide +kernel)
theorem aw_1124 : Cond.code yX8_exporter cX8_exporter 1 (some .int) ∈ Al := al_in (i := 1124) (by decide +kernel) (by decide +kernel)
theorem aw_1125 : Cond.methodLink RL 33 yX8_buyer ∈ Al := al_in (i := 1125) (by decide +kernel) (by decide +kernel)
theorem aw_1126 : Cond.instanceMethod yX8_buyer ∈ Al := al_in (i := 1126) (by decide +kernel) (by decide +kernel)
theorem aw_1127 : Cond.selects RX8 yX8_buyer yX8_buyer ∈ Al := al_in (i := 1127) (by decide +kernel) (by decide +kernel)
theorem aw_1128 : Cond.code yX8_buyer cX8_buyer 4 (some .int) ∈ Al := al_in (i := 1128) (by decide +kernel) (by decide +kernel)
theorem aw_1129 : Cond.methodLink RL 36 yX8_earn ∈ Al := al_in (i := 1129) (by decide +kernel) (by decide +kernel)
theorem aw_1130 : Cond.instanceMethod yX8_earn ∈ Al := al_in (i := 1130) (by decide +kernel) (by decide +kernel)
theorem aw_1131 : Cond.selects RX8 yX8_earn yX8_earn ∈ Al := al_in (i := 1131) (by decide +kernel) (by decide +kernel)
theorem aw_1132 : Cond.code yX8_earn cX8_earn 4 (some .int) ∈ Al := al_in (i := 1132) (by decide +kernel) (by decide +kernel)
theorem aw_1133 : Cond.methodLink RX8 124 yX8_buyerAt ∈ Al := al_in (i := 1133) (by decide +kernel) (by decide +kernel)
theorem aw_1135 : Cond.instanceMethod yX8_buyerAt ∈ Al := al_in (i := 1135) (by decide +kernel) (by decide +kernel)
theorem aw_1136 : Cond.code yX8_buyerAt cX8_buyerAt 2 (some (.object "Exportcover$Buyer")) ∈ Al := al_in (i := 1136) (by decide +kernel) (by decide +kernel)
theorem aw_1138 : Cond.constant RX8 128 99999 ∈ Al := al_in (i := 1138) (by decide +kernel) (by decide +kernel)
theorem aw_1139 : Cond.methodLink RL 39 yX8_policy ∈ Al := al_in (i := 1139) (by decide +kernel) (by decide +kernel)
theorem aw_1140 : Cond.instanceMethod yX8_policy ∈ Al := al_in (i := 1140) (by decide +kernel) (by decide +kernel)
theorem aw_1141 : Cond.selects RX8 yX8_policy yX8_policy ∈ Al := al_in (i := 1141) (by decide +kernel) (by decide +kernel)
theorem aw_1142 : Cond.code yX8_policy cX8_policy 7 (some .int) ∈ Al := al_in (i := 1142) (by decide +kernel) (by decide +kernel)
theorem aw_1143 : Cond.methodLink RX8 141 yX8_exporterAt ∈ Al := al_in (i := 1143) (by decide +kernel) (by decide +kernel)
theorem aw_1145 : Cond.instanceMethod yX8_exporterAt ∈ Al := al_in (i := 1145) (by decide +kernel) (by decide +kernel)
theorem aw_1146 : Cond.code yX8_exporterAt cX8_exporterAt 2 (some (.object "Exportcover$Exporter")) ∈ Al := al_in (i := 1146) (by decide +kernel) (by decide +kernel)
theorem aw_1148 : Cond.methodLink RX8 163 yX8_demandRival ∈ Al := al_in (i := 1148) (by decide +kernel) (by decide +kernel)
theorem aw_1149 : Cond.static yX8_demandRival ∈ Al := al_in (i := 1149) (by decide +kernel) (by decide +kernel)
theorem aw_1150 : Cond.code yX8_demandRival cX8_demandRival 1 none ∈ Al := al_in (i := 1150) (by decide +kernel) (by decide +kernel)
theorem aw_1152 : Cond.instantiable RX6 7 ∈ Al := al_in (i := 1152) (by decide +kernel) (by decide +kernel)
theorem aw_1153 : Cond.methodLink RX8 169 yX6_init ∈ Al := al_in (i := 1153) (by decide +kernel) (by decide +kernel)
theorem aw_1154 : Cond.instanceMethod yX6_init ∈ Al := al_in (i := 1154) (by decide +kernel) (by decide +kernel)
theorem aw_1155 : Cond.code yX6_init cX6_init 6 none ∈ Al := al_in (i := 1155) (by decide +kernel) (by decide +kernel)
theorem aw_1156 : Cond.methodLink RX6 3 objectInit ∈ Al := al_in (i := 1156) (by decide +kernel) (by decide +kernel)
theorem aw_1157 : Cond.fieldLink RX6 15 "Exportcover$Policy" "number" "I" ∈ Al := al_in (i := 1157) (by decide +kernel) (by decide +kernel)
theorem aw_1158 : Cond.fieldLink RX8 176 "Exportcover$Policy" "number" "I" ∈ Al := al_in (i := 1158) (by decide +kernel) (by decide +kernel)
theorem aw_1159 : Cond.fieldLink RX6 19 "Exportcover$Policy" "exporter" "LExportcover$Exporter;" ∈ Al := al_in (i := 1159) (by decide +kernel) (by decide +kernel)
theorem aw_1160 : Cond.fieldLink RX8 224 "Exportcover$Policy" "exporter" "LExportcover$Exporter;" ∈ Al := al_in (i := 1160) (by decide +kernel) (by decide +kernel)
theorem aw_1161 : Cond.fieldLink RX6 23 "Exportcover$Policy" "cover" "I" ∈ Al := al_in (i := 1161) (by decide +kernel) (by decide +kernel)
theorem aw_1162 : Cond.fieldLink RX8 278 "Exportcover$Policy" "cover" "I" ∈ Al := al_in (i := 1162) (by decide +kernel) (by decide +kernel)
theorem aw_1163 : Cond.fieldLink RX6 26 "Exportcover$Policy" "rival" "I" ∈ Al := al_in (i := 1163) (by decide +kernel) (by decide +kernel)
theorem aw_1164 : Cond.fieldLink RX8 293 "Exportcover$Policy" "rival" "I" ∈ Al := al_in (i := 1164) (by decide +kernel) (by decide +kernel)
theorem aw_1165 : Cond.fieldLink RX6 29 "Exportcover$Policy" "quota" "I" ∈ Al := al_in (i := 1165) (by decide +kernel) (by decide +kernel)
theorem aw_1166 : Cond.fieldLink RX8 281 "Exportcover$Policy" "quota" "I" ∈ Al := al_in (i := 1166) (by decide +kernel) (by decide +kernel)
theorem aw_1167 : Cond.fieldLink RX6 9 "Exportcover$Policy" "limits" "[I" ∈ Al := al_in (i := 1167) (by decide +kernel) (by decide +kernel)
theorem aw_1168 : Cond.fieldLink RX8 181 "Exportcover$Policy" "isEnded" "Z" ∈ Al := al_in (i := 1168) (by decide +kernel) (by decide +kernel)
theorem aw_1184 : Cond.methodLink RL 43 yX8_limit ∈ Al := al_in (i := 1184) (by decide +kernel) (by decide +kernel)
theorem aw_1185 : Cond.instanceMethod yX8_limit ∈ Al := al_in (i := 1185) (by decide +kernel) (by decide +kernel)
theorem aw_1186 : Cond.selects RX8 yX8_limit yX8_limit ∈ Al := al_in (i := 1186) (by decide +kernel) (by decide +kernel)
theorem aw_1187 : Cond.code yX8_limit cX8_limit 7 (some .int) ∈ Al := al_in (i := 1187) (by decide +kernel) (by decide +kernel)
theorem aw_1188 : Cond.methodLink RX8 191 yX6_grant ∈ Al := al_in (i := 1188) (by decide +kernel) (by decide +kernel)
theorem aw_1189 : Cond.instanceMethod yX6_grant ∈ Al := al_in (i := 1189) (by decide +kernel) (by decide +kernel)
theorem aw_1190 : Cond.selects RX6 yX6_grant yX6_grant ∈ Al := al_in (i := 1190) (by decide +kernel) (by decide +kernel)
theorem aw_1191 : Cond.code yX6_grant cX6_grant 3 none ∈ Al := al_in (i := 1191) (by decide +kernel) (by decide +kernel)
theorem aw_1197 : Cond.methodLink RL 50 yJ9_max_7cf53 ∈ Al := al_in (i := 1197) (by decide +kernel) (by decide +kernel)
theorem aw_1198 : Cond.methodLink RL 55 yX8_ship ∈ Al := al_in (i := 1198) (by decide +kernel) (by decide +kernel)
theorem aw_1199 : Cond.instanceMethod yX8_ship ∈ Al := al_in (i := 1199) (by decide +kernel) (by decide +kernel)
theorem aw_1200 : Cond.selects RX8 yX8_ship yX8_ship ∈ Al := al_in (i := 1200) (by decide +kernel) (by decide +kernel)
theorem aw_1201 : Cond.code yX8_ship cX8_ship 11 (some .int) ∈ Al := al_in (i := 1201) (by decide +kernel) (by decide +kernel)
theorem aw_1202 : Cond.methodLink RX8 198 yX8_demandGoods ∈ Al := al_in (i := 1202) (by decide +kernel) (by decide +kernel)
theorem aw_1203 : Cond.static yX8_demandGoods ∈ Al := al_in (i := 1203) (by decide +kernel) (by decide +kernel)
theorem aw_1204 : Cond.code yX8_demandGoods cX8_demandGoods 2 none ∈ Al := al_in (i := 1204) (by decide +kernel) (by decide +kernel)
theorem aw_1205 : Cond.methodLink RX8 203 yX7_init ∈ Al := al_in (i := 1205) (by decide +kernel) (by decide +kernel)
theorem aw_1206 : Cond.instanceMethod yX7_init ∈ Al := al_in (i := 1206) (by decide +kernel) (by decide +kernel)
theorem aw_1207 : Cond.code yX7_init cX7_init 7 none ∈ Al := al_in (i := 1207) (by decide +kernel) (by decide +kernel)
theorem aw_1208 : Cond.methodLink RX7 3 objectInit ∈ Al := al_in (i := 1208) (by decide +kernel) (by decide +kernel)
theorem aw_1209 : Cond.fieldLink RX7 9 "Exportcover$Shipment" "policy" "LExportcover$Policy;" ∈ Al := al_in (i := 1209) (by decide +kernel) (by decide +kernel)
theorem aw_1210 : Cond.fieldLink RX8 274 "Exportcover$Shipment" "policy" "LExportcover$Policy;" ∈ Al := al_in (i := 1210) (by decide +kernel) (by decide +kernel)
theorem aw_1211 : Cond.fieldLink RX7 15 "Exportcover$Shipment" "buyer" "LExportcover$Buyer;" ∈ Al := al_in (i := 1211) (by decide +kernel) (by decide +kernel)
theorem aw_1212 : Cond.fieldLink RX8 310 "Exportcover$Shipment" "buyer" "LExportcover$Buyer;" ∈ Al := al_in (i := 1212) (by decide +kernel) (by decide +kernel)
theorem aw_1213 : Cond.fieldLink RX7 19 "Exportcover$Shipment" "amount" "I" ∈ Al := al_in (i := 1213) (by decide +kernel) (by decide +kernel)
theorem aw_1214 : Cond.fieldLink RX8 567 "Exportcover$Shipment" "amount" "I" ∈ Al := al_in (i := 1214) (by decide +kernel) (by decide +kernel)
theorem aw_1215 : Cond.fieldLink RX7 23 "Exportcover$Shipment" "sailedOn" "I" ∈ Al := al_in (i := 1215) (by decide +kernel) (by decide +kernel)
theorem aw_1216 : Cond.fieldLink RX8 570 "Exportcover$Shipment" "sailedOn" "I" ∈ Al := al_in (i := 1216) (by decide +kernel) (by decide +kernel)
theorem aw_1217 : Cond.fieldLink RX7 26 "Exportcover$Shipment" "due" "I" ∈ Al := al_in (i := 1217) (by decide +kernel) (by decide +kernel)
theorem aw_1218 : Cond.fieldLink RX8 253 "Exportcover$Shipment" "due" "I" ∈ Al := al_in (i := 1218) (by decide +kernel) (by decide +kernel)
theorem aw_1219 : Cond.fieldLink RX7 29 "Exportcover$Shipment" "isFake" "Z" ∈ Al := al_in (i := 1219) (by decide +kernel) (by decide +kernel)
theorem aw_1220 : Cond.fieldLink RX8 320 "Exportcover$Shipment" "isFake" "Z" ∈ Al := al_in (i := 1220) (by decide +kernel) (by decide +kernel)
theorem aw_1221 : Cond.fieldLink RX7 36 "Exportcover$Shipment" "rate" "I" ∈ Al := al_in (i := 1221) (by decide +kernel) (by decide +kernel)
theorem aw_1222 : Cond.fieldLink RX8 576 "Exportcover$Shipment" "rate" "I" ∈ Al := al_in (i := 1222) (by decide +kernel) (by decide +kernel)
theorem aw_1223 : Cond.fieldLink RX7 39 "Exportcover$Shipment" "insured" "I" ∈ Al := al_in (i := 1223) (by decide +kernel) (by decide +kernel)
theorem aw_1224 : Cond.fieldLink RX8 268 "Exportcover$Shipment" "insured" "I" ∈ Al := al_in (i := 1224) (by decide +kernel) (by decide +kernel)
theorem aw_1225 : Cond.fieldLink RX7 42 "Exportcover$Shipment" "reason" "I" ∈ Al := al_in (i := 1225) (by decide +kernel) (by decide +kernel)
theorem aw_1226 : Cond.fieldLink RX8 573 "Exportcover$Shipment" "reason" "I" ∈ Al := al_in (i := 1226) (by decide +kernel) (by decide +kernel)
theorem aw_1227 : Cond.fieldLink RX7 45 "Exportcover$Shipment" "premium" "I" ∈ Al := al_in (i := 1227) (by decide +kernel) (by decide +kernel)
theorem aw_1228 : Cond.fieldLink RX8 503 "Exportcover$Shipment" "premium" "I" ∈ Al := al_in (i := 1228) (by decide +kernel) (by decide +kernel)
theorem aw_1229 : Cond.fieldLink RX7 33 "Exportcover$Shipment" "left" "I" ∈ Al := al_in (i := 1229) (by decide +kernel) (by decide +kernel)
theorem aw_1230 : Cond.fieldLink RX8 242 "Exportcover$Shipment" "left" "I" ∈ Al := al_in (i := 1230) (by decide +kernel) (by decide +kernel)
theorem aw_1231 : Cond.fieldLink RX7 101 "Exportcover$Shipment" "isReported" "Z" ∈ Al := al_in (i := 1231) (by decide +kernel) (by decide +kernel)
theorem aw_1232 : Cond.fieldLink RX8 256 "Exportcover$Shipment" "isReported" "Z" ∈ Al := al_in (i := 1232) (by decide +kernel) (by decide +kernel)
theorem aw_1233 : Cond.fieldLink RX7 90 "Exportcover$Shipment" "isDisputed" "Z" ∈ Al := al_in (i := 1233) (by decide +kernel) (by decide +kernel)
theorem aw_1234 : Cond.fieldLink RX8 265 "Exportcover$Shipment" "isDisputed" "Z" ∈ Al := al_in (i := 1234) (by decide +kernel) (by decide +kernel)
theorem aw_1235 : Cond.fieldLink RX7 56 "Exportcover$Shipment" "isVoid" "Z" ∈ Al := al_in (i := 1235) (by decide +kernel) (by decide +kernel)
theorem aw_1236 : Cond.fieldLink RX8 303 "Exportcover$Shipment" "isVoid" "Z" ∈ Al := al_in (i := 1236) (by decide +kernel) (by decide +kernel)
theorem aw_1237 : Cond.fieldLink RX7 48 "Exportcover$Shipment" "damage" "LExportcover$Damage;" ∈ Al := al_in (i := 1237) (by decide +kernel) (by decide +kernel)
theorem aw_1238 : Cond.fieldLink RX8 288 "Exportcover$Shipment" "damage" "LExportcover$Damage;" ∈ Al := al_in (i := 1238) (by decide +kernel) (by decide +kernel)
theorem aw_1239 : Cond.fieldLink RX7 52 "Exportcover$Shipment" "delay" "LExportcover$Delay;" ∈ Al := al_in (i := 1239) (by decide +kernel) (by decide +kernel)
theorem aw_1240 : Cond.fieldLink RX8 527 "Exportcover$Shipment" "delay" "LExportcover$Delay;" ∈ Al := al_in (i := 1240) (by decide +kernel) (by decide +kernel)
theorem aw_1274 : Cond.methodLink RX8 210 yX5_rateOn ∈ Al := al_in (i := 1274) (by decide +kernel) (by decide +kernel)
theorem aw_1275 : Cond.instanceMethod yX5_rateOn ∈ Al := al_in (i := 1275) (by decide +kernel) (by decide +kernel)
theorem aw_1276 : Cond.selects RX5 yX5_rateOn yX5_rateOn ∈ Al := al_in (i := 1276) (by decide +kernel) (by decide +kernel)
theorem aw_1277 : Cond.code yX5_rateOn cX5_rateOn 7 (some .int) ∈ Al := al_in (i := 1277) (by decide +kernel) (by decide +kernel)
theorem aw_1278 : Cond.methodLink RX8 213 yX8_reasonOf ∈ Al := al_in (i := 1278) (by decide +kernel) (by decide +kernel)
theorem aw_1280 : Cond.instanceMethod yX8_reasonOf ∈ Al := al_in (i := 1280) (by decide +kernel) (by decide +kernel)
theorem aw_1281 : Cond.code yX8_reasonOf cX8_reasonOf 8 (some .int) ∈ Al := al_in (i := 1281) (by decide +kernel) (by decide +kernel)
theorem aw_1282 : Cond.methodLink RX8 493 yX8_refusalOf ∈ Al := al_in (i := 1282) (by decide +kernel) (by decide +kernel)
theorem aw_1284 : Cond.instanceMethod yX8_refusalOf ∈ Al := al_in (i := 1284) (by decide +kernel) (by decide +kernel)
theorem aw_1285 : Cond.code yX8_refusalOf cX8_refusalOf 4 (some .int) ∈ Al := al_in (i := 1285) (by decide +kernel) (by decide +kernel)
theorem aw_1286 : Cond.methodLink RX8 483 yX5_isTroubled ∈ Al := al_in (i := 1286) (by decide +kernel) (by decide +kernel)
theorem aw_1287 : Cond.methodLink RX8 132 yX0_isBroke ∈ Al := al_in (i := 1287) (by decide +kernel) (by decide +kernel)
theorem aw_1288 : Cond.methodLink RX8 486 yX8_isCoverStopped ∈ Al := al_in (i := 1288) (by decide +kernel) (by decide +kernel)
theorem aw_1290 : Cond.instanceMethod yX8_isCoverStopped ∈ Al := al_in (i := 1290) (by decide +kernel) (by decide +kernel)
theorem aw_1291 : Cond.code yX8_isCoverStopped cX8_isCoverStopped 6 (some .boolean) ∈ Al := al_in (i := 1291) (by decide +kernel) (by decide +kernel)
theorem aw_1292 : Cond.methodLink RX8 479 yX7_isOverdue ∈ Al := al_in (i := 1292) (by decide +kernel) (by decide +kernel)
theorem aw_1293 : Cond.instanceMethod yX7_isOverdue ∈ Al := al_in (i := 1293) (by decide +kernel) (by decide +kernel)
theorem aw_1294 : Cond.selects RX7 yX7_isOverdue yX7_isOverdue ∈ Al := al_in (i := 1294) (by decide +kernel) (by decide +kernel)
theorem aw_1295 : Cond.code yX7_isOverdue cX7_isOverdue 2 (some .boolean) ∈ Al := al_in (i := 1295) (by decide +kernel) (by decide +kernel)
theorem aw_1296 : Cond.methodLink RX8 497 yX8_roomFor ∈ Al := al_in (i := 1296) (by decide +kernel) (by decide +kernel)
theorem aw_1298 : Cond.instanceMethod yX8_roomFor ∈ Al := al_in (i := 1298) (by decide +kernel) (by decide +kernel)
theorem aw_1299 : Cond.code yX8_roomFor cX8_roomFor 3 (some .int) ∈ Al := al_in (i := 1299) (by decide +kernel) (by decide +kernel)
theorem aw_1300 : Cond.methodLink RX8 467 yJ9_max_7cf53 ∈ Al := al_in (i := 1300) (by decide +kernel) (by decide +kernel)
theorem aw_1301 : Cond.methodLink RX8 500 yX8_spaceIn ∈ Al := al_in (i := 1301) (by decide +kernel) (by decide +kernel)
theorem aw_1303 : Cond.instanceMethod yX8_spaceIn ∈ Al := al_in (i := 1303) (by decide +kernel) (by decide +kernel)
theorem aw_1304 : Cond.code yX8_spaceIn cX8_spaceIn 2 (some .int) ∈ Al := al_in (i := 1304) (by decide +kernel) (by decide +kernel)
theorem aw_1305 : Cond.methodLink RX8 217 yX8_insuredOf ∈ Al := al_in (i := 1305) (by decide +kernel) (by decide +kernel)
theorem aw_1307 : Cond.instanceMethod yX8_insuredOf ∈ Al := al_in (i := 1307) (by decide +kernel) (by decide +kernel)
theorem aw_1308 : Cond.code yX8_insuredOf cX8_insuredOf 5 (some .int) ∈ Al := al_in (i := 1308) (by decide +kernel) (by decide +kernel)
theorem aw_1309 : Cond.methodLink RX8 220 yX7_keepTerms ∈ Al := al_in (i := 1309) (by decide +kernel) (by decide +kernel)
theorem aw_1310 : Cond.instanceMethod yX7_keepTerms ∈ Al := al_in (i := 1310) (by decide +kernel) (by decide +kernel)
theorem aw_1311 : Cond.selects RX7 yX7_keepTerms yX7_keepTerms ∈ Al := al_in (i := 1311) (by decide +kernel) (by decide +kernel)
theorem aw_1312 : Cond.code yX7_keepTerms cX7_keepTerms 5 none ∈ Al := al_in (i := 1312) (by decide +kernel) (by decide +kernel)
theorem aw_1313 : Cond.methodLink RX8 231 yX8_takePremium ∈ Al := al_in (i := 1313) (by decide +kernel) (by decide +kernel)
theorem aw_1315 : Cond.instanceMethod yX8_takePremium ∈ Al := al_in (i := 1315) (by decide +kernel) (by decide +kernel)
theorem aw_1316 : Cond.code yX8_takePremium cX8_takePremium 4 none ∈ Al := al_in (i := 1316) (by decide +kernel) (by decide +kernel)
theorem aw_1317 : Cond.methodLink RL 59 yX8_pay ∈ Al := al_in (i := 1317) (by decide +kernel) (by decide +kernel)
theorem aw_1318 : Cond.instanceMethod yX8_pay ∈ Al := al_in (i := 1318) (by decide +kernel) (by decide +kernel)
theorem aw_1319 : Cond.selects RX8 yX8_pay yX8_pay ∈ Al := al_in (i := 1319) (by decide +kernel) (by decide +kernel)
theorem aw_1320 : Cond.code yX8_pay cX8_pay 9 (some .int) ∈ Al := al_in (i := 1320) (by decide +kernel) (by decide +kernel)
theorem aw_1321 : Cond.methodLink RX8 238 yX8_firstToPay ∈ Al := al_in (i := 1321) (by decide +kernel) (by decide +kernel)
theorem aw_1323 : Cond.instanceMethod yX8_firstToPay ∈ Al := al_in (i := 1323) (by decide +kernel) (by decide +kernel)
theorem aw_1324 : Cond.code yX8_firstToPay cX8_firstToPay 5 (some (.object "Exportcover$Shipment")) ∈ Al := al_in (i := 1324) (by decide +kernel) (by decide +kernel)
theorem aw_1325 : Cond.methodLink RL 62 yX8_report ∈ Al := al_in (i := 1325) (by decide +kernel) (by decide +kernel)
theorem aw_1326 : Cond.instanceMethod yX8_report ∈ Al := al_in (i := 1326) (by decide +kernel) (by decide +kernel)
theorem aw_1327 : Cond.selects RX8 yX8_report yX8_report ∈ Al := al_in (i := 1327) (by decide +kernel) (by decide +kernel)
theorem aw_1328 : Cond.code yX8_report cX8_report 3 (some .int) ∈ Al := al_in (i := 1328) (by decide +kernel) (by decide +kernel)
theorem aw_1329 : Cond.methodLink RL 65 yX8_dispute ∈ Al := al_in (i := 1329) (by decide +kernel) (by decide +kernel)
theorem aw_1330 : Cond.instanceMethod yX8_dispute ∈ Al := al_in (i := 1330) (by decide +kernel) (by decide +kernel)
theorem aw_1331 : Cond.selects RX8 yX8_dispute yX8_dispute ∈ Al := al_in (i := 1331) (by decide +kernel) (by decide +kernel)
theorem aw_1332 : Cond.code yX8_dispute cX8_dispute 3 (some .int) ∈ Al := al_in (i := 1332) (by decide +kernel) (by decide +kernel)
theorem aw_1333 : Cond.methodLink RX8 262 yX7_isOpen ∈ Al := al_in (i := 1333) (by decide +kernel) (by decide +kernel)
theorem aw_1334 : Cond.methodLink RL 68 yX8_judge ∈ Al := al_in (i := 1334) (by decide +kernel) (by decide +kernel)
theorem aw_1335 : Cond.instanceMethod yX8_judge ∈ Al := al_in (i := 1335) (by decide +kernel) (by decide +kernel)
theorem aw_1336 : Cond.selects RX8 yX8_judge yX8_judge ∈ Al := al_in (i := 1336) (by decide +kernel) (by decide +kernel)
theorem aw_1337 : Cond.code yX8_judge cX8_judge 4 (some .int) ∈ Al := al_in (i := 1337) (by decide +kernel) (by decide +kernel)
theorem aw_1338 : Cond.methodLink RL 72 yX8_claim ∈ Al := al_in (i := 1338) (by decide +kernel) (by decide +kernel)
theorem aw_1339 : Cond.instanceMethod yX8_claim ∈ Al := al_in (i := 1339) (by decide +kernel) (by decide +kernel)
theorem aw_1340 : Cond.selects RX8 yX8_claim yX8_claim ∈ Al := al_in (i := 1340) (by decide +kernel) (by decide +kernel)
theorem aw_1341 : Cond.code yX8_claim cX8_claim 7 (some .int) ∈ Al := al_in (i := 1341) (by decide +kernel) (by decide +kernel)
theorem aw_1342 : Cond.classLink RX8 284 "Exportcover$Damage" ∈ Al := al_in (i := 1342) (by decide +kernel) (by decide +kernel)
theorem aw_1343 : Cond.methodLink RX8 286 yX2_init ∈ Al := al_in (i := 1343) (by decide +kernel) (by decide +kernel)
theorem aw_1344 : Cond.instanceMethod yX2_init ∈ Al := al_in (i := 1344) (by decide +kernel) (by decide +kernel)
theorem aw_1345 : Cond.code yX2_init cX2_init 4 none ∈ Al := al_in (i := 1345) (by decide +kernel) (by decide +kernel)
theorem aw_1346 : Cond.methodLink RX2 1 objectInit ∈ Al := al_in (i := 1346) (by decide +kernel) (by decide +kernel)
theorem aw_1347 : Cond.fieldLink RX2 7 "Exportcover$Damage" "loss" "I" ∈ Al := al_in (i := 1347) (by decide +kernel) (by decide +kernel)
theorem aw_1348 : Cond.fieldLink RX7 115 "Exportcover$Damage" "loss" "I" ∈ Al := al_in (i := 1348) (by decide +kernel) (by decide +kernel)
theorem aw_1349 : Cond.fieldLink RX8 582 "Exportcover$Damage" "loss" "I" ∈ Al := al_in (i := 1349) (by decide +kernel) (by decide +kernel)
theorem aw_1350 : Cond.fieldLink RX2 13 "Exportcover$Damage" "gross" "I" ∈ Al := al_in (i := 1350) (by decide +kernel) (by decide +kernel)
theorem aw_1351 : Cond.fieldLink RX8 509 "Exportcover$Damage" "gross" "I" ∈ Al := al_in (i := 1351) (by decide +kernel) (by decide +kernel)
theorem aw_1352 : Cond.fieldLink RX2 16 "Exportcover$Damage" "share" "I" ∈ Al := al_in (i := 1352) (by decide +kernel) (by decide +kernel)
theorem aw_1353 : Cond.fieldLink RX8 512 "Exportcover$Damage" "share" "I" ∈ Al := al_in (i := 1353) (by decide +kernel) (by decide +kernel)
theorem aw_1354 : Cond.fieldLink RX2 28 "Exportcover$Damage" "recovered" "I" ∈ Al := al_in (i := 1354) (by decide +kernel) (by decide +kernel)
theorem aw_1355 : Cond.fieldLink RX7 118 "Exportcover$Damage" "recovered" "I" ∈ Al := al_in (i := 1355) (by decide +kernel) (by decide +kernel)
theorem aw_1356 : Cond.fieldLink RX8 585 "Exportcover$Damage" "recovered" "I" ∈ Al := al_in (i := 1356) (by decide +kernel) (by decide +kernel)
theorem aw_1357 : Cond.fieldLink RX2 19 "Exportcover$Damage" "exporterHad" "I" ∈ Al := al_in (i := 1357) (by decide +kernel) (by decide +kernel)
theorem aw_1358 : Cond.fieldLink RX2 22 "Exportcover$Damage" "officeHad" "I" ∈ Al := al_in (i := 1358) (by decide +kernel) (by decide +kernel)
theorem aw_1359 : Cond.fieldLink RX8 515 "Exportcover$Damage" "officeHad" "I" ∈ Al := al_in (i := 1359) (by decide +kernel) (by decide +kernel)
theorem aw_1360 : Cond.fieldLink RX2 25 "Exportcover$Damage" "rivalHad" "I" ∈ Al := al_in (i := 1360) (by decide +kernel) (by decide +kernel)
theorem aw_1361 : Cond.fieldLink RX8 518 "Exportcover$Damage" "rivalHad" "I" ∈ Al := al_in (i := 1361) (by decide +kernel) (by decide +kernel)
theorem aw_1377 : Cond.methodLink RL 75 yX8_salvage ∈ Al := al_in (i := 1377) (by decide +kernel) (by decide +kernel)
theorem aw_1378 : Cond.instanceMethod yX8_salvage ∈ Al := al_in (i := 1378) (by decide +kernel) (by decide +kernel)
theorem aw_1379 : Cond.selects RX8 yX8_salvage yX8_salvage ∈ Al := al_in (i := 1379) (by decide +kernel) (by decide +kernel)
theorem aw_1380 : Cond.code yX8_salvage cX8_salvage 5 (some .int) ∈ Al := al_in (i := 1380) (by decide +kernel) (by decide +kernel)
theorem aw_1381 : Cond.methodLink RL 78 yX8_club ∈ Al := al_in (i := 1381) (by decide +kernel) (by decide +kernel)
theorem aw_1382 : Cond.instanceMethod yX8_club ∈ Al := al_in (i := 1382) (by decide +kernel) (by decide +kernel)
theorem aw_1383 : Cond.selects RX8 yX8_club yX8_club ∈ Al := al_in (i := 1383) (by decide +kernel) (by decide +kernel)
theorem aw_1384 : Cond.code yX8_club cX8_club 8 (some .int) ∈ Al := al_in (i := 1384) (by decide +kernel) (by decide +kernel)
theorem aw_1385 : Cond.methodLink RX8 317 yX7_putOff ∈ Al := al_in (i := 1385) (by decide +kernel) (by decide +kernel)
theorem aw_1386 : Cond.instanceMethod yX7_putOff ∈ Al := al_in (i := 1386) (by decide +kernel) (by decide +kernel)
theorem aw_1387 : Cond.selects RX7 yX7_putOff yX7_putOff ∈ Al := al_in (i := 1387) (by decide +kernel) (by decide +kernel)
theorem aw_1388 : Cond.code yX7_putOff cX7_putOff 4 none ∈ Al := al_in (i := 1388) (by decide +kernel) (by decide +kernel)
theorem aw_1389 : Cond.classLink RX7 96 "Exportcover$Delay" ∈ Al := al_in (i := 1389) (by decide +kernel) (by decide +kernel)
theorem aw_1390 : Cond.instantiable RX3 4 ∈ Al := al_in (i := 1390) (by decide +kernel) (by decide +kernel)
theorem aw_1391 : Cond.methodLink RX7 98 yX3_init ∈ Al := al_in (i := 1391) (by decide +kernel) (by decide +kernel)
theorem aw_1392 : Cond.instanceMethod yX3_init ∈ Al := al_in (i := 1392) (by decide +kernel) (by decide +kernel)
theorem aw_1393 : Cond.code yX3_init cX3_init 4 none ∈ Al := al_in (i := 1393) (by decide +kernel) (by decide +kernel)
theorem aw_1394 : Cond.methodLink RX3 1 objectInit ∈ Al := al_in (i := 1394) (by decide +kernel) (by decide +kernel)
theorem aw_1395 : Cond.fieldLink RX3 7 "Exportcover$Delay" "owed" "I" ∈ Al := al_in (i := 1395) (by decide +kernel) (by decide +kernel)
theorem aw_1396 : Cond.fieldLink RX8 591 "Exportcover$Delay" "owed" "I" ∈ Al := al_in (i := 1396) (by decide +kernel) (by decide +kernel)
theorem aw_1397 : Cond.fieldLink RX3 13 "Exportcover$Delay" "forgiven" "I" ∈ Al := al_in (i := 1397) (by decide +kernel) (by decide +kernel)
theorem aw_1398 : Cond.fieldLink RX7 107 "Exportcover$Delay" "forgiven" "I" ∈ Al := al_in (i := 1398) (by decide +kernel) (by decide +kernel)
theorem aw_1399 : Cond.fieldLink RX8 588 "Exportcover$Delay" "forgiven" "I" ∈ Al := al_in (i := 1399) (by decide +kernel) (by decide +kernel)
theorem aw_1400 : Cond.fieldLink RX3 16 "Exportcover$Delay" "years" "I" ∈ Al := al_in (i := 1400) (by decide +kernel) (by decide +kernel)
theorem aw_1401 : Cond.fieldLink RX3 19 "Exportcover$Delay" "times" "I" ∈ Al := al_in (i := 1401) (by decide +kernel) (by decide +kernel)
theorem aw_1411 : Cond.methodLink RL 81 yX8_inspect ∈ Al := al_in (i := 1411) (by decide +kernel) (by decide +kernel)
theorem aw_1412 : Cond.instanceMethod yX8_inspect ∈ Al := al_in (i := 1412) (by decide +kernel) (by decide +kernel)
theorem aw_1413 : Cond.selects RX8 yX8_inspect yX8_inspect ∈ Al := al_in (i := 1413) (by decide +kernel) (by decide +kernel)
theorem aw_1414 : Cond.code yX8_inspect cX8_inspect 3 (some .boolean) ∈ Al := al_in (i := 1414) (by decide +kernel) (by decide +kernel)
theorem aw_1415 : Cond.methodLink RX8 323 yX8_payBack ∈ Al := al_in (i := 1415) (by decide +kernel) (by decide +kernel)
theorem aw_1417 : Cond.instanceMethod yX8_payBack ∈ Al := al_in (i := 1417) (by decide +kernel) (by decide +kernel)
theorem aw_1418 : Cond.code yX8_payBack cX8_payBack 4 none ∈ Al := al_in (i := 1418) (by decide +kernel) (by decide +kernel)
theorem aw_1419 : Cond.methodLink RL 85 yX8_stop ∈ Al := al_in (i := 1419) (by decide +kernel) (by decide +kernel)
theorem aw_1420 : Cond.instanceMethod yX8_stop ∈ Al := al_in (i := 1420) (by decide +kernel) (by decide +kernel)
theorem aw_1421 : Cond.selects RX8 yX8_stop yX8_stop ∈ Al := al_in (i := 1421) (by decide +kernel) (by decide +kernel)
theorem aw_1422 : Cond.code yX8_stop cX8_stop 5 (some .int) ∈ Al := al_in (i := 1422) (by decide +kernel) (by decide +kernel)
theorem aw_1423 : Cond.methodLink RX8 116 yX8_since ∈ Al := al_in (i := 1423) (by decide +kernel) (by decide +kernel)
theorem aw_1425 : Cond.instanceMethod yX8_since ∈ Al := al_in (i := 1425) (by decide +kernel) (by decide +kernel)
theorem aw_1426 : Cond.code yX8_since cX8_since 3 (some .int) ∈ Al := al_in (i := 1426) (by decide +kernel) (by decide +kernel)
theorem aw_1427 : Cond.methodLink RL 88 yX8_war ∈ Al := al_in (i := 1427) (by decide +kernel) (by decide +kernel)
theorem aw_1428 : Cond.instanceMethod yX8_war ∈ Al := al_in (i := 1428) (by decide +kernel) (by decide +kernel)
theorem aw_1429 : Cond.selects RX8 yX8_war yX8_war ∈ Al := al_in (i := 1429) (by decide +kernel) (by decide +kernel)
theorem aw_1430 : Cond.code yX8_war cX8_war 5 (some .int) ∈ Al := al_in (i := 1430) (by decide +kernel) (by decide +kernel)
theorem aw_1431 : Cond.methodLink RL 91 yX8_broke ∈ Al := al_in (i := 1431) (by decide +kernel) (by decide +kernel)
theorem aw_1432 : Cond.instanceMethod yX8_broke ∈ Al := al_in (i := 1432) (by decide +kernel) (by decide +kernel)
theorem aw_1433 : Cond.selects RX8 yX8_broke yX8_broke ∈ Al := al_in (i := 1433) (by decide +kernel) (by decide +kernel)
theorem aw_1434 : Cond.code yX8_broke cX8_broke 4 (some .boolean) ∈ Al := al_in (i := 1434) (by decide +kernel) (by decide +kernel)
theorem aw_1435 : Cond.methodLink RL 94 yX8_notice ∈ Al := al_in (i := 1435) (by decide +kernel) (by decide +kernel)
theorem aw_1436 : Cond.instanceMethod yX8_notice ∈ Al := al_in (i := 1436) (by decide +kernel) (by decide +kernel)
theorem aw_1437 : Cond.selects RX8 yX8_notice yX8_notice ∈ Al := al_in (i := 1437) (by decide +kernel) (by decide +kernel)
theorem aw_1438 : Cond.code yX8_notice cX8_notice 5 (some .int) ∈ Al := al_in (i := 1438) (by decide +kernel) (by decide +kernel)
theorem aw_1439 : Cond.methodLink RL 97 yX8_link ∈ Al := al_in (i := 1439) (by decide +kernel) (by decide +kernel)
theorem aw_1440 : Cond.instanceMethod yX8_link ∈ Al := al_in (i := 1440) (by decide +kernel) (by decide +kernel)
theorem aw_1441 : Cond.selects RX8 yX8_link yX8_link ∈ Al := al_in (i := 1441) (by decide +kernel) (by decide +kernel)
theorem aw_1442 : Cond.code yX8_link cX8_link 6 (some .int) ∈ Al := al_in (i := 1442) (by decide +kernel) (by decide +kernel)
theorem aw_1443 : Cond.methodLink RL 101 yX8_cut ∈ Al := al_in (i := 1443) (by decide +kernel) (by decide +kernel)
theorem aw_1444 : Cond.instanceMethod yX8_cut ∈ Al := al_in (i := 1444) (by decide +kernel) (by decide +kernel)
theorem aw_1445 : Cond.selects RX8 yX8_cut yX8_cut ∈ Al := al_in (i := 1445) (by decide +kernel) (by decide +kernel)
theorem aw_1446 : Cond.code yX8_cut cX8_cut 7 (some .int) ∈ Al := al_in (i := 1446) (by decide +kernel) (by decide +kernel)
theorem aw_1447 : Cond.methodLink RL 125 yL_isSo ∈ Al := al_in (i := 1447) (by decide +kernel) (by decide +kernel)
theorem aw_1448 : Cond.static yL_isSo ∈ Al := al_in (i := 1448) (by decide +kernel) (by decide +kernel)
theorem aw_1449 : Cond.code yL_isSo cL_isSo 10 (some .boolean) ∈ Al := al_in (i := 1449) (by decide +kernel) (by decide +kernel)
theorem aw_1450 : Cond.methodLink RL 137 yX8_ofExporter ∈ Al := al_in (i := 1450) (by decide +kernel) (by decide +kernel)
theorem aw_1451 : Cond.instanceMethod yX8_ofExporter ∈ Al := al_in (i := 1451) (by decide +kernel) (by decide +kernel)
theorem aw_1452 : Cond.selects RX8 yX8_ofExporter yX8_ofExporter ∈ Al := al_in (i := 1452) (by decide +kernel) (by decide +kernel)
theorem aw_1453 : Cond.code yX8_ofExporter cX8_ofExporter 4 (some .int) ∈ Al := al_in (i := 1453) (by decide +kernel) (by decide +kernel)
theorem aw_1454 : Cond.methodLink RL 140 yX8_ofBuyer ∈ Al := al_in (i := 1454) (by decide +kernel) (by decide +kernel)
theorem aw_1455 : Cond.instanceMethod yX8_ofBuyer ∈ Al := al_in (i := 1455) (by decide +kernel) (by decide +kernel)
theorem aw_1456 : Cond.selects RX8 yX8_ofBuyer yX8_ofBuyer ∈ Al := al_in (i := 1456) (by decide +kernel) (by decide +kernel)
theorem aw_1457 : Cond.code yX8_ofBuyer cX8_ofBuyer 4 (some .int) ∈ Al := al_in (i := 1457) (by decide +kernel) (by decide +kernel)
theorem aw_1458 : Cond.methodLink RL 143 yX8_part ∈ Al := al_in (i := 1458) (by decide +kernel) (by decide +kernel)
theorem aw_1459 : Cond.instanceMethod yX8_part ∈ Al := al_in (i := 1459) (by decide +kernel) (by decide +kernel)
theorem aw_1460 : Cond.selects RX8 yX8_part yX8_part ∈ Al := al_in (i := 1460) (by decide +kernel) (by decide +kernel)
theorem aw_1461 : Cond.code yX8_part cX8_part 5 (some .int) ∈ Al := al_in (i := 1461) (by decide +kernel) (by decide +kernel)
theorem aw_1462 : Cond.arrayClass .boolean ∈ Al := al_in (i := 1462) (by decide +kernel) (by decide +kernel)
theorem aw_1474 : Cond.selects RJ4 yJ4_length_8abf5 yJ4_length_8abf5 ∈ Al := al_in (i := 1474) (by decide +kernel) (by decide +kernel)
theorem al_obj1 : Cond.instanceMethod objectInit ∈ Al := aw_124
theorem al_obj2 : Cond.code objectInit ⟨#[0xb1]⟩ 1 none ∈ Al := aw_125
theorem al_max1 : Cond.static Lib.Math.max.name ∈ Al := aw_563
theorem al_max2 : Cond.code Lib.Math.max.name Lib.Math.max.code 2 (some .int) ∈ Al := aw_564
theorem al_min1 : Cond.static Lib.Math.min.name ∈ Al := aw_234
theorem al_min2 : Cond.code Lib.Math.min.name Lib.Math.min.code 2 (some .int) ∈ Al := aw_235
theorem al_math : Cond.initialized "java/lang/Math" ∈ Al := aw_67
theorem al_arr_int : Cond.arrayClass .int ∈ Al := aw_848
theorem al_arr_boolean : Cond.arrayClass .boolean ∈ Al := aw_1462
theorem al_arr_byte : Cond.arrayClass .byte ∈ Al := aw_169
end PWD
end
section
section PWE
/-- words that ride in the world -/
def Nwl : List Cond := [Cond.castable "java/lang/IllegalStateException" "java/lang/IllegalStateException", Cond.castable "java/lang/IndexOutOfBoundsException" "java/lang/IndexOutOfBoundsException", Cond.methodLinkNest RX8 30 yX1_init "Exportcover", Cond.arrayOver (.object "java/lang/Object"), Cond.methodLinkNest RX4 9 yX1_init "Exportcover", Cond.methodLinkNest RX0 11 yX1_init "Exportcover", Cond.castable RX8 "java/lang/Object", Cond.castable RJx4a65c "java/lang/Object", Cond.castable RX1 "java/lang/Object", Cond.castable RX5 "java/lang/Object", Cond.castable RX4 "java/lang/Object", Cond.castable RX0 "java/lang/Object", Cond.castable RX6 "java/lang/Object", Cond.castable RX7 "java/lang/Object", Cond.castable RX2 "java/lang/Object", Cond.castable RX3 "java/lang/Object", Cond.castable RJ4 "java/lang/Object"]
theorem nw_175 : Cond.castable "java/lang/IllegalStateException" "java/lang/IllegalStateException" ∈ Nwl := List.mem_of_getElem? (i := 0) rfl
theorem nw_281 : Cond.castable "java/lang/IndexOutOfBoundsException" "java/lang/IndexOutOfBoundsException" ∈ Nwl := List.mem_of_getElem? (i := 1) rfl
theorem nw_893 : Cond.methodLinkNest RX8 30 yX1_init "Exportcover" ∈ Nwl := List.mem_of_getElem? (i := 2) rfl
theorem nw_1042 : Cond.arrayOver (.object "java/lang/Object") ∈ Nwl := List.mem_of_getElem? (i := 3) rfl
theorem nw_1056 : Cond.methodLinkNest RX4 9 yX1_init "Exportcover" ∈ Nwl := List.mem_of_getElem? (i := 4) rfl
theorem nw_1092 : Cond.methodLinkNest RX0 11 yX1_init "Exportcover" ∈ Nwl := List.mem_of_getElem? (i := 5) rfl
theorem nw_1477 : Cond.castable RX8 "java/lang/Object" ∈ Nwl := List.mem_of_getElem? (i := 6) rfl
theorem nw_1478 : Cond.castable RJx4a65c "java/lang/Object" ∈ Nwl := List.mem_of_getElem? (i := 7) rfl
theorem nw_1479 : Cond.castable RX1 "java/lang/Object" ∈ Nwl := List.mem_of_getElem? (i := 8) rfl
theorem nw_1482 : Cond.castable RX5 "java/lang/Object" ∈ Nwl := List.mem_of_getElem? (i := 9) rfl
theorem nw_1483 : Cond.castable RX4 "java/lang/Object" ∈ Nwl := List.mem_of_getElem? (i := 10) rfl
theorem nw_1485 : Cond.castable RX0 "java/lang/Object" ∈ Nwl := List.mem_of_getElem? (i := 11) rfl
theorem nw_1486 : Cond.castable RX6 "java/lang/Object" ∈ Nwl := List.mem_of_getElem? (i := 12) rfl
theorem nw_1487 : Cond.castable RX7 "java/lang/Object" ∈ Nwl := List.mem_of_getElem? (i := 13) rfl
theorem nw_1488 : Cond.castable RX2 "java/lang/Object" ∈ Nwl := List.mem_of_getElem? (i := 14) rfl
theorem nw_1489 : Cond.castable RX3 "java/lang/Object" ∈ Nwl := List.mem_of_getElem? (i := 15) rfl
theorem nw_1490 : Cond.castable RJ4 "java/lang/Object" ∈ Nwl := List.mem_of_getElem? (i := 16) rfl
theorem nw_use {A : Array Value} {U : State} : ∀ w ∈ Nwl, va_Nw w U → w.before A U = true := by
  intro w hw
  simp only [Nwl, List.mem_cons, List.not_mem_nil, or_false] at hw
  rcases hw with rfl | rfl | rfl | rfl | rfl | rfl | rfl | rfl | rfl | rfl | rfl | rfl | rfl | rfl | rfl | rfl | rfl <;> intro hZ <;> first | exact va_Nw.use rfl hZ | exact va_AO.use hZ
theorem nw_of {A : Array Value} {U : State} : ∀ w ∈ Nwl, w.before A U = true → va_Nw w U := by
  intro w hw
  simp only [Nwl, List.mem_cons, List.not_mem_nil, or_false] at hw
  rcases hw with rfl | rfl | rfl | rfl | rfl | rfl | rfl | rfl | rfl | rfl | rfl | rfl | rfl | rfl | rfl | rfl | rfl <;> intro hZ <;> first | exact va_Nw.of rfl hZ | exact va_AO.of hZ
theorem nw_tbl : ∀ w ∈ Nwl, w ∈ lw_tbl := by
  intro w hw
  simp only [Nwl, List.mem_cons, List.not_mem_nil, or_false] at hw
  rcases hw with rfl | rfl | rfl | rfl | rfl | rfl | rfl | rfl | rfl | rfl | rfl | rfl | rfl | rfl | rfl | rfl | rfl
  · exact List.mem_of_getElem? (i := 175) (by decide +kernel)
  · exact List.mem_of_getElem? (i := 281) (by decide +kernel)
  · exact List.mem_of_getElem? (i := 893) (by decide +kernel)
  · exact List.mem_of_getElem? (i := 1042) (by decide +kernel)
  · exact List.mem_of_getElem? (i := 1056) (by decide +kernel)
  · exact List.mem_of_getElem? (i := 1092) (by decide +kernel)
  · exact List.mem_of_getElem? (i := 1477) (by decide +kernel)
  · exact List.mem_of_getElem? (i := 1478) (by decide +kernel)
  · exact List.mem_of_getElem? (i := 1479) (by decide +kernel)
  · exact List.mem_of_getElem? (i := 1482) (by decide +kernel)
  · exact List.mem_of_getElem? (i := 1483) (by decide +kernel)
  · exact List.mem_of_getElem? (i := 1485) (by decide +kernel)
  · exact List.mem_of_getElem? (i := 1486) (by decide +kernel)
  · exact List.mem_of_getElem? (i := 1487) (by decide +kernel)
  · exact List.mem_of_getElem? (i := 1488) (by decide +kernel)
  · exact List.mem_of_getElem? (i := 1489) (by decide +kernel)
  · exact List.mem_of_getElem? (i := 1490) (by decide +kernel)
theorem al_r (ws : List Cond) (ps : List Nat) (hp : ws = ps.filterMap (fun i => lw_tbl[i]?)) (h : ws.all goodWord = true) : ∀ w ∈ ws, w ∈ Al := by
  intro w hw
  have h1 := List.all_eq_true.mp h w hw
  rw [hp] at hw
  obtain ⟨i, -, hi⟩ := List.mem_filterMap.mp hw
  exact al_in hi h1
theorem inX8 : ∀ w ∈ u_ws RX8 TX8 14, w ∈ Al := al_r _ [916, 918, 920, 922, 924, 926, 928, 930, 932, 934, 936, 938, 940, 942] (by decide +kernel) (by decide +kernel)
theorem inX1 : ∀ w ∈ u_ws RX1 TX1 1, w ∈ Al := al_r _ [899] (by decide +kernel) (by decide +kernel)
theorem inX5 : ∀ w ∈ u_ws RX5 TX5 8, w ∈ Al := al_r _ [980, 982, 984, 986, 988, 990, 992, 994] (by decide +kernel) (by decide +kernel)
theorem inX0 : ∀ w ∈ u_ws RX0 TX0 5, w ∈ Al := al_r _ [1105, 1107, 1109, 1111, 1113] (by decide +kernel) (by decide +kernel)
theorem inX4 : ∀ w ∈ u_ws RX4 TX4 5, w ∈ Al := al_r _ [1066, 1068, 1070, 1072, 1074] (by decide +kernel) (by decide +kernel)
theorem inX6 : ∀ w ∈ u_ws RX6 TX6 7, w ∈ Al := al_r _ [1169, 1171, 1173, 1175, 1177, 1179, 1181] (by decide +kernel) (by decide +kernel)
theorem inX7 : ∀ w ∈ u_ws RX7 TX7 16, w ∈ Al := al_r _ [1241, 1243, 1245, 1247, 1249, 1251, 1253, 1255, 1257, 1259, 1261, 1263, 1265, 1267, 1269, 1271] (by decide +kernel) (by decide +kernel)
theorem inX2 : ∀ w ∈ u_ws RX2 TX2 7, w ∈ Al := al_r _ [1362, 1364, 1366, 1368, 1370, 1372, 1374] (by decide +kernel) (by decide +kernel)
theorem inX3 : ∀ w ∈ u_ws RX3 TX3 4, w ∈ Al := al_r _ [1402, 1404, 1406, 1408] (by decide +kernel) (by decide +kernel)
theorem inJx4a65c : ∀ w ∈ u_ws RJx4a65c TJx4a65c 3, w ∈ Al := al_r _ [888, 884, 886] (by decide +kernel) (by decide +kernel)
theorem inJ4 : ∀ w ∈ u_ws RJ4 TJ4 4, w ∈ Al := al_r _ [503, 505, 507, 509] (by decide +kernel) (by decide +kernel)
end PWE
end
section
section PB1b
abbrev cls : List vw_C := [(RX8, TX8, 14), (RX1, TX1, 1), (RX5, TX5, 8), (RX0, TX0, 5), (RX4, TX4, 5), (RX6, TX6, 7), (RX7, TX7, 16), (RX2, TX2, 7), (RX3, TX3, 4), (RJx4a65c, TJx4a65c, 3), (RJ4, TJ4, 4)]
abbrev tys (X : Xt) : List (ClassId × FieldType) := [(xI X, .int), (xO X, .object "java/lang/Object"), (xB X, .byte), (xZ X, .boolean)]
/-- the cell at a, as K, F, G have it -/
def ce (X : Xt) (K : Kt) (F : Ft) (G : Gt) (a : Nat) : va_E :=
  if (K a).1 = 1 then .inr (0, [va_rf (G a 0), va_rf (G a 1), va_rf (G a 2), va_rf (G a 3), va_rf (G a 4), va_rf (G a 5), va_rf (G a 6), va_rf (G a 7), va_rf (G a 8), .int (F a 9), .int (F a 10), .int (F a 11), .int (F a 12), .int (F a 13)]) else
  if (K a).1 = 2 then .inr (1, [.int (F a 0)]) else
  if (K a).1 = 3 then .inr (2, [.int (F a 0), .int (F a 1), .int (F a 2), .int (F a 3), .int (F a 4), .int (F a 5), .int (F a 6), .int (F a 7)]) else
  if (K a).1 = 4 then .inr (3, [.int (F a 0), va_rf (G a 1), .int (F a 2), va_rf (G a 3), .int (F a 4)]) else
  if (K a).1 = 5 then .inr (4, [.int (F a 0), va_rf (G a 1), .int (F a 2), .int (F a 3), .int (F a 4)]) else
  if (K a).1 = 6 then .inr (5, [.int (F a 0), va_rf (G a 1), .int (F a 2), .int (F a 3), .int (F a 4), va_rf (G a 5), .int (F a 6)]) else
  if (K a).1 = 7 then .inr (6, [va_rf (G a 0), va_rf (G a 1), .int (F a 2), .int (F a 3), .int (F a 4), .int (F a 5), .int (F a 6), .int (F a 7), .int (F a 8), .int (F a 9), .int (F a 10), .int (F a 11), .int (F a 12), .int (F a 13), va_rf (G a 14), va_rf (G a 15)]) else
  if (K a).1 = 8 then .inr (7, [.int (F a 0), .int (F a 1), .int (F a 2), .int (F a 3), .int (F a 4), .int (F a 5), .int (F a 6)]) else
  if (K a).1 = 9 then .inr (8, [.int (F a 0), .int (F a 1), .int (F a 2), .int (F a 3)]) else
  if (K a).1 = 10 then .inr (9, [.int (F a 0), va_rf (G a 1), .int (nI (K a).2)]) else
  if (K a).1 = 11 then .inr (10, [va_rf (G a 0), .int (F a 1), .int (F a 2), .int (F a 3)]) else
  if (K a).1 = 20 then .inl (xI X, (K a).2, .inl (F a)) else
  if (K a).1 = 21 then .inl (xO X, (K a).2, .inr (.inr (.inr (.inr (G a))))) else
  if (K a).1 = 22 then .inl (xB X, (K a).2, .inl (F a)) else .inl (xZ X, (K a).2, .inl (F a))
theorem ce_congr {X : Xt} {K K' : Kt} {F F' : Ft} {G G' : Gt} {a : Nat} (h1 : K' a = K a) (h2 : F' a = F a) (h3 : G' a = G a) : ce X K' F' G' a = ce X K F G a := by
  unfold ce
  rw [h1, h2, h3]
theorem ce_1 {X : Xt} {K : Kt} {F : Ft} {G : Gt} {a : Nat} (h : (K a).1 = 1) : ce X K F G a = .inr (0, [va_rf (G a 0), va_rf (G a 1), va_rf (G a 2), va_rf (G a 3), va_rf (G a 4), va_rf (G a 5), va_rf (G a 6), va_rf (G a 7), va_rf (G a 8), .int (F a 9), .int (F a 10), .int (F a 11), .int (F a 12), .int (F a 13)]) := by simp [ce, h]
theorem ce_2 {X : Xt} {K : Kt} {F : Ft} {G : Gt} {a : Nat} (h : (K a).1 = 2) : ce X K F G a = .inr (1, [.int (F a 0)]) := by simp [ce, h]
theorem ce_3 {X : Xt} {K : Kt} {F : Ft} {G : Gt} {a : Nat} (h : (K a).1 = 3) : ce X K F G a = .inr (2, [.int (F a 0), .int (F a 1), .int (F a 2), .int (F a 3), .int (F a 4), .int (F a 5), .int (F a 6), .int (F a 7)]) := by simp [ce, h]
theorem ce_4 {X : Xt} {K : Kt} {F : Ft} {G : Gt} {a : Nat} (h : (K a).1 = 4) : ce X K F G a = .inr (3, [.int (F a 0), va_rf (G a 1), .int (F a 2), va_rf (G a 3), .int (F a 4)]) := by simp [ce, h]
theorem ce_5 {X : Xt} {K : Kt} {F : Ft} {G : Gt} {a : Nat} (h : (K a).1 = 5) : ce X K F G a = .inr (4, [.int (F a 0), va_rf (G a 1), .int (F a 2), .int (F a 3), .int (F a 4)]) := by simp [ce, h]
theorem ce_6 {X : Xt} {K : Kt} {F : Ft} {G : Gt} {a : Nat} (h : (K a).1 = 6) : ce X K F G a = .inr (5, [.int (F a 0), va_rf (G a 1), .int (F a 2), .int (F a 3), .int (F a 4), va_rf (G a 5), .int (F a 6)]) := by simp [ce, h]
theorem ce_7 {X : Xt} {K : Kt} {F : Ft} {G : Gt} {a : Nat} (h : (K a).1 = 7) : ce X K F G a = .inr (6, [va_rf (G a 0), va_rf (G a 1), .int (F a 2), .int (F a 3), .int (F a 4), .int (F a 5), .int (F a 6), .int (F a 7), .int (F a 8), .int (F a 9), .int (F a 10), .int (F a 11), .int (F a 12), .int (F a 13), va_rf (G a 14), va_rf (G a 15)]) := by simp [ce, h]
theorem ce_8 {X : Xt} {K : Kt} {F : Ft} {G : Gt} {a : Nat} (h : (K a).1 = 8) : ce X K F G a = .inr (7, [.int (F a 0), .int (F a 1), .int (F a 2), .int (F a 3), .int (F a 4), .int (F a 5), .int (F a 6)]) := by simp [ce, h]
theorem ce_9 {X : Xt} {K : Kt} {F : Ft} {G : Gt} {a : Nat} (h : (K a).1 = 9) : ce X K F G a = .inr (8, [.int (F a 0), .int (F a 1), .int (F a 2), .int (F a 3)]) := by simp [ce, h]
theorem ce_10 {X : Xt} {K : Kt} {F : Ft} {G : Gt} {a : Nat} (h : (K a).1 = 10) : ce X K F G a = .inr (9, [.int (F a 0), va_rf (G a 1), .int (nI (K a).2)]) := by simp [ce, h]
theorem ce_11 {X : Xt} {K : Kt} {F : Ft} {G : Gt} {a : Nat} (h : (K a).1 = 11) : ce X K F G a = .inr (10, [va_rf (G a 0), .int (F a 1), .int (F a 2), .int (F a 3)]) := by simp [ce, h]
theorem ce_20 {X : Xt} {K : Kt} {F : Ft} {G : Gt} {a : Nat} (h : (K a).1 = 20) : ce X K F G a = .inl (xI X, (K a).2, .inl (F a)) := by simp [ce, h]
theorem ce_21 {X : Xt} {K : Kt} {F : Ft} {G : Gt} {a : Nat} (h : (K a).1 = 21) : ce X K F G a = .inl (xO X, (K a).2, .inr (.inr (.inr (.inr (G a))))) := by simp [ce, h]
theorem ce_22 {X : Xt} {K : Kt} {F : Ft} {G : Gt} {a : Nat} (h : (K a).1 = 22) : ce X K F G a = .inl (xB X, (K a).2, .inl (F a)) := by simp [ce, h]
theorem ce_23 {X : Xt} {K : Kt} {F : Ft} {G : Gt} {a : Nat} (h : (K a).1 = 23) : ce X K F G a = .inl (xZ X, (K a).2, .inl (F a)) := by simp [ce, h]
def Aft (X : Xt) : Nat → Prop := fun q => xb X ≤ q
/-- the heap as K, F, G have it: n cells in all -/
def Hd (X : Xt) (n : Nat) (K : Kt) (F : Ft) (G : Gt) (H : Heap) : Prop :=
  H.size = n ∧ xb X ≤ n ∧ (∀ a, (K a).1 ≠ 0 → va_at (xD X) cls (a, ce X K F G a) H) ∧ ∀ a, (K a).1 ≠ 0 → xb X ≤ a ∨ K a = (21, 0)
theorem Hd.one {X : Xt} {n : Nat} {K : Kt} {F : Ft} {G : Gt} {H : Heap} (h : Hd X n K F G H) {a : Nat} (ha : (K a).1 ≠ 0) {e : va_E} (he : ce X K F G a = e) : va_P (xD X) cls [(a, e)] H := by
  intro k q hq
  cases k with
  | zero => cases hq; rw [← he]; exact h.2.2.1 a ha
  | succ k => simp at hq
theorem Hd.lt {X : Xt} {n : Nat} {K : Kt} {F : Ft} {G : Gt} {H : Heap} (h : Hd X n K F G H) {a : Nat} (ha : (K a).1 ≠ 0) : a < n := by
  have h1 := (h.2.2.1 a ha).lt
  rw [h.1] at h1
  exact h1
theorem Hd.fresh {X : Xt} {n : Nat} {K : Kt} {F : Ft} {G : Gt} {H : Heap} (h : Hd X n K F G H) : (K n).1 = 0 := by
  by_cases q : (K n).1 = 0
  · exact q
  · exact absurd (h.lt q) (Nat.lt_irrefl _)
theorem Hd.base {X : Xt} {n : Nat} {K : Kt} {F : Ft} {G : Gt} {H : Heap} (h : Hd X n K F G H) {a : Nat} (ha : (K a).1 ≠ 0) (hk : K a ≠ (21, 0)) : xb X ≤ a := (h.2.2.2 a ha).elim id (fun q => absurd q hk)
theorem Hd.put {X : Xt} {n : Nat} {K K' : Kt} {F F' : Ft} {G G' : Gt} {H H1 : Heap} (h : Hd X n K F G H) {a : Nat} (hb : xb X ≤ a) (hz : H1.size = H.size) (ho : ∀ q, q ≠ a → H1[q]? = H[q]?)
    (hK : ∀ x, x ≠ a → K' x = K x ∧ F' x = F x ∧ G' x = G x) {e : va_E} (he : ce X K' F' G' a = e) (hat : va_at (xD X) cls (a, e) H1) : Hd X n K' F' G' H1 := by
  refine ⟨hz.trans h.1, h.2.1, fun x hx => ?_, fun x hx => ?_⟩
  · by_cases hxa : x = a
    · subst hxa
      rw [he]
      exact hat
    · obtain ⟨k1, k2, k3⟩ := hK x hxa
      rw [ce_congr k1 k2 k3]
      rw [k1] at hx
      exact (h.2.2.1 x hx).kept (ho x hxa)
  · by_cases hxa : x = a
    · subst hxa
      exact Or.inl hb
    · obtain ⟨k1, k2, k3⟩ := hK x hxa
      rw [k1] at hx ⊢
      exact h.2.2.2 x hx
theorem Hd.push {X : Xt} {n : Nat} {K K' : Kt} {F F' : Ft} {G G' : Gt} {H H1 : Heap} (h : Hd X n K F G H) (hz : H1.size = n + 1) (ho : ∀ q, q < n → H1[q]? = H[q]?)
    (hK : ∀ x, x ≠ n → K' x = K x ∧ F' x = F x ∧ G' x = G x) {e : va_E} (he : ce X K' F' G' n = e) (hat : va_at (xD X) cls (n, e) H1) : Hd X (n + 1) K' F' G' H1 := by
  refine ⟨hz, Nat.le_succ_of_le h.2.1, fun x hx => ?_, fun x hx => ?_⟩
  · by_cases hxa : x = n
    · subst hxa
      rw [he]
      exact hat
    · obtain ⟨k1, k2, k3⟩ := hK x hxa
      rw [ce_congr k1 k2 k3]
      rw [k1] at hx
      exact (h.2.2.1 x hx).kept (ho x (h.lt hx))
  · by_cases hxa : x = n
    · subst hxa
      exact Or.inl h.2.1
    · obtain ⟨k1, k2, k3⟩ := hK x hxa
      rw [k1] at hx ⊢
      exact h.2.2.2 x hx
/-- a cell that is none of ours comes -/
theorem Hd.skip {X : Xt} {n n' : Nat} {K : Kt} {F : Ft} {G : Gt} {H H1 : Heap} (h : Hd X n K F G H) (hz : H1.size = n') (hn : n ≤ n') (ho : ∀ q, q < n → H1[q]? = H[q]?) : Hd X n' K F G H1 :=
  ⟨hz, Nat.le_trans h.2.1 hn, fun x hx => (h.2.2.1 x hx).kept (ho x (h.lt hx)), h.2.2.2⟩
theorem nw_warm {s U : State} (hW : s.WarmedH U.vm) : ∀ w ∈ Nwl, va_Nw w s → va_Nw w U := by
  intro w hw
  simp only [Nwl, List.mem_cons, List.not_mem_nil, or_false] at hw
  rcases hw with rfl | rfl | rfl | rfl | rfl | rfl | rfl | rfl | rfl | rfl | rfl | rfl | rfl | rfl | rfl | rfl | rfl <;> intro hZ <;> first | exact va_Nw.warmC hW hZ | exact va_Nw.warmM hW hZ | exact va_AO.moved hW.alike hZ
/-- the statics that nobody writes -/
def Zs (X : Xt) (U : State) : Prop :=
  (∀ w ∈ Nwl, va_Nw w U) ∧ va_Nc "java/lang/IndexOutOfBoundsException" "java/lang/IllegalStateException" U ∧
  va_Z "java/util/ArrayList" "DEFAULTCAPACITY_EMPTY_ELEMENTDATA" "[Ljava/lang/Object;" (.ref (xz X)) (Aft X) U U.heap ∧ (vx_Zq Bundle.tN "UNASSIGNED_STACK" Bundle.steD (Aft X) U U.heap ∧ vx_Zq Bundle.tN "SUPPRESSED_SENTINEL" Bundle.listD (Aft X) U U.heap)
theorem Zs.moved {X : Xt} {s U : State} {H : Heap} {locs : List Loc} (h : Zs X s) (hW : s.WarmedH U.vm) (hS : va_S (Aft X) s.heap H locs) (hU : U.heap = H) : Zs X U := by
  have hk : ∀ a : Nat, a < s.heap.size → ¬ Aft X a → H[a]? = s.heap[a]? := hS.2.1
  have hvm := hW.alike
  obtain ⟨z0, z1, z2, z3, z4⟩ := h
  refine ⟨fun w hw => nw_warm hW w hw (z0 w hw), z1.moved hvm, ?_, ?_, ?_⟩
  · rw [hU]; exact va_Z.moved hvm (z2.kept hk)
  · rw [hU]; exact vx_Zq.moved hvm (z3.kept hk)
  · rw [hU]; exact vx_Zq.moved hvm (z4.kept hk)
abbrev KX (X : Xt) (U : State) : Prop := va_K (xD X) cls (tys X) U
/-- the world of every contract -/
def Wd (X : Xt) (n : Nat) (K : Kt) (F : Ft) (G : Gt) (U : State) : Prop := Hd X n K F G U.heap ∧ KX X U ∧ Zs X U
theorem Wd.calling {X : Xt} {n : Nat} {K : Kt} {F : Ft} {G : Gt} {U : State} {g : JFrame} {mk : MethodId} {a : Array Value} (h : Wd X n K F G U) : Wd X n K F G (U.calling g mk a) := h
def QW (X : Xt) (o : Option Value) (n : Nat) (K : Kt) (F : Ft) (G : Gt) : Array Value → State → Outcome → State → Prop := fun _ st oc t => oc = .returned o ∧ Wd X n K F G t ∧ va_F (Aft X) st t
/-- a contract: y, called with As in the world (n, K, F, G), answers o and leaves the world (n', K', F', G') -/
def Mw (X : Xt) (l : Launch) (y : MethodName) (bytes : ByteArray) (maxL : Nat) (ret : Option FieldType) (fr lo mc ms : Nat) (As : List Value) (n : Nat) (K : Kt) (F : Ft) (G : Gt) (o : Option Value) (n' : Nat) (K' : Kt) (F' : Ft) (G' : Gt) : Prop :=
  Met l y (wl y bytes maxL ret) { frames := fr, cells := mc, slots := ms, locals := lo } (va_Pc As (Wd X n K F G)) (QW X o n' K' F' G') mc ms (Aft X)
/-- what holds all through a method's body -/
def Cx (X : Xt) (p : Program) (s : State) (m : MethodId) (args : Array Value) (meth : Method) (c : Code) (own : String) (cc : ByteArray) (nL : Nat) (ret : Option FieldType) : Prop :=
  p.tables.exec = Jvm.exec ∧ c.code = cc ∧ c.maxLocals = nL ∧ meth.sig.returnType = ret ∧ meth.locks = false ∧ s.vm.findClass own = some m.cls ∧ (∀ w ∈ Al, w.before args s = true) ∧ KX X s ∧ Zs X s ∧ xb X ≤ s.heap.size
section PB2
variable {X : Xt} {p : Program} {l : Launch} {e : Env} {R : Room} {s : State} {m : MethodId} {args : Array Value} {below : List Frame} {meth : Method} {c : Code} {own : String} {cc : ByteArray} {nL : Nat} {ret : Option FieldType}
theorem Cx.hx (h : Cx X p s m args meth c own cc nL ret) : p.tables.exec = Jvm.exec := h.1
theorem Cx.hb (h : Cx X p s m args meth c own cc nL ret) : c.code = cc := h.2.1
theorem Cx.hml (h : Cx X p s m args meth c own cc nL ret) : c.maxLocals = nL := h.2.2.1
theorem Cx.hr (h : Cx X p s m args meth c own cc nL ret) : meth.sig.returnType = ret := h.2.2.2.1
theorem Cx.hlk (h : Cx X p s m args meth c own cc nL ret) : meth.locks = false := h.2.2.2.2.1
theorem Cx.hown (h : Cx X p s m args meth c own cc nL ret) : s.vm.findClass own = some m.cls := h.2.2.2.2.2.1
theorem Cx.hts (h : Cx X p s m args meth c own cc nL ret) : ∀ w ∈ Al, w.before args s = true := h.2.2.2.2.2.2.1
theorem Cx.hK (h : Cx X p s m args meth c own cc nL ret) : KX X s := h.2.2.2.2.2.2.2.1
theorem Cx.hZ (h : Cx X p s m args meth c own cc nL ret) : Zs X s := h.2.2.2.2.2.2.2.2.1
theorem Cx.hbs (h : Cx X p s m args meth c own cc nL ret) : xb X ≤ s.heap.size := h.2.2.2.2.2.2.2.2.2
theorem Cx.nw (h : Cx X p s m args meth c own cc nL ret) : ∀ w ∈ Nwl, w.before args s = true := fun w hw => nw_use w hw (h.hZ.1 w hw)
theorem Cx.fix (h : Cx X p s m args meth c own cc nL ret) : CallFix p m c cc nL s args Al own := ⟨h.hx, h.hb, h.hml, h.hown, h.hts⟩
/-- the judgment of the walks: in the world (n, K, F, G), with locals lv and stack st at pc, it comes to Q -/
def V (X : Xt) (nL : Nat) (p : Program) (l : Launch) (e : Env) (R : Room) (s : State) (m : MethodId) (args : Array Value) (below : List Frame) (meth : Method) (c : Code) (Q : State → Prop) (cells slots n : Nat) (K : Kt) (F : Ft) (G : Gt) (lv : List (Nat × Value)) (pc : Nat) (st : List Value) : Prop :=
  ∀ (H : Heap) (locs : List Loc) (ls : Array Slot), Hd X n K F G H → va_S (Aft X) s.heap H locs → lv_has ls nL lv → W p l e R s m args below meth c H locs cells slots Q (F0 m pc ls st)
theorem Wd.of {n : Nat} {K : Kt} {F : Ft} {G : Gt} {H : Heap} {locs : List Loc} {U : State} (hC : Cx X p s m args meth c own cc nL ret) (hH : Hd X n K F G H) (hS : va_S (Aft X) s.heap H locs) (hU : U.heap = H) (hW : s.WarmedH U.vm) : Wd X n K F G U :=
  ⟨by rw [hU]; exact hH, va_K.moved hW.alike hC.hK, hC.hZ.moved hW hS hU⟩
/-- a contract out of a walk of the body -/
theorem Mw.of {y : MethodName} {bytes : ByteArray} {maxL fr lo mc ms : Nat} {As : List Value} {n n' : Nat} {K K' : Kt} {F F' : Ft} {G G' : Gt} {o : Option Value} {lv : List (Nat × Value)} (hy : plainName y.cls = true) (hlen : (lg_sl As).length ≤ maxL) (hlv : lv_args 0 As = lv)
    (k : ∀ (p : Program) (e : Env) (s : State) (m : MethodId) (args : Array Value) (below : List Frame) (meth : Method) (c : Code) (Q : State → Prop), Cx X p s m args meth c y.cls bytes maxL ret → meth.name = y.name → Q = MQ below (QW X o n' K' F' G') args s mc ms (Aft X) →
      V X maxL p l e { frames := fr, cells := mc, slots := ms, locals := lo } s m args below meth c Q 0 0 n K F G lv 0 []) : Mw X l y bytes maxL ret fr lo mc ms As n K F G o n' K' F' G' := by
  refine Met.ofW (cc := bytes) (maxL := maxL) (ret := ret) hy rfl ?_
  intro p e s m args below meth c s₁ B hml hv
  obtain ⟨rfl, hW⟩ := hv
  have hts := atoms_spec (ws := wl y bytes maxL ret) B.pre
  have hC : Cx X p s m As.toArray meth c y.cls bytes maxL ret := ⟨B.exec, B.bytes, hml, B.returns, B.notSynchronized, findClass_of_methodNamed B.named, fun w h => hts w (List.mem_cons_of_mem _ h), hW.2.1, hW.2.2, Nat.le_trans hW.1.2.1 (Nat.le_of_eq hW.1.1.symm)⟩
  have hl := lv_entry As (n := maxL) hlen
  rw [hlv] at hl
  rw [lg_entry_eq]
  exact k p e s m _ below meth c _ hC (name_of_methodNamed B.named B.method).1 rfl s.heap [] _ hW.1 va_S.rf hl
end PB2
end PB1b
section PB3
variable {X : Xt} {p : Program} {l : Launch} {e : Env} {R : Room} {s : State} {m : MethodId} {args : Array Value} {below : List Frame} {meth : Method} {c : Code} {own : String} {cc : ByteArray} {nL : Nat} {ret : Option FieldType}
variable {Q : State → Prop} {cells slots n : Nat} {K : Kt} {F : Ft} {G : Gt} {lv lv' : List (Nat × Value)} {pc : Nat} {st : List Value}
theorem v_iconst (hC : Cx X p s m args meth c own cc nL ret) {z : Int} {v : Int32} (hdg : decode cc pc = .ok (.iconst z, 1)) (hv : Int32.ofInt z = v) (k : V X nL p l e R s m args below meth c Q cells slots n K F G lv (pc + 1) (.int v :: st)) : V X nL p l e R s m args below meth c Q cells slots n K F G lv pc st := fun H locs ls h1 h2 h3 => lv_iconst hC.hx hC.hb hdg hv (k H locs ls h1 h2 h3)
theorem v_bipush (hC : Cx X p s m args meth c own cc nL ret) {z : Int} {v : Int32} (hdg : decode cc pc = .ok (.bipush z, 2)) (hv : (Int8.ofInt z).toInt32 = v) (k : V X nL p l e R s m args below meth c Q cells slots n K F G lv (pc + 2) (.int v :: st)) : V X nL p l e R s m args below meth c Q cells slots n K F G lv pc st := fun H locs ls h1 h2 h3 => lv_bipush hC.hx hC.hb hdg hv (k H locs ls h1 h2 h3)
theorem v_sipush (hC : Cx X p s m args meth c own cc nL ret) {z : Int} {v : Int32} (hdg : decode cc pc = .ok (.sipush z, 3)) (hv : (Int16.ofInt z).toInt32 = v) (k : V X nL p l e R s m args below meth c Q cells slots n K F G lv (pc + 3) (.int v :: st)) : V X nL p l e R s m args below meth c Q cells slots n K F G lv pc st := fun H locs ls h1 h2 h3 => lv_sipush hC.hx hC.hb hdg hv (k H locs ls h1 h2 h3)
theorem v_lconst (hC : Cx X p s m args meth c own cc nL ret) {z : Fin 2} {v : Int64} (hdg : decode cc pc = .ok (.lconst z, 1)) (hv : Int64.ofNat (z : Nat) = v) (k : V X nL p l e R s m args below meth c Q cells slots n K F G lv (pc + 1) (.long v :: st)) : V X nL p l e R s m args below meth c Q cells slots n K F G lv pc st := fun H locs ls h1 h2 h3 => lv_lconst hC.hx hC.hb hdg hv (k H locs ls h1 h2 h3)
theorem v_dconst0 (hC : Cx X p s m args meth c own cc nL ret)  (hdg : decode cc pc = .ok (.dconst 0, 1)) (k : V X nL p l e R s m args below meth c Q cells slots n K F G lv (pc + 1) (.double 0 :: st)) : V X nL p l e R s m args below meth c Q cells slots n K F G lv pc st := fun H locs ls h1 h2 h3 => lv_dconst0 hC.hx hC.hb hdg (k H locs ls h1 h2 h3)
theorem v_dconst1 (hC : Cx X p s m args meth c own cc nL ret)  (hdg : decode cc pc = .ok (.dconst 1, 1)) (k : V X nL p l e R s m args below meth c Q cells slots n K F G lv (pc + 1) (.double 4607182418800017408 :: st)) : V X nL p l e R s m args below meth c Q cells slots n K F G lv pc st := fun H locs ls h1 h2 h3 => lv_dconst1 hC.hx hC.hb hdg (k H locs ls h1 h2 h3)
theorem v_null (hC : Cx X p s m args meth c own cc nL ret)  (hdg : decode cc pc = .ok (.aconst_null, 1)) (k : V X nL p l e R s m args below meth c Q cells slots n K F G lv (pc + 1) (va_rf none :: st)) : V X nL p l e R s m args below meth c Q cells slots n K F G lv pc st := fun H locs ls h1 h2 h3 => lv_null hC.hx hC.hb hdg (k H locs ls h1 h2 h3)
theorem v_ldc (hC : Cx X p s m args meth c own cc nL ret) {index : Nat} {v : Int32} (hc : Jvm.Cond.constant own index v ∈ Al) (hdg : decode cc pc = .ok (.ldc index, 2)) (k : V X nL p l e R s m args below meth c Q cells slots n K F G lv (pc + 2) (.int v :: st)) : V X nL p l e R s m args below meth c Q cells slots n K F G lv pc st := fun H locs ls h1 h2 h3 => lv_ldc hC.hx hC.hb hC.hown (hC.hts _ hc) hdg (k H locs ls h1 h2 h3)
theorem v_ldc2 (hC : Cx X p s m args meth c own cc nL ret) {index : Nat} {v : Int64} (hc : Jvm.Cond.constantLong own index v ∈ Al) (hdg : decode cc pc = .ok (.ldc2_w index, 3)) (k : V X nL p l e R s m args below meth c Q cells slots n K F G lv (pc + 3) (.long v :: st)) : V X nL p l e R s m args below meth c Q cells slots n K F G lv pc st := fun H locs ls h1 h2 h3 => lv_ldc2 hC.hx hC.hb hC.hown (hC.hts _ hc) hdg (k H locs ls h1 h2 h3)
theorem v_ldc2d (hC : Cx X p s m args meth c own cc nL ret) {index : Nat} {v : UInt64} (hc : Jvm.Cond.constantDouble own index v ∈ Al) (hdg : decode cc pc = .ok (.ldc2_w index, 3)) (k : V X nL p l e R s m args below meth c Q cells slots n K F G lv (pc + 3) (.double v :: st)) : V X nL p l e R s m args below meth c Q cells slots n K F G lv pc st := fun H locs ls h1 h2 h3 => lv_ldc2d hC.hx hC.hb hC.hown (hC.hts _ hc) hdg (k H locs ls h1 h2 h3)
theorem v_iload_n (hC : Cx X p s m args meth c own cc nL ret) {z : Fin 4} {i : Nat} {x : Int32} (hdg : decode cc pc = .ok (.iload_n z, 1)) (hi : (z : Nat) = i) (j : Nat) (hj : lv[j]? = some (i, .int x)) (k : V X nL p l e R s m args below meth c Q cells slots n K F G lv (pc + 1) (.int x :: st)) : V X nL p l e R s m args below meth c Q cells slots n K F G lv pc st := fun H locs ls h1 h2 h3 => lv_iload_n hC.hx hC.hb hdg hi (lv_at h3 j hj) (k H locs ls h1 h2 h3)
theorem v_iload (hC : Cx X p s m args meth c own cc nL ret) {i : Nat} {x : Int32} (hdg : decode cc pc = .ok (.iload i, 2)) (j : Nat) (hj : lv[j]? = some (i, .int x)) (k : V X nL p l e R s m args below meth c Q cells slots n K F G lv (pc + 2) (.int x :: st)) : V X nL p l e R s m args below meth c Q cells slots n K F G lv pc st := fun H locs ls h1 h2 h3 => lv_iload hC.hx hC.hb hdg (lv_at h3 j hj) (k H locs ls h1 h2 h3)
theorem v_istore_n (hC : Cx X p s m args meth c own cc nL ret) {z : Fin 4} {i : Nat} {x : Int32} (hdg : decode cc pc = .ok (.istore_n z, 1)) (hi : (z : Nat) = i) (hn : i < nL) (hl : (i, Value.int x) :: lv.filter (fun q => !(q.1 == i) && !(q.1 + 1 == i && q.2.category == 2)) = lv') (k : V X nL p l e R s m args below meth c Q cells slots n K F G lv' (pc + 1) st) : V X nL p l e R s m args below meth c Q cells slots n K F G lv pc (.int x :: st) := fun H locs ls h1 h2 h3 => lv_istore_n hC.hx hC.hb hdg hi h3 hn hl (fun ls1 h4 => k H locs ls1 h1 h2 h4)
theorem v_istore (hC : Cx X p s m args meth c own cc nL ret) {i : Nat} {x : Int32} (hdg : decode cc pc = .ok (.istore i, 2)) (hn : i < nL) (hl : (i, Value.int x) :: lv.filter (fun q => !(q.1 == i) && !(q.1 + 1 == i && q.2.category == 2)) = lv') (k : V X nL p l e R s m args below meth c Q cells slots n K F G lv' (pc + 2) st) : V X nL p l e R s m args below meth c Q cells slots n K F G lv pc (.int x :: st) := fun H locs ls h1 h2 h3 => lv_istore hC.hx hC.hb hdg h3 hn hl (fun ls1 h4 => k H locs ls1 h1 h2 h4)
theorem v_lload_n (hC : Cx X p s m args meth c own cc nL ret) {z : Fin 4} {i : Nat} {x : Int64} (hdg : decode cc pc = .ok (.lload_n z, 1)) (hi : (z : Nat) = i) (j : Nat) (hj : lv[j]? = some (i, .long x)) (k : V X nL p l e R s m args below meth c Q cells slots n K F G lv (pc + 1) (.long x :: st)) : V X nL p l e R s m args below meth c Q cells slots n K F G lv pc st := fun H locs ls h1 h2 h3 => lv_lload_n hC.hx hC.hb hdg hi (lv_at h3 j hj) (k H locs ls h1 h2 h3)
theorem v_lload (hC : Cx X p s m args meth c own cc nL ret) {i : Nat} {x : Int64} (hdg : decode cc pc = .ok (.lload i, 2)) (j : Nat) (hj : lv[j]? = some (i, .long x)) (k : V X nL p l e R s m args below meth c Q cells slots n K F G lv (pc + 2) (.long x :: st)) : V X nL p l e R s m args below meth c Q cells slots n K F G lv pc st := fun H locs ls h1 h2 h3 => lv_lload hC.hx hC.hb hdg (lv_at h3 j hj) (k H locs ls h1 h2 h3)
theorem v_lstore_n (hC : Cx X p s m args meth c own cc nL ret) {z : Fin 4} {i : Nat} {x : Int64} (hdg : decode cc pc = .ok (.lstore_n z, 1)) (hi : (z : Nat) = i) (hn : i + 1 < nL) (hl : (i, Value.long x) :: lv.filter (fun q => !(q.1 == i) && (!(q.1 == i + 1) && !(q.1 + 1 == i && q.2.category == 2))) = lv') (k : V X nL p l e R s m args below meth c Q cells slots n K F G lv' (pc + 1) st) : V X nL p l e R s m args below meth c Q cells slots n K F G lv pc (.long x :: st) := fun H locs ls h1 h2 h3 => lv_lstore_n hC.hx hC.hb hdg hi h3 hn hl (fun ls1 h4 => k H locs ls1 h1 h2 h4)
theorem v_lstore (hC : Cx X p s m args meth c own cc nL ret) {i : Nat} {x : Int64} (hdg : decode cc pc = .ok (.lstore i, 2)) (hn : i + 1 < nL) (hl : (i, Value.long x) :: lv.filter (fun q => !(q.1 == i) && (!(q.1 == i + 1) && !(q.1 + 1 == i && q.2.category == 2))) = lv') (k : V X nL p l e R s m args below meth c Q cells slots n K F G lv' (pc + 2) st) : V X nL p l e R s m args below meth c Q cells slots n K F G lv pc (.long x :: st) := fun H locs ls h1 h2 h3 => lv_lstore hC.hx hC.hb hdg h3 hn hl (fun ls1 h4 => k H locs ls1 h1 h2 h4)
theorem v_dload_n (hC : Cx X p s m args meth c own cc nL ret) {z : Fin 4} {i : Nat} {x : UInt64} (hdg : decode cc pc = .ok (.dload_n z, 1)) (hi : (z : Nat) = i) (j : Nat) (hj : lv[j]? = some (i, .double x)) (k : V X nL p l e R s m args below meth c Q cells slots n K F G lv (pc + 1) (.double x :: st)) : V X nL p l e R s m args below meth c Q cells slots n K F G lv pc st := fun H locs ls h1 h2 h3 => lv_dload_n hC.hx hC.hb hdg hi (lv_at h3 j hj) (k H locs ls h1 h2 h3)
theorem v_dload (hC : Cx X p s m args meth c own cc nL ret) {i : Nat} {x : UInt64} (hdg : decode cc pc = .ok (.dload i, 2)) (j : Nat) (hj : lv[j]? = some (i, .double x)) (k : V X nL p l e R s m args below meth c Q cells slots n K F G lv (pc + 2) (.double x :: st)) : V X nL p l e R s m args below meth c Q cells slots n K F G lv pc st := fun H locs ls h1 h2 h3 => lv_dload hC.hx hC.hb hdg (lv_at h3 j hj) (k H locs ls h1 h2 h3)
theorem v_dstore_n (hC : Cx X p s m args meth c own cc nL ret) {z : Fin 4} {i : Nat} {x : UInt64} (hdg : decode cc pc = .ok (.dstore_n z, 1)) (hi : (z : Nat) = i) (hn : i + 1 < nL) (hl : (i, Value.double x) :: lv.filter (fun q => !(q.1 == i) && (!(q.1 == i + 1) && !(q.1 + 1 == i && q.2.category == 2))) = lv') (k : V X nL p l e R s m args below meth c Q cells slots n K F G lv' (pc + 1) st) : V X nL p l e R s m args below meth c Q cells slots n K F G lv pc (.double x :: st) := fun H locs ls h1 h2 h3 => lv_dstore_n hC.hx hC.hb hdg hi h3 hn hl (fun ls1 h4 => k H locs ls1 h1 h2 h4)
theorem v_dstore (hC : Cx X p s m args meth c own cc nL ret) {i : Nat} {x : UInt64} (hdg : decode cc pc = .ok (.dstore i, 2)) (hn : i + 1 < nL) (hl : (i, Value.double x) :: lv.filter (fun q => !(q.1 == i) && (!(q.1 == i + 1) && !(q.1 + 1 == i && q.2.category == 2))) = lv') (k : V X nL p l e R s m args below meth c Q cells slots n K F G lv' (pc + 2) st) : V X nL p l e R s m args below meth c Q cells slots n K F G lv pc (.double x :: st) := fun H locs ls h1 h2 h3 => lv_dstore hC.hx hC.hb hdg h3 hn hl (fun ls1 h4 => k H locs ls1 h1 h2 h4)
theorem v_aload_n (hC : Cx X p s m args meth c own cc nL ret) {z : Fin 4} {i : Nat} {x : Nat} (hdg : decode cc pc = .ok (.aload_n z, 1)) (hi : (z : Nat) = i) (j : Nat) (hj : lv[j]? = some (i, .ref x)) (k : V X nL p l e R s m args below meth c Q cells slots n K F G lv (pc + 1) (.ref x :: st)) : V X nL p l e R s m args below meth c Q cells slots n K F G lv pc st := fun H locs ls h1 h2 h3 => lv_aload_n hC.hx hC.hb hdg hi (lv_at h3 j hj) (k H locs ls h1 h2 h3)
theorem v_aload (hC : Cx X p s m args meth c own cc nL ret) {i : Nat} {x : Nat} (hdg : decode cc pc = .ok (.aload i, 2)) (j : Nat) (hj : lv[j]? = some (i, .ref x)) (k : V X nL p l e R s m args below meth c Q cells slots n K F G lv (pc + 2) (.ref x :: st)) : V X nL p l e R s m args below meth c Q cells slots n K F G lv pc st := fun H locs ls h1 h2 h3 => lv_aload hC.hx hC.hb hdg (lv_at h3 j hj) (k H locs ls h1 h2 h3)
theorem v_astore_n (hC : Cx X p s m args meth c own cc nL ret) {z : Fin 4} {i : Nat} {x : Nat} (hdg : decode cc pc = .ok (.astore_n z, 1)) (hi : (z : Nat) = i) (hn : i < nL) (hl : (i, Value.ref x) :: lv.filter (fun q => !(q.1 == i) && !(q.1 + 1 == i && q.2.category == 2)) = lv') (k : V X nL p l e R s m args below meth c Q cells slots n K F G lv' (pc + 1) st) : V X nL p l e R s m args below meth c Q cells slots n K F G lv pc (.ref x :: st) := fun H locs ls h1 h2 h3 => lv_astore_n hC.hx hC.hb hdg hi h3 hn hl (fun ls1 h4 => k H locs ls1 h1 h2 h4)
theorem v_astore (hC : Cx X p s m args meth c own cc nL ret) {i : Nat} {x : Nat} (hdg : decode cc pc = .ok (.astore i, 2)) (hn : i < nL) (hl : (i, Value.ref x) :: lv.filter (fun q => !(q.1 == i) && !(q.1 + 1 == i && q.2.category == 2)) = lv') (k : V X nL p l e R s m args below meth c Q cells slots n K F G lv' (pc + 2) st) : V X nL p l e R s m args below meth c Q cells slots n K F G lv pc (.ref x :: st) := fun H locs ls h1 h2 h3 => lv_astore hC.hx hC.hb hdg h3 hn hl (fun ls1 h4 => k H locs ls1 h1 h2 h4)
theorem v_aload_nq (hC : Cx X p s m args meth c own cc nL ret) {z : Fin 4} {i : Nat} {x : Option Nat} (hdg : decode cc pc = .ok (.aload_n z, 1)) (hi : (z : Nat) = i) (j : Nat) (hj : lv[j]? = some (i, va_rf x)) (k : V X nL p l e R s m args below meth c Q cells slots n K F G lv (pc + 1) (va_rf x :: st)) : V X nL p l e R s m args below meth c Q cells slots n K F G lv pc st := by
  intro H locs ls h1 h2 h3
  cases x with
  | none => exact lv_aload_nN hC.hx hC.hb hdg hi (lv_at h3 j hj) (k H locs ls h1 h2 h3)
  | some x => exact lv_aload_n hC.hx hC.hb hdg hi (lv_at h3 j hj) (k H locs ls h1 h2 h3)
theorem v_aloadq (hC : Cx X p s m args meth c own cc nL ret) {i : Nat} {x : Option Nat} (hdg : decode cc pc = .ok (.aload i, 2)) (j : Nat) (hj : lv[j]? = some (i, va_rf x)) (k : V X nL p l e R s m args below meth c Q cells slots n K F G lv (pc + 2) (va_rf x :: st)) : V X nL p l e R s m args below meth c Q cells slots n K F G lv pc st := by
  intro H locs ls h1 h2 h3
  cases x with
  | none => exact lv_aloadN hC.hx hC.hb hdg (lv_at h3 j hj) (k H locs ls h1 h2 h3)
  | some x => exact lv_aload hC.hx hC.hb hdg (lv_at h3 j hj) (k H locs ls h1 h2 h3)
theorem v_astore_nq (hC : Cx X p s m args meth c own cc nL ret) {z : Fin 4} {i : Nat} {x : Option Nat} (hdg : decode cc pc = .ok (.astore_n z, 1)) (hi : (z : Nat) = i) (hn : i < nL) (hl : (i, va_rf x) :: lv.filter (fun q => !(q.1 == i) && !(q.1 + 1 == i && q.2.category == 2)) = lv') (k : V X nL p l e R s m args below meth c Q cells slots n K F G lv' (pc + 1) st) : V X nL p l e R s m args below meth c Q cells slots n K F G lv pc (va_rf x :: st) := by
  intro H locs ls h1 h2 h3
  cases x with
  | none => exact lv_astore_nN hC.hx hC.hb hdg hi h3 hn hl (fun ls1 h4 => k H locs ls1 h1 h2 h4)
  | some x => exact lv_astore_n hC.hx hC.hb hdg hi h3 hn hl (fun ls1 h4 => k H locs ls1 h1 h2 h4)
theorem v_astoreq (hC : Cx X p s m args meth c own cc nL ret) {i : Nat} {x : Option Nat} (hdg : decode cc pc = .ok (.astore i, 2)) (hn : i < nL) (hl : (i, va_rf x) :: lv.filter (fun q => !(q.1 == i) && !(q.1 + 1 == i && q.2.category == 2)) = lv') (k : V X nL p l e R s m args below meth c Q cells slots n K F G lv' (pc + 2) st) : V X nL p l e R s m args below meth c Q cells slots n K F G lv pc (va_rf x :: st) := by
  intro H locs ls h1 h2 h3
  cases x with
  | none => exact lv_astoreN hC.hx hC.hb hdg h3 hn hl (fun ls1 h4 => k H locs ls1 h1 h2 h4)
  | some x => exact lv_astore hC.hx hC.hb hdg h3 hn hl (fun ls1 h4 => k H locs ls1 h1 h2 h4)
theorem v_deref {o : Option Nat} {q : Nat} (h : o = some q) (k : V X nL p l e R s m args below meth c Q cells slots n K F G lv pc (.ref q :: st)) : V X nL p l e R s m args below meth c Q cells slots n K F G lv pc (va_rf o :: st) := by
  subst h
  exact k
theorem v_ifnull (hC : Cx X p s m args meth c own cc nL ret) {o : Option Nat} {off : Int} {tgt : Nat} (hdg : decode cc pc = .ok (.ifnull off, 3)) (ht : (pc : Int) + off = (tgt : Int)) (kt : o = none → V X nL p l e R s m args below meth c Q cells slots n K F G lv tgt st) (kf : ¬ o = none → V X nL p l e R s m args below meth c Q cells slots n K F G lv (pc + 3) st) : V X nL p l e R s m args below meth c Q cells slots n K F G lv pc (va_rf o :: st) := by
  intro H locs ls h1 h2 h3
  cases o with
  | none => exact lv_ifnullN hC.hx hC.hb hdg ht (kt rfl H locs ls h1 h2 h3)
  | some x => exact lv_ifnull hC.hx hC.hb hdg (kf (fun h => by cases h) H locs ls h1 h2 h3)
theorem v_ifnonnull (hC : Cx X p s m args meth c own cc nL ret) {o : Option Nat} {off : Int} {tgt : Nat} (hdg : decode cc pc = .ok (.ifnonnull off, 3)) (ht : (pc : Int) + off = (tgt : Int)) (kt : ¬ o = none → V X nL p l e R s m args below meth c Q cells slots n K F G lv tgt st) (kf : o = none → V X nL p l e R s m args below meth c Q cells slots n K F G lv (pc + 3) st) : V X nL p l e R s m args below meth c Q cells slots n K F G lv pc (va_rf o :: st) := by
  intro H locs ls h1 h2 h3
  cases o with
  | none => exact lv_ifnonnullN hC.hx hC.hb hdg (kf rfl H locs ls h1 h2 h3)
  | some x => exact lv_ifnonnull hC.hx hC.hb hdg ht (kt (fun h => by cases h) H locs ls h1 h2 h3)
theorem v_iinc (hC : Cx X p s m args meth c own cc nL ret) {i : Nat} {z : Int} {x v : Int32} (hdg : decode cc pc = .ok (.iinc i z, 3)) (j : Nat) (hj : lv[j]? = some (i, .int x)) (hv : x + Int32.ofInt z = v) (hn : i < nL) (hl : (i, Value.int v) :: lv.filter (fun q => !(q.1 == i) && !(q.1 + 1 == i && q.2.category == 2)) = lv') (k : V X nL p l e R s m args below meth c Q cells slots n K F G lv' (pc + 3) st) : V X nL p l e R s m args below meth c Q cells slots n K F G lv pc st := fun H locs ls h1 h2 h3 => lv_iinc hC.hx hC.hb hdg h3 (k := j) hj hv hn hl (fun ls1 h4 => k H locs ls1 h1 h2 h4)
theorem v_iadd (hC : Cx X p s m args meth c own cc nL ret) {x y : Int32} (hdg : decode cc pc = .ok (.iadd, 1)) (k : V X nL p l e R s m args below meth c Q cells slots n K F G lv (pc + 1) (.int (x + y) :: st)) : V X nL p l e R s m args below meth c Q cells slots n K F G lv pc (.int y :: .int x :: st) := fun H locs ls h1 h2 h3 => lv_iadd hC.hx hC.hb hdg (k H locs ls h1 h2 h3)
theorem v_isub (hC : Cx X p s m args meth c own cc nL ret) {x y : Int32} (hdg : decode cc pc = .ok (.isub, 1)) (k : V X nL p l e R s m args below meth c Q cells slots n K F G lv (pc + 1) (.int (x - y) :: st)) : V X nL p l e R s m args below meth c Q cells slots n K F G lv pc (.int y :: .int x :: st) := fun H locs ls h1 h2 h3 => lv_isub hC.hx hC.hb hdg (k H locs ls h1 h2 h3)
theorem v_imul (hC : Cx X p s m args meth c own cc nL ret) {x y : Int32} (hdg : decode cc pc = .ok (.imul, 1)) (k : V X nL p l e R s m args below meth c Q cells slots n K F G lv (pc + 1) (.int (x * y) :: st)) : V X nL p l e R s m args below meth c Q cells slots n K F G lv pc (.int y :: .int x :: st) := fun H locs ls h1 h2 h3 => lv_imul hC.hx hC.hb hdg (k H locs ls h1 h2 h3)
theorem v_iand (hC : Cx X p s m args meth c own cc nL ret) {x y : Int32} (hdg : decode cc pc = .ok (.iand, 1)) (k : V X nL p l e R s m args below meth c Q cells slots n K F G lv (pc + 1) (.int (x &&& y) :: st)) : V X nL p l e R s m args below meth c Q cells slots n K F G lv pc (.int y :: .int x :: st) := fun H locs ls h1 h2 h3 => lv_iand hC.hx hC.hb hdg (k H locs ls h1 h2 h3)
theorem v_ior (hC : Cx X p s m args meth c own cc nL ret) {x y : Int32} (hdg : decode cc pc = .ok (.ior, 1)) (k : V X nL p l e R s m args below meth c Q cells slots n K F G lv (pc + 1) (.int (x ||| y) :: st)) : V X nL p l e R s m args below meth c Q cells slots n K F G lv pc (.int y :: .int x :: st) := fun H locs ls h1 h2 h3 => lv_ior hC.hx hC.hb hdg (k H locs ls h1 h2 h3)
theorem v_ixor (hC : Cx X p s m args meth c own cc nL ret) {x y : Int32} (hdg : decode cc pc = .ok (.ixor, 1)) (k : V X nL p l e R s m args below meth c Q cells slots n K F G lv (pc + 1) (.int (x ^^^ y) :: st)) : V X nL p l e R s m args below meth c Q cells slots n K F G lv pc (.int y :: .int x :: st) := fun H locs ls h1 h2 h3 => lv_ixor hC.hx hC.hb hdg (k H locs ls h1 h2 h3)
theorem v_ishl (hC : Cx X p s m args meth c own cc nL ret) {x y : Int32} (hdg : decode cc pc = .ok (.ishl, 1)) (k : V X nL p l e R s m args below meth c Q cells slots n K F G lv (pc + 1) (.int (x <<< (y &&& 31)) :: st)) : V X nL p l e R s m args below meth c Q cells slots n K F G lv pc (.int y :: .int x :: st) := fun H locs ls h1 h2 h3 => lv_ishl hC.hx hC.hb hdg (k H locs ls h1 h2 h3)
theorem v_ishr (hC : Cx X p s m args meth c own cc nL ret) {x y : Int32} (hdg : decode cc pc = .ok (.ishr, 1)) (k : V X nL p l e R s m args below meth c Q cells slots n K F G lv (pc + 1) (.int (x >>> (y &&& 31)) :: st)) : V X nL p l e R s m args below meth c Q cells slots n K F G lv pc (.int y :: .int x :: st) := fun H locs ls h1 h2 h3 => lv_ishr hC.hx hC.hb hdg (k H locs ls h1 h2 h3)
theorem v_idiv (hC : Cx X p s m args meth c own cc nL ret) {x y : Int32} (hdg : decode cc pc = .ok (.idiv, 1)) (hne : ¬ y = 0) (k : V X nL p l e R s m args below meth c Q cells slots n K F G lv (pc + 1) (.int (x / y) :: st)) : V X nL p l e R s m args below meth c Q cells slots n K F G lv pc (.int y :: .int x :: st) := fun H locs ls h1 h2 h3 => lv_idiv hC.hx hC.hb hdg hne (k H locs ls h1 h2 h3)
theorem v_irem (hC : Cx X p s m args meth c own cc nL ret) {x y : Int32} (hdg : decode cc pc = .ok (.irem, 1)) (hne : ¬ y = 0) (k : V X nL p l e R s m args below meth c Q cells slots n K F G lv (pc + 1) (.int (x - x / y * y) :: st)) : V X nL p l e R s m args below meth c Q cells slots n K F G lv pc (.int y :: .int x :: st) := fun H locs ls h1 h2 h3 => lv_irem hC.hx hC.hb hdg hne (k H locs ls h1 h2 h3)
theorem v_ineg (hC : Cx X p s m args meth c own cc nL ret) {x : Int32} (hdg : decode cc pc = .ok (.ineg, 1)) (k : V X nL p l e R s m args below meth c Q cells slots n K F G lv (pc + 1) (.int (0 - x) :: st)) : V X nL p l e R s m args below meth c Q cells slots n K F G lv pc (.int x :: st) := fun H locs ls h1 h2 h3 => lv_ineg hC.hx hC.hb hdg (k H locs ls h1 h2 h3)
theorem v_ladd (hC : Cx X p s m args meth c own cc nL ret) {x y : Int64} (hdg : decode cc pc = .ok (.ladd, 1)) (k : V X nL p l e R s m args below meth c Q cells slots n K F G lv (pc + 1) (.long (x + y) :: st)) : V X nL p l e R s m args below meth c Q cells slots n K F G lv pc (.long y :: .long x :: st) := fun H locs ls h1 h2 h3 => lv_ladd hC.hx hC.hb hdg (k H locs ls h1 h2 h3)
theorem v_lsub (hC : Cx X p s m args meth c own cc nL ret) {x y : Int64} (hdg : decode cc pc = .ok (.lsub, 1)) (k : V X nL p l e R s m args below meth c Q cells slots n K F G lv (pc + 1) (.long (x - y) :: st)) : V X nL p l e R s m args below meth c Q cells slots n K F G lv pc (.long y :: .long x :: st) := fun H locs ls h1 h2 h3 => lv_lsub hC.hx hC.hb hdg (k H locs ls h1 h2 h3)
theorem v_lmul (hC : Cx X p s m args meth c own cc nL ret) {x y : Int64} (hdg : decode cc pc = .ok (.lmul, 1)) (k : V X nL p l e R s m args below meth c Q cells slots n K F G lv (pc + 1) (.long (x * y) :: st)) : V X nL p l e R s m args below meth c Q cells slots n K F G lv pc (.long y :: .long x :: st) := fun H locs ls h1 h2 h3 => lv_lmul hC.hx hC.hb hdg (k H locs ls h1 h2 h3)
theorem v_land (hC : Cx X p s m args meth c own cc nL ret) {x y : Int64} (hdg : decode cc pc = .ok (.land, 1)) (k : V X nL p l e R s m args below meth c Q cells slots n K F G lv (pc + 1) (.long (x &&& y) :: st)) : V X nL p l e R s m args below meth c Q cells slots n K F G lv pc (.long y :: .long x :: st) := fun H locs ls h1 h2 h3 => lv_land hC.hx hC.hb hdg (k H locs ls h1 h2 h3)
theorem v_ldiv (hC : Cx X p s m args meth c own cc nL ret) {x y : Int64} (hdg : decode cc pc = .ok (.ldiv, 1)) (hne : ¬ y = 0) (k : V X nL p l e R s m args below meth c Q cells slots n K F G lv (pc + 1) (.long (x / y) :: st)) : V X nL p l e R s m args below meth c Q cells slots n K F G lv pc (.long y :: .long x :: st) := fun H locs ls h1 h2 h3 => lv_ldiv hC.hx hC.hb hdg hne (k H locs ls h1 h2 h3)
theorem v_i2l (hC : Cx X p s m args meth c own cc nL ret) {x : Int32} (hdg : decode cc pc = .ok (.i2l, 1)) (k : V X nL p l e R s m args below meth c Q cells slots n K F G lv (pc + 1) (.long x.toInt64 :: st)) : V X nL p l e R s m args below meth c Q cells slots n K F G lv pc (.int x :: st) := fun H locs ls h1 h2 h3 => lv_i2l hC.hx hC.hb hdg rfl (k H locs ls h1 h2 h3)
theorem v_l2i (hC : Cx X p s m args meth c own cc nL ret) {x : Int64} (hdg : decode cc pc = .ok (.l2i, 1)) (k : V X nL p l e R s m args below meth c Q cells slots n K F G lv (pc + 1) (.int x.toInt32 :: st)) : V X nL p l e R s m args below meth c Q cells slots n K F G lv pc (.long x :: st) := fun H locs ls h1 h2 h3 => lv_l2i hC.hx hC.hb hdg rfl (k H locs ls h1 h2 h3)
theorem v_i2d (hC : Cx X p s m args meth c own cc nL ret) {x : Int32} (hdg : decode cc pc = .ok (.i2d, 1)) (k : V X nL p l e R s m args below meth c Q cells slots n K F G lv (pc + 1) (.double (FP.i2d x) :: st)) : V X nL p l e R s m args below meth c Q cells slots n K F G lv pc (.int x :: st) := fun H locs ls h1 h2 h3 => lv_i2d hC.hx hC.hb hdg (k H locs ls h1 h2 h3)
theorem v_d2l (hC : Cx X p s m args meth c own cc nL ret) {x : UInt64} (hdg : decode cc pc = .ok (.d2l, 1)) (k : V X nL p l e R s m args below meth c Q cells slots n K F G lv (pc + 1) (.long (FP.d2l x) :: st)) : V X nL p l e R s m args below meth c Q cells slots n K F G lv pc (.double x :: st) := fun H locs ls h1 h2 h3 => lv_d2l hC.hx hC.hb hdg (k H locs ls h1 h2 h3)
theorem v_lcmp (hC : Cx X p s m args meth c own cc nL ret) {x y : Int64} (hdg : decode cc pc = .ok (.lcmp, 1)) (k : V X nL p l e R s m args below meth c Q cells slots n K F G lv (pc + 1) (.int (lg_cmp x y) :: st)) : V X nL p l e R s m args below meth c Q cells slots n K F G lv pc (.long y :: .long x :: st) := fun H locs ls h1 h2 h3 => W.lcmp hC.hx hC.hb hdg (k H locs ls h1 h2 h3)
theorem v_dup (hC : Cx X p s m args meth c own cc nL ret) {va : Value} (hdg : decode cc pc = .ok (.dup, 1)) (hva : va.category = 1) (k : V X nL p l e R s m args below meth c Q cells slots n K F G lv (pc + 1) (va :: va :: st)) : V X nL p l e R s m args below meth c Q cells slots n K F G lv pc (va :: st) := fun H locs ls h1 h2 h3 => lv_dup hC.hx hC.hb hdg hva (k H locs ls h1 h2 h3)
theorem v_pop (hC : Cx X p s m args meth c own cc nL ret) {va : Value} (hdg : decode cc pc = .ok (.pop, 1)) (hva : va.category = 1) (k : V X nL p l e R s m args below meth c Q cells slots n K F G lv (pc + 1) st) : V X nL p l e R s m args below meth c Q cells slots n K F G lv pc (va :: st) := fun H locs ls h1 h2 h3 => lv_pop hC.hx hC.hb hdg hva (k H locs ls h1 h2 h3)
theorem v_dup_x1 (hC : Cx X p s m args meth c own cc nL ret) {va vb : Value} (hdg : decode cc pc = .ok (.dup_x1, 1)) (hva : va.category = 1) (hvb : vb.category = 1) (k : V X nL p l e R s m args below meth c Q cells slots n K F G lv (pc + 1) (va :: vb :: va :: st)) : V X nL p l e R s m args below meth c Q cells slots n K F G lv pc (va :: vb :: st) := fun H locs ls h1 h2 h3 => lv_dup_x1 hC.hx hC.hb hdg hva hvb (k H locs ls h1 h2 h3)
theorem v_dup2 (hC : Cx X p s m args meth c own cc nL ret) {va vb : Value} (hdg : decode cc pc = .ok (.dup2, 1)) (hva : va.category = 1) (hvb : vb.category = 1) (k : V X nL p l e R s m args below meth c Q cells slots n K F G lv (pc + 1) (va :: vb :: va :: vb :: st)) : V X nL p l e R s m args below meth c Q cells slots n K F G lv pc (va :: vb :: st) := fun H locs ls h1 h2 h3 => lv_dup2_11 hC.hx hC.hb hdg hva hvb (k H locs ls h1 h2 h3)
theorem v_if_eq (hC : Cx X p s m args meth c own cc nL ret) {x : Int32} {off : Int} {tgt : Nat} (hdg : decode cc pc = .ok (.ifCond .eq off, 3)) (ht : (pc : Int) + off = (tgt : Int)) (kt : x = 0 → V X nL p l e R s m args below meth c Q cells slots n K F G lv tgt st) (kf : ¬ x = 0 → V X nL p l e R s m args below meth c Q cells slots n K F G lv (pc + 3) st) : V X nL p l e R s m args below meth c Q cells slots n K F G lv pc (.int x :: st) := fun H locs ls h1 h2 h3 => lv_if_eq hC.hx hC.hb hdg ht (fun q => kt q H locs ls h1 h2 h3) (fun q => kf q H locs ls h1 h2 h3)
theorem v_icmp_eq (hC : Cx X p s m args meth c own cc nL ret) {x y : Int32} {off : Int} {tgt : Nat} (hdg : decode cc pc = .ok (.if_icmp .eq off, 3)) (ht : (pc : Int) + off = (tgt : Int)) (kt : x = y → V X nL p l e R s m args below meth c Q cells slots n K F G lv tgt st) (kf : ¬ x = y → V X nL p l e R s m args below meth c Q cells slots n K F G lv (pc + 3) st) : V X nL p l e R s m args below meth c Q cells slots n K F G lv pc (.int y :: .int x :: st) := fun H locs ls h1 h2 h3 => lv_icmp_eq hC.hx hC.hb hdg ht (fun q => kt q H locs ls h1 h2 h3) (fun q => kf q H locs ls h1 h2 h3)
theorem v_if_ne (hC : Cx X p s m args meth c own cc nL ret) {x : Int32} {off : Int} {tgt : Nat} (hdg : decode cc pc = .ok (.ifCond .ne off, 3)) (ht : (pc : Int) + off = (tgt : Int)) (kt : ¬ x = 0 → V X nL p l e R s m args below meth c Q cells slots n K F G lv tgt st) (kf : x = 0 → V X nL p l e R s m args below meth c Q cells slots n K F G lv (pc + 3) st) : V X nL p l e R s m args below meth c Q cells slots n K F G lv pc (.int x :: st) := fun H locs ls h1 h2 h3 => lv_if_ne hC.hx hC.hb hdg ht (fun q => kt q H locs ls h1 h2 h3) (fun q => kf q H locs ls h1 h2 h3)
theorem v_icmp_ne (hC : Cx X p s m args meth c own cc nL ret) {x y : Int32} {off : Int} {tgt : Nat} (hdg : decode cc pc = .ok (.if_icmp .ne off, 3)) (ht : (pc : Int) + off = (tgt : Int)) (kt : ¬ x = y → V X nL p l e R s m args below meth c Q cells slots n K F G lv tgt st) (kf : x = y → V X nL p l e R s m args below meth c Q cells slots n K F G lv (pc + 3) st) : V X nL p l e R s m args below meth c Q cells slots n K F G lv pc (.int y :: .int x :: st) := fun H locs ls h1 h2 h3 => lv_icmp_ne hC.hx hC.hb hdg ht (fun q => kt q H locs ls h1 h2 h3) (fun q => kf q H locs ls h1 h2 h3)
theorem v_if_lt (hC : Cx X p s m args meth c own cc nL ret) {x : Int32} {off : Int} {tgt : Nat} (hdg : decode cc pc = .ok (.ifCond .lt off, 3)) (ht : (pc : Int) + off = (tgt : Int)) (kt : x < 0 → V X nL p l e R s m args below meth c Q cells slots n K F G lv tgt st) (kf : ¬ x < 0 → V X nL p l e R s m args below meth c Q cells slots n K F G lv (pc + 3) st) : V X nL p l e R s m args below meth c Q cells slots n K F G lv pc (.int x :: st) := fun H locs ls h1 h2 h3 => lv_if_lt hC.hx hC.hb hdg ht (fun q => kt q H locs ls h1 h2 h3) (fun q => kf q H locs ls h1 h2 h3)
theorem v_icmp_lt (hC : Cx X p s m args meth c own cc nL ret) {x y : Int32} {off : Int} {tgt : Nat} (hdg : decode cc pc = .ok (.if_icmp .lt off, 3)) (ht : (pc : Int) + off = (tgt : Int)) (kt : x < y → V X nL p l e R s m args below meth c Q cells slots n K F G lv tgt st) (kf : ¬ x < y → V X nL p l e R s m args below meth c Q cells slots n K F G lv (pc + 3) st) : V X nL p l e R s m args below meth c Q cells slots n K F G lv pc (.int y :: .int x :: st) := fun H locs ls h1 h2 h3 => lv_icmp_lt hC.hx hC.hb hdg ht (fun q => kt q H locs ls h1 h2 h3) (fun q => kf q H locs ls h1 h2 h3)
theorem v_if_ge (hC : Cx X p s m args meth c own cc nL ret) {x : Int32} {off : Int} {tgt : Nat} (hdg : decode cc pc = .ok (.ifCond .ge off, 3)) (ht : (pc : Int) + off = (tgt : Int)) (kt : 0 ≤ x → V X nL p l e R s m args below meth c Q cells slots n K F G lv tgt st) (kf : ¬ 0 ≤ x → V X nL p l e R s m args below meth c Q cells slots n K F G lv (pc + 3) st) : V X nL p l e R s m args below meth c Q cells slots n K F G lv pc (.int x :: st) := fun H locs ls h1 h2 h3 => lv_if_ge hC.hx hC.hb hdg ht (fun q => kt q H locs ls h1 h2 h3) (fun q => kf q H locs ls h1 h2 h3)
theorem v_icmp_ge (hC : Cx X p s m args meth c own cc nL ret) {x y : Int32} {off : Int} {tgt : Nat} (hdg : decode cc pc = .ok (.if_icmp .ge off, 3)) (ht : (pc : Int) + off = (tgt : Int)) (kt : y ≤ x → V X nL p l e R s m args below meth c Q cells slots n K F G lv tgt st) (kf : ¬ y ≤ x → V X nL p l e R s m args below meth c Q cells slots n K F G lv (pc + 3) st) : V X nL p l e R s m args below meth c Q cells slots n K F G lv pc (.int y :: .int x :: st) := fun H locs ls h1 h2 h3 => lv_icmp_ge hC.hx hC.hb hdg ht (fun q => kt q H locs ls h1 h2 h3) (fun q => kf q H locs ls h1 h2 h3)
theorem v_if_gt (hC : Cx X p s m args meth c own cc nL ret) {x : Int32} {off : Int} {tgt : Nat} (hdg : decode cc pc = .ok (.ifCond .gt off, 3)) (ht : (pc : Int) + off = (tgt : Int)) (kt : 0 < x → V X nL p l e R s m args below meth c Q cells slots n K F G lv tgt st) (kf : ¬ 0 < x → V X nL p l e R s m args below meth c Q cells slots n K F G lv (pc + 3) st) : V X nL p l e R s m args below meth c Q cells slots n K F G lv pc (.int x :: st) := fun H locs ls h1 h2 h3 => lv_if_gt hC.hx hC.hb hdg ht (fun q => kt q H locs ls h1 h2 h3) (fun q => kf q H locs ls h1 h2 h3)
theorem v_icmp_gt (hC : Cx X p s m args meth c own cc nL ret) {x y : Int32} {off : Int} {tgt : Nat} (hdg : decode cc pc = .ok (.if_icmp .gt off, 3)) (ht : (pc : Int) + off = (tgt : Int)) (kt : y < x → V X nL p l e R s m args below meth c Q cells slots n K F G lv tgt st) (kf : ¬ y < x → V X nL p l e R s m args below meth c Q cells slots n K F G lv (pc + 3) st) : V X nL p l e R s m args below meth c Q cells slots n K F G lv pc (.int y :: .int x :: st) := fun H locs ls h1 h2 h3 => lv_icmp_gt hC.hx hC.hb hdg ht (fun q => kt q H locs ls h1 h2 h3) (fun q => kf q H locs ls h1 h2 h3)
theorem v_if_le (hC : Cx X p s m args meth c own cc nL ret) {x : Int32} {off : Int} {tgt : Nat} (hdg : decode cc pc = .ok (.ifCond .le off, 3)) (ht : (pc : Int) + off = (tgt : Int)) (kt : x ≤ 0 → V X nL p l e R s m args below meth c Q cells slots n K F G lv tgt st) (kf : ¬ x ≤ 0 → V X nL p l e R s m args below meth c Q cells slots n K F G lv (pc + 3) st) : V X nL p l e R s m args below meth c Q cells slots n K F G lv pc (.int x :: st) := fun H locs ls h1 h2 h3 => lv_if_le hC.hx hC.hb hdg ht (fun q => kt q H locs ls h1 h2 h3) (fun q => kf q H locs ls h1 h2 h3)
theorem v_icmp_le (hC : Cx X p s m args meth c own cc nL ret) {x y : Int32} {off : Int} {tgt : Nat} (hdg : decode cc pc = .ok (.if_icmp .le off, 3)) (ht : (pc : Int) + off = (tgt : Int)) (kt : x ≤ y → V X nL p l e R s m args below meth c Q cells slots n K F G lv tgt st) (kf : ¬ x ≤ y → V X nL p l e R s m args below meth c Q cells slots n K F G lv (pc + 3) st) : V X nL p l e R s m args below meth c Q cells slots n K F G lv pc (.int y :: .int x :: st) := fun H locs ls h1 h2 h3 => lv_icmp_le hC.hx hC.hb hdg ht (fun q => kt q H locs ls h1 h2 h3) (fun q => kf q H locs ls h1 h2 h3)
theorem v_acmp_eq (hC : Cx X p s m args meth c own cc nL ret) {x y : Nat} {off : Int} {tgt : Nat} (hdg : decode cc pc = .ok (.if_acmp .eq off, 3)) (ht : (pc : Int) + off = (tgt : Int)) (kt : x = y → V X nL p l e R s m args below meth c Q cells slots n K F G lv tgt st) (kf : ¬ x = y → V X nL p l e R s m args below meth c Q cells slots n K F G lv (pc + 3) st) : V X nL p l e R s m args below meth c Q cells slots n K F G lv pc (.ref y :: .ref x :: st) := fun H locs ls h1 h2 h3 => lv_acmp_eq (rx := some x) (ry := some y) hC.hx hC.hb hdg ht (fun q => kt (Option.some.inj q) H locs ls h1 h2 h3) (fun q => kf (fun z => q (congrArg some z)) H locs ls h1 h2 h3)
theorem v_acmp_ne (hC : Cx X p s m args meth c own cc nL ret) {x y : Nat} {off : Int} {tgt : Nat} (hdg : decode cc pc = .ok (.if_acmp .ne off, 3)) (ht : (pc : Int) + off = (tgt : Int)) (kt : ¬ x = y → V X nL p l e R s m args below meth c Q cells slots n K F G lv tgt st) (kf : x = y → V X nL p l e R s m args below meth c Q cells slots n K F G lv (pc + 3) st) : V X nL p l e R s m args below meth c Q cells slots n K F G lv pc (.ref y :: .ref x :: st) := fun H locs ls h1 h2 h3 => lv_acmp_ne (rx := some x) (ry := some y) hC.hx hC.hb hdg ht (fun q => kt (fun z => q (congrArg some z)) H locs ls h1 h2 h3) (fun q => kf (Option.some.inj q) H locs ls h1 h2 h3)
theorem v_goto (hC : Cx X p s m args meth c own cc nL ret) {off : Int} {tgt : Nat} (hdg : decode cc pc = .ok (.goto off, 3)) (ht : (pc : Int) + off = (tgt : Int)) (k : V X nL p l e R s m args below meth c Q cells slots n K F G lv tgt st) : V X nL p l e R s m args below meth c Q cells slots n K F G lv pc st := fun H locs ls h1 h2 h3 => lv_goto hC.hx hC.hb hdg ht (k H locs ls h1 h2 h3)
theorem v_tabIn (hC : Cx X p s m args meth c own cc nL ret) {dflt lo hi : Int} {offs : Array Int} {len : Nat} {x : Int32} {off : Int} {tgt : Nat} (hdg : decode cc pc = .ok (.tableswitch dflt lo hi offs, len)) (hx : ¬ x.toInt < lo) (hy : ¬ hi < x.toInt) (ho : offs[(x.toInt - lo).toNat]? = some off) (ht : (pc : Int) + off = (tgt : Int)) (k : V X nL p l e R s m args below meth c Q cells slots n K F G lv tgt st) : V X nL p l e R s m args below meth c Q cells slots n K F G lv pc (.int x :: st) := fun H locs ls h1 h2 h3 => lv_tableIn hC.hx hC.hb hdg hx hy ho ht (k H locs ls h1 h2 h3)
theorem v_tabOut (hC : Cx X p s m args meth c own cc nL ret) {dflt lo hi : Int} {offs : Array Int} {len : Nat} {x : Int32} {tgt : Nat} (hdg : decode cc pc = .ok (.tableswitch dflt lo hi offs, len)) (h : x.toInt < lo ∨ hi < x.toInt) (ht : (pc : Int) + dflt = (tgt : Int)) (k : V X nL p l e R s m args below meth c Q cells slots n K F G lv tgt st) : V X nL p l e R s m args below meth c Q cells slots n K F G lv pc (.int x :: st) := fun H locs ls h1 h2 h3 => lv_tableOut hC.hx hC.hb hdg h ht (k H locs ls h1 h2 h3)
theorem v_sub (ks : List Nat) (hl : lv_pick lv ks = lv') (k : V X nL p l e R s m args below meth c Q cells slots n K F G lv' pc st) : V X nL p l e R s m args below meth c Q cells slots n K F G lv pc st := fun H locs ls h1 h2 h3 => k H locs ls h1 h2 (lv_sub h3 ks hl)
theorem v_widen {k2 n2 : Nat} (g1 : cells ≤ k2) (g2 : slots ≤ n2) (k : V X nL p l e R s m args below meth c Q k2 n2 n K F G lv pc st) : V X nL p l e R s m args below meth c Q cells slots n K F G lv pc st := fun H locs ls h1 h2 h3 => W.widen g1 g2 (k H locs ls h1 h2 h3)
theorem v_mmax (hC : Cx X p s m args meth c own cc nL ret) {index : Nat} (hl : Cond.methodLink own index Lib.Math.max.name ∈ Al) (hf : 1 ≤ R.frames) (hlo : 8 + 13 ≤ R.locals) (hc : cells ≤ R.cells) (hs : slots ≤ R.slots) (hst : (st.map fun v => v.category).sum ≤ 8) {x y : Int32} (hdg : decode cc pc = .ok (.invokestatic index, 3)) (k : V X nL p l e R s m args below meth c Q cells slots n K F G lv (pc + 3) (.int (if x < y then y else x) :: st)) : V X nL p l e R s m args below meth c Q cells slots n K F G lv pc (.int y :: .int x :: st) := fun H locs ls h1 h2 h3 => va_mmax hC.hx hC.hb (hC.hml.trans h3.1.symm) hC.hown (hC.hts _ hl) (hC.hts _ al_max1) (hC.hts _ al_math) (hC.hts _ al_max2) hf (by omega) hc hs hdg (k H locs ls h1 h2 h3)
theorem v_mmin (hC : Cx X p s m args meth c own cc nL ret) {index : Nat} (hl : Cond.methodLink own index Lib.Math.min.name ∈ Al) (hf : 1 ≤ R.frames) (hlo : 8 + 13 ≤ R.locals) (hc : cells ≤ R.cells) (hs : slots ≤ R.slots) (hst : (st.map fun v => v.category).sum ≤ 8) {x y : Int32} (hdg : decode cc pc = .ok (.invokestatic index, 3)) (k : V X nL p l e R s m args below meth c Q cells slots n K F G lv (pc + 3) (.int (if y < x then y else x) :: st)) : V X nL p l e R s m args below meth c Q cells slots n K F G lv pc (.int y :: .int x :: st) := fun H locs ls h1 h2 h3 => va_mmin hC.hx hC.hb (hC.hml.trans h3.1.symm) hC.hown (hC.hts _ hl) (hC.hts _ al_min1) (hC.hts _ al_math) (hC.hts _ al_min2) hf (by omega) hc hs hdg (k H locs ls h1 h2 h3)
theorem v_get (hC : Cx X p s m args meth c own cc nL ret) {ref C : String} {T : u_T} {N ci k index a : Nat} {fs : List Value} {v : Value} (ha : (K a).1 ≠ 0) (he : ce X K F G a = .inr (ci, fs)) (hc : cls[ci]? = some (C, T, N)) (hin : ∀ w ∈ u_ws C T N, w ∈ Al) (hk : k < N) (hlink : Cond.fieldLink own index ref (T k).2.1 (T k).2.2.1 ∈ Al) (hsame : ∀ x, s.fieldFound? (T k).1 (T k).2.1 (T k).2.2.1 = some x → s.fieldFound? ref (T k).2.1 (T k).2.2.1 = some x) (hv : fs[k]? = some v) (hdg : decode cc pc = .ok (.getfield index, 3))
    (kk : V X nL p l e R s m args below meth c Q cells slots n K F G lv (pc + 3) (v :: st)) : V X nL p l e R s m args below meth c Q cells slots n K F G lv pc (.ref a :: st) := fun H locs ls h1 h2 h3 =>
  va_get hC.hx hC.hb hC.hts hin hC.hown hC.hK (h1.one ha he) 0 rfl hc k hk (hC.hts _ hlink) hsame hv hdg (kk H locs ls h1 h2 h3)
theorem v_put (hC : Cx X p s m args meth c own cc nL ret) {ref C : String} {T : u_T} {N ci k index a : Nat} {fs : List Value} {v : Value} {K' : Kt} {F' : Ft} {G' : Gt} (ha : (K a).1 ≠ 0) (hb : K a ≠ (21, 0)) (he : ce X K F G a = .inr (ci, fs)) (hc : cls[ci]? = some (C, T, N)) (hin : ∀ w ∈ u_ws C T N, w ∈ Al) (ty0 : Nat → FieldType) (hty : ∀ k, k < N → parseFieldDescriptor (T k).2.2.1 = some (ty0 k)) (hnm : ∀ a, a < N → ∀ b, b < N → a ≠ b → (T a).2.1 ≠ (T b).2.1) (hk : k < N) (hlink : Cond.fieldLink own index ref (T k).2.1 (T k).2.2.1 ∈ Al) (hsame : ∀ x, s.fieldFound? (T k).1 (T k).2.1 (T k).2.2.1 = some x → s.fieldFound? ref (T k).2.1 (T k).2.2.1 = some x) (hfin : (T k).2.2.2 = false) {ty : FieldType} (hd : parseFieldDescriptor (T k).2.2.1 = some ty) (hn : narrow ty v = v) (hfit : fits ty v = true) (hl : k < fs.length) (hK' : ∀ x, x ≠ a → K' x = K x ∧ F' x = F x ∧ G' x = G x) (he' : ce X K' F' G' a = .inr (ci, fs.set k v)) (hdg : decode cc pc = .ok (.putfield index, 3))
    (kk : V X nL p l e R s m args below meth c Q cells slots n K' F' G' lv (pc + 3) st) : V X nL p l e R s m args below meth c Q cells slots n K F G lv pc (v :: .ref a :: st) := by
  intro H locs ls h1 h2 h3
  obtain ⟨r, e1, cell, q1, q2, q3, q4⟩ := h1.one ha he 0 _ rfl
  have hr : r = (C, T, N) := Option.some.inj (e1.symm.trans hc)
  subst hr
  have hap := va_apart (own := own) hC.hts hin ty0 hty hnm hC.hK hc
  obtain ⟨hS, hfc, kC, hkC, hkind⟩ := hC.hK.1 ci _ hc
  obtain ⟨cf, kf, fi, f, hi, hsl⟩ := hS k hk
  have hlay := hC.hts _ (hin _ (u_in_lay hk))
  unfold u_lay at hlay
  rw [if_neg (by rw [hfin]; decide)] at hlay
  have hst := (u_facts hfc hkC (u_lays hC.hts hin hk) hi).1
  have h6 := u_store hfc hkC hkind hlay hi hd hn hfit
  refine W.putK hC.hx hC.hb (f := f) ⟨hC.hown, hC.hts _ hlink, ⟨_, _, _, hsame _ hi⟩, hst⟩ (by rw [q2]; exact h6) q1 q3 (by rw [hsl]; exact k2_hasslot (q4 k hk)) rfl rfl hdg fun H' z1 z2 z3 => ?_
  rw [hsl] at z1 ⊢
  have hba := h1.base ha hb
  exact kk H' _ ls (h1.put hba z2 z3 hK' he' ⟨_, hc, t_OB.to (V := updV (vp_V fs) k v) ⟨_, z1, q2, q3, t_set q4 hap hk v⟩ (fun j _ => vp_updV_set hl v j)⟩) (h2.put z2 z3 hba) h3
theorem v_putF (hC : Cx X p s m args meth c own cc nL ret) {ref C : String} {T : u_T} {N ci k index a : Nat} {fs : List Value} {v : Value} {K' : Kt} {F' : Ft} {G' : Gt} (ha : (K a).1 ≠ 0) (hb : K a ≠ (21, 0)) (he : ce X K F G a = .inr (ci, fs)) (hc : cls[ci]? = some (C, T, N)) (hin : ∀ w ∈ u_ws C T N, w ∈ Al) (ty0 : Nat → FieldType) (hty : ∀ k, k < N → parseFieldDescriptor (T k).2.2.1 = some (ty0 k)) (hnm : ∀ a, a < N → ∀ b, b < N → a ≠ b → (T a).2.1 ≠ (T b).2.1) (hk : k < N) (hlink : Cond.fieldLink own index ref (T k).2.1 (T k).2.2.1 ∈ Al) (hsame : ∀ x, s.fieldFound? (T k).1 (T k).2.1 (T k).2.2.1 = some x → s.fieldFound? ref (T k).2.1 (T k).2.2.1 = some x) (hfin : (T k).2.2.2 = true) (hin2 : meth.name = "<init>") (hdecl : (T k).1 = own) {ty : FieldType} (hd : parseFieldDescriptor (T k).2.2.1 = some ty) (hn : narrow ty v = v) (hfit : fits ty v = true) (hl : k < fs.length) (hK' : ∀ x, x ≠ a → K' x = K x ∧ F' x = F x ∧ G' x = G x) (he' : ce X K' F' G' a = .inr (ci, fs.set k v)) (hdg : decode cc pc = .ok (.putfield index, 3))
    (kk : V X nL p l e R s m args below meth c Q cells slots n K' F' G' lv (pc + 3) st) : V X nL p l e R s m args below meth c Q cells slots n K F G lv pc (v :: .ref a :: st) := by
  intro H locs ls h1 h2 h3
  obtain ⟨r, e1, cell, q1, q2, q3, q4⟩ := h1.one ha he 0 _ rfl
  have hr : r = (C, T, N) := Option.some.inj (e1.symm.trans hc)
  subst hr
  have hap := va_apart (own := own) hC.hts hin ty0 hty hnm hC.hK hc
  obtain ⟨hS, hfc, kC, hkC, hkind⟩ := hC.hK.1 ci _ hc
  obtain ⟨cf, kf, fi, f, hi, hsl⟩ := hS k hk
  have hlay := hC.hts _ (hin _ (u_in_lay hk))
  unfold u_lay at hlay
  rw [if_pos hfin] at hlay
  have hst := (u_facts hfc hkC (u_lays hC.hts hin hk) hi).1
  have hcf : m.cls = cf := by
    obtain ⟨_, _, c', _, _, _, -, -, hf', -, -, -, hown2, -⟩ := Cond.laysFinal_spec hlay
    have e1 : c' = cf := by have := hi.symm.trans hf'; simp at this; exact this.1.symm
    rw [hdecl] at hown2
    rw [← e1]; exact Option.some.inj (hC.hown.symm.trans hown2)
  have h6 := u_fits hfc hkC hkind (Or.inr hlay) hi hd hn hfit
  refine W.putFinK hC.hx hC.hb hC.hown (hC.hts _ hlink) (hsame _ hi) hst hcf hin2 (by rw [q2]; exact h6) q1 q3 (by rw [hsl]; exact k2_hasslot (q4 k hk)) rfl rfl hdg fun H' z1 z2 z3 => ?_
  rw [hsl] at z1 ⊢
  have hba := h1.base ha hb
  exact kk H' _ ls (h1.put hba z2 z3 hK' he' ⟨_, hc, t_OB.to (V := updV (vp_V fs) k v) ⟨_, z1, q2, q3, t_set q4 hap hk v⟩ (fun j _ => vp_updV_set hl v j)⟩) (h2.put z2 z3 hba) h3
theorem va_S.grow {A : Nat → Prop} {H0 H H1 : Heap} {locs : List Loc} {n : Nat} (h : va_S A H0 H locs) (hn : H.size = n) (z : n ≤ H1.size) (oq : ∀ q : Nat, q < n → H1[q]? = H[q]?) : va_S A H0 H1 locs := by
  subst hn
  exact ⟨Nat.le_trans h.1 z, fun x g1 g2 => (oq x (Nat.lt_of_lt_of_le g1 h.1)).trans (h.2.1 x g1 g2), h.2.2⟩
theorem v_new (hC : Cx X p s m args meth c own cc nL ret) {C : String} {T : u_T} {N ci index : Nat} {fs : List Value} {K' : Kt} {F' : Ft} {G' : Gt} (hin : ∀ w ∈ u_ws C T N, w ∈ Al) (ty : Nat → FieldType) (hty : ∀ k, k < N → parseFieldDescriptor (T k).2.2.1 = some (ty k)) (hcl : Cond.classLink own index C ∈ Al) (hinst : Cond.instantiable C N ∈ Al) (hini : Cond.initialized C ∈ Al) (hc : cls[ci]? = some (C, T, N)) (hfs : ∀ j, j < N → defaultValue (ty j) = vp_V fs j) (hcells : cells + 1 ≤ R.cells) (hslots : slots + N ≤ R.slots) (hK' : ∀ x, x ≠ n → K' x = K x ∧ F' x = F x ∧ G' x = G x) (he' : ce X K' F' G' n = .inr (ci, fs)) (hdg : decode cc pc = .ok (.new index, 3))
    (kk : V X nL p l e R s m args below meth c Q (cells + 1) (slots + N) (n + 1) K' F' G' lv (pc + 3) (.ref n :: st)) : V X nL p l e R s m args below meth c Q cells slots n K F G lv pc st := by
  intro H locs ls h1 h2 h3
  have hKn := hC.hK.1 ci _ hc
  refine W.newcK hC.hx hC.hb hC.hown (hC.hts _ hcl) (hC.hts _ hinst) (hC.hts _ hini) rfl hdg hcells hslots hKn.2.1 h1.1 fun H1 kC hkC e1 z1 o1 => ?_
  exact kk H1 locs ls (h1.push z1 o1 hK' he' ⟨_, hc, (u_born ty hC.hts hin hKn hkC e1 hty).to hfs⟩) (h2.grow h1.1 (by omega) o1) h3
theorem v_newarr (hC : Cx X p s m args meth c own cc nL ret) {atype : ArrayType} {ty : FieldType} {z : Int32} {N t0 : Nat} {cA0 : ClassId} {a0 : vp_A} {K' : Kt} {F' : Ft} {G' : Gt} (harr : Cond.arrayClass (newarray.typeOf atype) ∈ Al) (hty : newarray.typeOf atype = ty) (ht : (tys X)[t0]? = some (cA0, ty)) (hra : va_RA s cA0 ty → s.vm.findClass ("[" ++ ty.toString) = some cA0) (ha : vp_cell cA0 a0 = arrV cA0 N (fun _ => defaultValue ty)) (hn : ¬ z < 0) (hN : z.toNatClampNeg = N) (hbytes : N * componentBytes ty ≤ 536870912) (hcells : cells + 1 ≤ R.cells) (hslots : slots + N ≤ R.slots) (hK' : ∀ x, x ≠ n → K' x = K x ∧ F' x = F x ∧ G' x = G x) (he' : ce X K' F' G' n = .inl (cA0, a0)) (hdg : decode cc pc = .ok (.newarray atype, 2))
    (kk : V X nL p l e R s m args below meth c Q (cells + 1) (slots + N) (n + 1) K' F' G' lv (pc + 2) (.ref n :: st)) : V X nL p l e R s m args below meth c Q cells slots n K F G lv pc (.int z :: st) := by
  intro H locs ls h1 h2 h3
  subst hty
  refine va_newaK hC.hx hC.hb (hC.hts _ harr) rfl hdg rfl hn hN hbytes hcells hslots h1.1 fun H1 cA e1 z1 o1 hAr hNm => ?_
  have hca : cA = cA0 := Option.some.inj (hNm.symm.trans (hra (hC.hK.2 t0 _ ht).2))
  subst hca
  exact kk H1 locs ls (h1.push z1 o1 hK' he' (show H1[n]? = some (vp_cell _ _) by rw [ha]; exact e1)) (h2.grow h1.1 (by omega) o1) h3
theorem v_anewO (hC : Cx X p s m args meth c own cc nL ret) {index : Nat} {z : Int32} {N : Nat} {K' : Kt} {F' : Ft} {G' : Gt} (hcl : Cond.classLink own index "java/lang/Object" ∈ Al)  (hn : ¬ z < 0) (hN : z.toNatClampNeg = N) (hbytes : N * 4 ≤ 536870912) (hcells : cells + 1 ≤ R.cells) (hslots : slots + N ≤ R.slots) (hK' : ∀ x, x ≠ n → K' x = K x ∧ F' x = F x ∧ G' x = G x) (he' : ce X K' F' G' n = .inl (xO X, N, .inr (.inr (.inr (.inr (fun _ => none)))))) (hdg : decode cc pc = .ok (.anewarray index, 3))
    (kk : V X nL p l e R s m args below meth c Q (cells + 1) (slots + N) (n + 1) K' F' G' lv (pc + 3) (.ref n :: st)) : V X nL p l e R s m args below meth c Q cells slots n K F G lv pc (.int z :: st) := by
  intro H locs ls h1 h2 h3
  subst hN
  refine W.anew hC.hx hC.hb hC.hown (hC.hts _ hcl) (hC.nw _ nw_1042) rfl hdg rfl hn hbytes hcells hslots fun cA kA comp f1 f2 f3 f4 => ?_
  generalize hH1 : H.push ({ cls := cA, slots := Array.replicate z.toNatClampNeg .null, vm := .none } : Cell) = H1
  have z1 : H1.size = n + 1 := by rw [← hH1, Array.size_push, h1.1]
  have e1 : H1[n]? = some (arrV cA z.toNatClampNeg (fun _ => .null)) := by rw [← hH1, ← h1.1, Array.getElem?_push_size, ← arrV_new]
  have o1 : ∀ q : Nat, q < n → H1[q]? = H[q]? := fun q hq => by rw [← hH1, Array.getElem?_push, if_neg (by rw [h1.1]; exact Nat.ne_of_lt hq)]
  obtain ⟨kA', comp', g1, g2, g3, g4⟩ := (hC.hK.2 1 _ rfl).2
  have hca : cA = xO X := Option.some.inj (f4.symm.trans g4)
  subst hca
  rw [h1.1]
  exact kk H1 locs ls (h1.push z1 o1 hK' he' (show H1[n]? = some (vp_cell _ _) by rw [vp_cell_q]; exact e1)) (h2.grow h1.1 (by omega) o1) h3
theorem v_iald (hC : Cx X p s m args meth c own cc nL ret) {a N : Nat} {i : Int32} (ha : K a = (20, N)) (hin : vp_in i N) (hdg : decode cc pc = .ok (.iaload, 1)) (kk : V X nL p l e R s m args below meth c Q cells slots n K F G lv (pc + 1) (.int (F a i.toNatClampNeg) :: st)) : V X nL p l e R s m args below meth c Q cells slots n K F G lv pc (.int i :: .ref a :: st) := fun H locs ls h1 h2 h3 =>
  va_iald hC.hx hC.hb hC.hK (h1.one (by rw [ha]; decide) ((ce_20 (by rw [ha])).trans (by rw [ha]))) 0 0 rfl rfl hin hdg (kk H locs ls h1 h2 h3)
theorem v_bald (hC : Cx X p s m args meth c own cc nL ret) {a N : Nat} {i : Int32} (ha : K a = (22, N)) (hin : vp_in i N) (hdg : decode cc pc = .ok (.baload, 1)) (kk : V X nL p l e R s m args below meth c Q cells slots n K F G lv (pc + 1) (.int (F a i.toNatClampNeg) :: st)) : V X nL p l e R s m args below meth c Q cells slots n K F G lv pc (.int i :: .ref a :: st) := fun H locs ls h1 h2 h3 =>
  va_bald hC.hx hC.hb hC.hK (h1.one (by rw [ha]; decide) ((ce_22 (by rw [ha])).trans (by rw [ha]))) 0 2 rfl rfl hin hdg (kk H locs ls h1 h2 h3)
theorem v_zald (hC : Cx X p s m args meth c own cc nL ret) {a N : Nat} {i : Int32} (ha : K a = (23, N)) (hin : vp_in i N) (hdg : decode cc pc = .ok (.baload, 1)) (kk : V X nL p l e R s m args below meth c Q cells slots n K F G lv (pc + 1) (.int (F a i.toNatClampNeg) :: st)) : V X nL p l e R s m args below meth c Q cells slots n K F G lv pc (.int i :: .ref a :: st) := fun H locs ls h1 h2 h3 =>
  va_zald hC.hx hC.hb hC.hK (h1.one (by rw [ha]; decide) ((ce_23 (by rw [ha])).trans (by rw [ha]))) 0 3 rfl rfl hin hdg (kk H locs ls h1 h2 h3)
theorem v_aald (hC : Cx X p s m args meth c own cc nL ret) {a N : Nat} {i : Int32} (ha : K a = (21, N)) (hin : vp_in i N) (hdg : decode cc pc = .ok (.aaload, 1)) (kk : V X nL p l e R s m args below meth c Q cells slots n K F G lv (pc + 1) (va_rf (G a i.toNatClampNeg) :: st)) : V X nL p l e R s m args below meth c Q cells slots n K F G lv pc (.int i :: .ref a :: st) := fun H locs ls h1 h2 h3 =>
  va_aldq hC.hx hC.hb hC.hK (h1.one (by rw [ha]; decide) ((ce_21 (by rw [ha])).trans (by rw [ha]))) 0 1 rfl rfl hin hdg (kk H locs ls h1 h2 h3)
theorem v_alen_20 (hC : Cx X p s m args meth c own cc nL ret) {a N : Nat} (ha : K a = (20, N)) (hdg : decode cc pc = .ok (.arraylength, 1)) (kk : V X nL p l e R s m args below meth c Q cells slots n K F G lv (pc + 1) (.int (nI N) :: st)) : V X nL p l e R s m args below meth c Q cells slots n K F G lv pc (.ref a :: st) := fun H locs ls h1 h2 h3 =>
  va_alen hC.hx hC.hb hC.hK (h1.one (by rw [ha]; decide) ((ce_20 (by rw [ha])).trans (by rw [ha]))) 0 0 rfl rfl rfl hdg (kk H locs ls h1 h2 h3)
theorem v_alen_21 (hC : Cx X p s m args meth c own cc nL ret) {a N : Nat} (ha : K a = (21, N)) (hdg : decode cc pc = .ok (.arraylength, 1)) (kk : V X nL p l e R s m args below meth c Q cells slots n K F G lv (pc + 1) (.int (nI N) :: st)) : V X nL p l e R s m args below meth c Q cells slots n K F G lv pc (.ref a :: st) := fun H locs ls h1 h2 h3 =>
  va_alen hC.hx hC.hb hC.hK (h1.one (by rw [ha]; decide) ((ce_21 (by rw [ha])).trans (by rw [ha]))) 0 1 rfl rfl rfl hdg (kk H locs ls h1 h2 h3)
theorem v_alen_22 (hC : Cx X p s m args meth c own cc nL ret) {a N : Nat} (ha : K a = (22, N)) (hdg : decode cc pc = .ok (.arraylength, 1)) (kk : V X nL p l e R s m args below meth c Q cells slots n K F G lv (pc + 1) (.int (nI N) :: st)) : V X nL p l e R s m args below meth c Q cells slots n K F G lv pc (.ref a :: st) := fun H locs ls h1 h2 h3 =>
  va_alen hC.hx hC.hb hC.hK (h1.one (by rw [ha]; decide) ((ce_22 (by rw [ha])).trans (by rw [ha]))) 0 2 rfl rfl rfl hdg (kk H locs ls h1 h2 h3)
theorem v_alen_23 (hC : Cx X p s m args meth c own cc nL ret) {a N : Nat} (ha : K a = (23, N)) (hdg : decode cc pc = .ok (.arraylength, 1)) (kk : V X nL p l e R s m args below meth c Q cells slots n K F G lv (pc + 1) (.int (nI N) :: st)) : V X nL p l e R s m args below meth c Q cells slots n K F G lv pc (.ref a :: st) := fun H locs ls h1 h2 h3 =>
  va_alen hC.hx hC.hb hC.hK (h1.one (by rw [ha]; decide) ((ce_23 (by rw [ha])).trans (by rw [ha]))) 0 3 rfl rfl rfl hdg (kk H locs ls h1 h2 h3)
theorem v_iast (hC : Cx X p s m args meth c own cc nL ret) {a N : Nat} {i x : Int32} (ha : K a = (20, N)) (hin : vp_in i N) (hdg : decode cc pc = .ok (.iastore, 1)) (kk : V X nL p l e R s m args below meth c Q cells slots n K (up2 F a i.toNatClampNeg x) G lv (pc + 1) st) : V X nL p l e R s m args below meth c Q cells slots n K F G lv pc (.int x :: .int i :: .ref a :: st) := by
  intro H locs ls h1 h2 h3
  have hcell := h1.one (by rw [ha]; decide) ((ce_20 (X := X) (F := F) (G := G) (by rw [ha])).trans (by rw [ha])) 0 _ rfl
  have hba := h1.base (a := a) (by rw [ha]; decide) (by rw [ha]; intro q; cases q)
  refine W.iast hC.hx hC.hb hcell ((hC.hK.2 0 _ rfl).1 N (fun j => .int (F a j))) (fun q => by cases q) (by show ¬ (i < 0 ∨ (arrV _ _ _).slots.size ≤ _); rw [arrV_size]; exact hin) rfl rfl hdg fun H1 e1 z oq => ?_
  refine kk H1 _ ls (h1.put hba z oq (fun y hy => ⟨rfl, up2_a _ _ hy, rfl⟩) ((ce_20 (by rw [ha])).trans (by rw [ha])) ?_) (h2.put z oq hba) h3
  show H1[a]? = some (vp_cell _ _)
  rw [e1]
  rw [vp_cell_i, vp_cell_i, arrV_store]
  congr 2
  funext q
  by_cases hq : q = i.toNatClampNeg
  · subst hq
    simp [updV, up2_eq, vp_nar]
    try rfl
  · simp [updV, hq, up2_k _ _ hq]
theorem v_bast (hC : Cx X p s m args meth c own cc nL ret) {a N : Nat} {i x : Int32} (ha : K a = (22, N)) (hin : vp_in i N) (hdg : decode cc pc = .ok (.bastore, 1)) (kk : V X nL p l e R s m args below meth c Q cells slots n K (up2 F a i.toNatClampNeg (vp_nar .byte x)) G lv (pc + 1) st) : V X nL p l e R s m args below meth c Q cells slots n K F G lv pc (.int x :: .int i :: .ref a :: st) := by
  intro H locs ls h1 h2 h3
  have hcell := h1.one (by rw [ha]; decide) ((ce_22 (X := X) (F := F) (G := G) (by rw [ha])).trans (by rw [ha])) 0 _ rfl
  have hba := h1.base (a := a) (by rw [ha]; decide) (by rw [ha]; intro q; cases q)
  refine W.bast hC.hx hC.hb hcell ((hC.hK.2 2 _ rfl).1 N (fun j => .int (F a j))) (fun q => by cases q) (by show ¬ (i < 0 ∨ (arrV _ _ _).slots.size ≤ _); rw [arrV_size]; exact hin) rfl rfl hdg fun H1 e1 z oq => ?_
  refine kk H1 _ ls (h1.put hba z oq (fun y hy => ⟨rfl, up2_a _ _ hy, rfl⟩) ((ce_22 (by rw [ha])).trans (by rw [ha])) ?_) (h2.put z oq hba) h3
  show H1[a]? = some (vp_cell _ _)
  rw [e1]
  rw [vp_cell_i, vp_cell_i, arrV_store]
  congr 2
  funext q
  by_cases hq : q = i.toNatClampNeg
  · subst hq
    simp [updV, up2_eq, vp_nar]
    try rfl
  · simp [updV, hq, up2_k _ _ hq]
theorem v_zast (hC : Cx X p s m args meth c own cc nL ret) {a N : Nat} {i x : Int32} (ha : K a = (23, N)) (hin : vp_in i N) (hdg : decode cc pc = .ok (.bastore, 1)) (kk : V X nL p l e R s m args below meth c Q cells slots n K (up2 F a i.toNatClampNeg (vp_nar .boolean x)) G lv (pc + 1) st) : V X nL p l e R s m args below meth c Q cells slots n K F G lv pc (.int x :: .int i :: .ref a :: st) := by
  intro H locs ls h1 h2 h3
  have hcell := h1.one (by rw [ha]; decide) ((ce_23 (X := X) (F := F) (G := G) (by rw [ha])).trans (by rw [ha])) 0 _ rfl
  have hba := h1.base (a := a) (by rw [ha]; decide) (by rw [ha]; intro q; cases q)
  refine W.zast hC.hx hC.hb hcell ((hC.hK.2 3 _ rfl).1 N (fun j => .int (F a j))) (fun q => by cases q) (by show ¬ (i < 0 ∨ (arrV _ _ _).slots.size ≤ _); rw [arrV_size]; exact hin) rfl rfl hdg fun H1 e1 z oq => ?_
  refine kk H1 _ ls (h1.put hba z oq (fun y hy => ⟨rfl, up2_a _ _ hy, rfl⟩) ((ce_23 (by rw [ha])).trans (by rw [ha])) ?_) (h2.put z oq hba) h3
  show H1[a]? = some (vp_cell _ _)
  rw [e1]
  rw [vp_cell_i, vp_cell_i, arrV_store]
  congr 2
  funext q
  by_cases hq : q = i.toNatClampNeg
  · subst hq
    simp [updV, up2_eq, vp_nar]
    try rfl
  · simp [updV, hq, up2_k _ _ hq]
theorem v_aastO (hC : Cx X p s m args meth c own cc nL ret) {a v N ci : Nat} {r : vw_C} {fs : List Value} {i : Int32} (ha : K a = (21, N)) (hv : (K v).1 ≠ 0) (he : ce X K F G v = .inr (ci, fs)) (hc : cls[ci]? = some r) (hca : Cond.castable r.1 "java/lang/Object" ∈ Nwl) (hin : vp_in i N) (hdg : decode cc pc = .ok (.aastore, 1)) (kk : V X nL p l e R s m args below meth c Q cells slots n K F (up2 G a i.toNatClampNeg (some v)) lv (pc + 1) st) : V X nL p l e R s m args below meth c Q cells slots n K F G lv pc (.ref v :: .int i :: .ref a :: st) := by
  intro H locs ls h1 h2 h3
  have hlt : i.toNatClampNeg < N := Nat.not_le.mp fun q => hin (Or.inr q)
  have h0 : ¬ i < 0 := fun q => hin (Or.inl q)
  have hcell := h1.one (by rw [ha]; decide) ((ce_21 (X := X) (F := F) (G := G) (by rw [ha])).trans (by rw [ha])) 0 _ rfl
  have hba := h1.base (a := a) (by rw [ha]; decide) (by rw [ha]; intro q; cases q; omega)
  obtain ⟨r', hr', cellV, g1, g2, g3, -⟩ := h1.one hv he 0 _ rfl
  have hcls := (hC.hK.1 ci r hc).2
  obtain ⟨kA, comp, k1, k2, k3, -⟩ := (hC.hK.2 1 _ rfl).2
  obtain ⟨kE, hkE, -⟩ := Vm.findClass_spec k3
  obtain ⟨c0, t1, f1, f2, f3⟩ := Cond.castable_spec (hC.nw _ hca)
  cases hcls.1.symm.trans f1
  cases k3.symm.trans f2
  obtain ⟨kC, hkC, -⟩ := hcls.2
  refine W.aast hC.hx hC.hb hcell (fun q h => by cases h) (fun h => by cases h) k1 k2 rfl hkE ⟨h0, by show _ < (arrV _ _ _).slots.size; rw [arrV_size]; exact hlt⟩ g1 (fun q h => by rw [g3] at h; cases h) (by rw [g2]; exact hkC) (by rw [g2]; exact f3) rfl rfl hdg fun H1 e1 z oq => ?_
  refine kk H1 _ ls (h1.put hba z oq (fun y hy => ⟨rfl, rfl, up2_a _ _ hy⟩) ((ce_21 (by rw [ha])).trans (by rw [ha])) ?_) (h2.put z oq hba) h3
  show H1[a]? = some (vp_cell _ _)
  rw [e1]
  rw [vp_cell_q, vp_cell_q, arrV_store]
  congr 2
  funext q
  by_cases hq : q = i.toNatClampNeg
  · subst hq
    simp [updV, up2_eq, va_rf]
  · simp [updV, hq, up2_k _ _ hq]
theorem v_cast (hC : Cx X p s m args meth c own cc nL ret) {a ci index : Nat} {r : vw_C} {fs : List Value} (ha : (K a).1 ≠ 0) (he : ce X K F G a = .inr (ci, fs)) (hc : cls[ci]? = some r) (hlink : Cond.classLink own index r.1 ∈ Al) (hdg : decode cc pc = .ok (.checkcast index, 3)) (kk : V X nL p l e R s m args below meth c Q cells slots n K F G lv (pc + 3) (.ref a :: st)) : V X nL p l e R s m args below meth c Q cells slots n K F G lv pc (.ref a :: st) := fun H locs ls h1 h2 h3 =>
  va_castS hC.hx hC.hb hC.hown (hC.hts _ hlink) (hC.hK.1 ci r hc).2 (va_recv hC.hK (h1.one ha he) hc (q0 := 0) rfl) hdg (kk H locs ls h1 h2 h3)
theorem v_objInit (hC : Cx X p s m args meth c own cc nL ret) {index a : Nat} (h0 : Cond.methodLink own index objectInit ∈ Al) (hf : 1 ≤ R.frames) (hlo : 8 + 13 ≤ R.locals) (hst : (st.map fun v => v.category).sum ≤ 8) (hdg : decode cc pc = .ok (.invokespecial index, 3)) (kk : V X nL p l e R s m args below meth c Q cells slots n K F G lv (pc + 3) st) : V X nL p l e R s m args below meth c Q cells slots n K F G lv pc (.ref a :: st) := fun H locs ls h1 h2 h3 =>
  W.objInit hC.hx hC.hb hC.hown (hC.hts _ h0) (hC.hts _ al_obj1) (hC.hts _ al_obj2) rfl (by rw [hC.hml]; exact h3.1) rfl hdg hf (by show 2 * 0 + _ + _ ≤ _; omega) (kk H locs ls h1 h2 h3)
theorem v_after {a : Array Value} {mc ms c2 s2 : Nat} {o : Option Value} {n' : Nat} {K' : Kt} {F' : Ft} {G' : Gt} {st0 : List Value} {H : Heap} {locs : List Loc} {ls : Array Slot} (hb0 : xb X ≤ H.size) (hr : va_Run p l e R s m args below meth c H locs cells slots mc ms (F0 m pc ls st0) st (QW X o n' K' F' G' a) (Aft X)) (h2 : va_S (Aft X) s.heap H locs) (h3 : lv_has ls nL lv) (hc : cells + mc ≤ c2) (hs : slots + ms ≤ s2)
    (kk : V X nL p l e R s m args below meth c Q c2 s2 n' K' F' G' lv (pc + 3) (o.toList ++ st)) : W p l e R s m args below meth c H locs cells slots Q (F0 m pc ls st0) := by
  intro T hT Y
  obtain ⟨v, st₀, t, T', L, h0, X', hL, e1, e2, ⟨hv, hW, hz, hk⟩, stp⟩ := hr T hT Y
  cases hv
  rw [h0] at hz hk
  have hS : va_S (Aft X) s.heap T'.heap (locs ++ L) := ⟨Nat.le_trans h2.1 (by rw [e1]; exact hz), fun q g1 g2 => by rw [e1, hk q (Nat.lt_of_lt_of_le g1 h2.1) g2]; exact h2.2.1 q g1 g2, fun q hq => by
      rcases List.mem_append.mp hq with h | h
      · exact h2.2.2 q h
      · exact hL q h⟩
  obtain ⟨t2, a1, b1⟩ := W.widen hc hs (kk T'.heap (locs ++ L) ls (by rw [e1]; exact hW.1) hS h3) T' rfl X'
  exact ⟨t2, stp t2 a1, b1⟩
/-- the words that a call by name needs -/
def qV (own : String) (index : Nat) (C : String) (y : MethodName) (bytes : ByteArray) (maxL : Nat) (ret1 : Option FieldType) : Prop := Cond.methodLink own index y ∈ Al ∧ Cond.instanceMethod y ∈ Al ∧ Cond.selects C y y ∈ Al ∧ Cond.initialized C ∈ Al ∧ Cond.code y bytes maxL ret1 ∈ Al
def qS (own : String) (index : Nat) (y : MethodName) (bytes : ByteArray) (maxL : Nat) (ret1 : Option FieldType) : Prop := Cond.methodLink own index y ∈ Al ∧ Cond.static y ∈ Al ∧ Cond.initialized y.cls ∈ Al ∧ Cond.code y bytes maxL ret1 ∈ Al
def qI (own : String) (index : Nat) (y : MethodName) (bytes : ByteArray) (maxL : Nat) : Prop := Cond.methodLink own index y ∈ Al ∧ Cond.instanceMethod y ∈ Al ∧ Cond.initialized y.cls ∈ Al ∧ Cond.code y bytes maxL none ∈ Al
def qN (own : String) (index : Nat) (y : MethodName) (host : String) (bytes : ByteArray) (maxL : Nat) : Prop := Cond.methodLinkNest own index y host ∈ Nwl ∧ Cond.instanceMethod y ∈ Al ∧ Cond.initialized y.cls ∈ Al ∧ Cond.code y bytes maxL none ∈ Al
theorem qV.good {own : String} {index : Nat} {C : String} {y : MethodName} {bytes : ByteArray} {maxL : Nat} {ret1 : Option FieldType} (h : qV own index C y bytes maxL ret1) : GoodIn Al (wsV own index C y (wl y bytes maxL ret1)) := by
  obtain ⟨a1, a2, a3, a4, a5⟩ := h
  intro w hw
  unfold wsV at hw
  rcases List.mem_append.mp hw with h | h
  · simp only [List.mem_cons, List.not_mem_nil, or_false] at h
    rcases h with rfl | rfl | rfl | rfl
    · exact ⟨a1, al_good a1⟩
    · exact ⟨a2, al_good a2⟩
    · exact ⟨a3, al_good a3⟩
    · exact ⟨a4, al_good a4⟩
  · exact al_goodIn a5 w h
theorem qS.good {own : String} {index : Nat} {y : MethodName} {bytes : ByteArray} {maxL : Nat} {ret1 : Option FieldType} (h : qS own index y bytes maxL ret1) : GoodIn Al (va_wsS own index y (wl y bytes maxL ret1)) := by
  obtain ⟨a1, a2, a3, a4⟩ := h
  intro w hw
  unfold va_wsS at hw
  rcases List.mem_append.mp hw with h | h
  · simp only [List.mem_cons, List.not_mem_nil, or_false] at h
    rcases h with rfl | rfl | rfl
    · exact ⟨a1, al_good a1⟩
    · exact ⟨a2, al_good a2⟩
    · exact ⟨a3, al_good a3⟩
  · exact al_goodIn a4 w h
theorem Hd.recv {H : Heap} {a ci : Nat} {q : vw_C} {fs : List Value} (hK : KX X s) (h1 : Hd X n K F G H) (ha : (K a).1 ≠ 0) (he : ce X K F G a = .inr (ci, fs)) (hc : cls[ci]? = some q) : ∃ cell : Cell, H[a]? = some cell ∧ cell.vm.isStatics = false ∧ s.vm.findClass q.1 = some cell.cls := va_recv hK (h1.one ha he) hc (q0 := 0) rfl
theorem Wd.blind {As : List Value} : FrameBlind (va_Pc As (Wd X n K F G)) := fun _ _ _ _ q => ⟨q.1, q.2⟩
theorem v_callV (hC : Cx X p s m args meth c own cc nL ret) {y : MethodName} {bytes : ByteArray} {maxL fr lo mc ms index c2 s2 : Nat} {ret1 : Option FieldType} {As : List Value} {o : Option Value} {n' : Nat} {K' : Kt} {F' : Ft} {G' : Gt} {a ci nn : Nat} {q : vw_C} {fs : List Value} (hM : Mw X l y bytes maxL ret1 fr lo mc ms (.ref a :: As) n K F G o n' K' F' G') (hq : qV own index q.1 y bytes maxL ret1) (ha : (K a).1 ≠ 0) (he : ce X K F G a = .inr (ci, fs)) (hc : cls[ci]? = some q) (hd : y.cls = q.1 ∧ y.cls ≠ "java/lang/invoke/MethodHandle" ∧ y.cls ≠ "java/lang/invoke/VarHandle" ∧ (parseMethodDescriptor y.desc).map (fun d => d.parameters.length) = some nn) (hnn : As.length = nn) {st0 : List Value} (hst0 : st0 = As.reverse ++ .ref a :: st) (hrf : fr + 1 ≤ R.frames) (hrl : 8 + (maxL + 11) + lo ≤ R.locals) (hrc : cells + mc ≤ R.cells) (hrs : slots + ms ≤ R.slots) (hc2 : cells + mc ≤ c2) (hs2 : slots + ms ≤ s2) (hst : (st.map fun v => v.category).sum ≤ 8) (hdg : decode cc pc = .ok (.invokevirtual index, 3))
    (kk : V X nL p l e R s m args below meth c Q c2 s2 n' K' F' G' lv (pc + 3) (o.toList ++ st)) : V X nL p l e R s m args below meth c Q cells slots n K F G lv pc st0 := by
  intro H locs ls h1 h2 h3
  refine v_after (Nat.le_trans hC.hbs h2.1) (va_runV (As := As) (rest := st) hC.fix hM (cwV nn hC.hts hq.good rfl rfl rfl hd ⟨hrf, hrl⟩) ⟨Wd.blind, h1.recv hC.hK ha he hc, fun U hU hW => ⟨rfl, Wd.of hC h1 h2 hU hW⟩⟩ rfl hnn h3.1 hst0 (lv_room hst) hdg ⟨hrc, hrs⟩) h2 h3 hc2 hs2 kk
theorem v_callS (hC : Cx X p s m args meth c own cc nL ret) {y : MethodName} {bytes : ByteArray} {maxL fr lo mc ms index c2 s2 : Nat} {ret1 : Option FieldType} {As : List Value} {o : Option Value} {n' : Nat} {K' : Kt} {F' : Ft} {G' : Gt} {nn : Nat} (hM : Mw X l y bytes maxL ret1 fr lo mc ms As n K F G o n' K' F' G') (hq : qS own index y bytes maxL ret1) (hd : y.cls ≠ "java/lang/invoke/MethodHandle" ∧ y.cls ≠ "java/lang/invoke/VarHandle" ∧ (parseMethodDescriptor y.desc).map (fun d => d.parameters.length) = some nn) (hnn : As.length = nn) {st0 : List Value} (hst0 : st0 = As.reverse ++ st) (hrf : fr + 1 ≤ R.frames) (hrl : 8 + (maxL + 11) + lo ≤ R.locals) (hrc : cells + mc ≤ R.cells) (hrs : slots + ms ≤ R.slots) (hc2 : cells + mc ≤ c2) (hs2 : slots + ms ≤ s2) (hst : (st.map fun v => v.category).sum ≤ 8) (hdg : decode cc pc = .ok (.invokestatic index, 3))
    (kk : V X nL p l e R s m args below meth c Q c2 s2 n' K' F' G' lv (pc + 3) (o.toList ++ st)) : V X nL p l e R s m args below meth c Q cells slots n K F G lv pc st0 := by
  intro H locs ls h1 h2 h3
  refine v_after (Nat.le_trans hC.hbs h2.1) (va_runS (As := As) (rest := st) hC.fix hM (va_cwS nn hC.hts hq.good rfl rfl rfl hd ⟨hrf, hrl⟩) ⟨Wd.blind, fun U hU hW => ⟨rfl, Wd.of hC h1 h2 hU hW⟩⟩ rfl hnn h3.1 hst0 (lv_room hst) hdg ⟨hrc, hrs⟩) h2 h3 hc2 hs2 kk
theorem v_callI (hC : Cx X p s m args meth c own cc nL ret) {y : MethodName} {bytes : ByteArray} {maxL fr lo mc ms index c2 s2 : Nat} {As : List Value} {o : Option Value} {n' : Nat} {K' : Kt} {F' : Ft} {G' : Gt} {a nn : Nat} (hM : Mw X l y bytes maxL none fr lo mc ms (.ref a :: As) n K F G o n' K' F' G') (hq : qI own index y bytes maxL) (hy1 : y.name = "<init>") (hd : y.cls ≠ "java/lang/invoke/MethodHandle" ∧ y.cls ≠ "java/lang/invoke/VarHandle" ∧ (parseMethodDescriptor y.desc).map (fun d => d.parameters.length) = some nn) (hnn : As.length = nn) {st0 : List Value} (hst0 : st0 = As.reverse ++ .ref a :: st) (hrf : fr + 1 ≤ R.frames) (hrl : 8 + (maxL + 11) + lo ≤ R.locals) (hrc : cells + mc ≤ R.cells) (hrs : slots + ms ≤ R.slots) (hc2 : cells + mc ≤ c2) (hs2 : slots + ms ≤ s2) (hst : (st.map fun v => v.category).sum ≤ 8) (hdg : decode cc pc = .ok (.invokespecial index, 3))
    (kk : V X nL p l e R s m args below meth c Q c2 s2 n' K' F' G' lv (pc + 3) (o.toList ++ st)) : V X nL p l e R s m args below meth c Q cells slots n K F G lv pc st0 := by
  intro H locs ls h1 h2 h3
  refine v_after (Nat.le_trans hC.hbs h2.1) (va_runI (As := As) (rest := st) hC.fix hM (cwI nn hC.hts (al_goodIn hq.2.2.2) rfl rfl rfl (hC.hts _ hq.2.2.1) (hC.hts _ hq.1) (hC.hts _ hq.2.1) hy1 hd ⟨hrf, hrl⟩) ⟨Wd.blind, fun U hU hW => ⟨rfl, Wd.of hC h1 h2 hU hW⟩⟩ rfl hnn h3.1 hst0 (lv_room hst) hdg ⟨hrc, hrs⟩) h2 h3 hc2 hs2 kk
theorem v_callIN (hC : Cx X p s m args meth c own cc nL ret) {y : MethodName} {bytes : ByteArray} {maxL fr lo mc ms index c2 s2 : Nat} {As : List Value} {o : Option Value} {n' : Nat} {K' : Kt} {F' : Ft} {G' : Gt} {a nn : Nat} {host : String} (hM : Mw X l y bytes maxL none fr lo mc ms (.ref a :: As) n K F G o n' K' F' G') (hq : qN own index y host bytes maxL) (hy1 : y.name = "<init>") (hd : y.cls ≠ "java/lang/invoke/MethodHandle" ∧ y.cls ≠ "java/lang/invoke/VarHandle" ∧ (parseMethodDescriptor y.desc).map (fun d => d.parameters.length) = some nn) (hnn : As.length = nn) {st0 : List Value} (hst0 : st0 = As.reverse ++ .ref a :: st) (hrf : fr + 1 ≤ R.frames) (hrl : 8 + (maxL + 11) + lo ≤ R.locals) (hrc : cells + mc ≤ R.cells) (hrs : slots + ms ≤ R.slots) (hc2 : cells + mc ≤ c2) (hs2 : slots + ms ≤ s2) (hst : (st.map fun v => v.category).sum ≤ 8) (hdg : decode cc pc = .ok (.invokespecial index, 3))
    (kk : V X nL p l e R s m args below meth c Q c2 s2 n' K' F' G' lv (pc + 3) (o.toList ++ st)) : V X nL p l e R s m args below meth c Q cells slots n K F G lv pc st0 := by
  intro H locs ls h1 h2 h3
  refine v_after (Nat.le_trans hC.hbs h2.1) (va_runIN (As := As) (rest := st) hC.fix hM ⟨va_cnB nn hC.hts (al_goodIn hq.2.2.2) rfl rfl rfl (hC.hZ.1 _ hq.1) (hC.hts _ hq.2.2.1) hd ⟨hrf, hrl⟩, hy1, hC.hts _ hq.2.1⟩ ⟨Wd.blind, fun U hU hW => ⟨rfl, Wd.of hC h1 h2 hU hW⟩⟩ rfl hnn h3.1 hst0 (lv_room hst) hdg ⟨hrc, hrs⟩) h2 h3 hc2 hs2 kk
theorem v_iret (hC : Cx X p s m args meth c own cc nL ret) {o : Option Value} {n' : Nat} {K' : Kt} {F' : Ft} {G' : Gt} {v : Int32} (hr : ret = some .int) (hQ : Q = MQ below (QW X o n' K' F' G') args s cells slots (Aft X)) (hdg : decode cc pc = .ok (.ireturn, 1)) (ho : some (.int v) = o) (hn : n = n') (hK : K = K') (hF : F = F') (hG : G = G') : V X nL p l e R s m args below meth c Q cells slots n K F G lv pc [.int v] := by
  subst hQ ho hn hK hF hG
  intro H locs ls h1 h2 h3
  exact W.iret hC.hx hC.hb (hC.hr.trans hr) (fun t ht hW => ⟨rfl, Wd.of hC h1 h2 ht hW, h2.F ht⟩) h2.2.2 hdg (hlocks := hC.hlk)
theorem v_zret (hC : Cx X p s m args meth c own cc nL ret) {o : Option Value} {n' : Nat} {K' : Kt} {F' : Ft} {G' : Gt} {v : Int32} {ty : FieldType} (hr : ret = some ty) (hnw : narrow ty (.int v) = .int v) (hQ : Q = MQ below (QW X o n' K' F' G') args s cells slots (Aft X)) (hdg : decode cc pc = .ok (.ireturn, 1)) (ho : some (.int v) = o) (hn : n = n') (hK : K = K') (hF : F = F') (hG : G = G') : V X nL p l e R s m args below meth c Q cells slots n K F G lv pc [.int v] := by
  subst hQ ho hn hK hF hG
  intro H locs ls h1 h2 h3
  exact W.zret hC.hx hC.hb (hC.hr.trans hr) hnw (fun t ht hW => ⟨rfl, Wd.of hC h1 h2 ht hW, h2.F ht⟩) h2.2.2 hdg (hlocks := hC.hlk)
theorem v_lret (hC : Cx X p s m args meth c own cc nL ret) {o : Option Value} {n' : Nat} {K' : Kt} {F' : Ft} {G' : Gt} {v : Int64} (hr : ret = some .long) (hQ : Q = MQ below (QW X o n' K' F' G') args s cells slots (Aft X)) (hdg : decode cc pc = .ok (.lreturn, 1)) (ho : some (.long v) = o) (hn : n = n') (hK : K = K') (hF : F = F') (hG : G = G') : V X nL p l e R s m args below meth c Q cells slots n K F G lv pc [.long v] := by
  subst hQ ho hn hK hF hG
  intro H locs ls h1 h2 h3
  exact W.lret hC.hx hC.hb (hC.hr.trans hr) (fun t ht hW => ⟨rfl, Wd.of hC h1 h2 ht hW, h2.F ht⟩) h2.2.2 hdg (hlocks := hC.hlk)
theorem v_dret (hC : Cx X p s m args meth c own cc nL ret) {o : Option Value} {n' : Nat} {K' : Kt} {F' : Ft} {G' : Gt} {v : UInt64} (hr : ret = some .double) (hQ : Q = MQ below (QW X o n' K' F' G') args s cells slots (Aft X)) (hdg : decode cc pc = .ok (.dreturn, 1)) (ho : some (.double v) = o) (hn : n = n') (hK : K = K') (hF : F = F') (hG : G = G') : V X nL p l e R s m args below meth c Q cells slots n K F G lv pc [.double v] := by
  subst hQ ho hn hK hF hG
  intro H locs ls h1 h2 h3
  exact W.dret hC.hx hC.hb (hC.hr.trans hr) (fun t ht hW => ⟨rfl, Wd.of hC h1 h2 ht hW, h2.F ht⟩) h2.2.2 hdg (hlocks := hC.hlk)
theorem v_vret (hC : Cx X p s m args meth c own cc nL ret) {o : Option Value} {n' : Nat} {K' : Kt} {F' : Ft} {G' : Gt} (hr : ret = none) (hQ : Q = MQ below (QW X o n' K' F' G') args s cells slots (Aft X)) (hdg : decode cc pc = .ok (.return_, 1)) (ho : none = o) (hn : n = n') (hK : K = K') (hF : F = F') (hG : G = G') : V X nL p l e R s m args below meth c Q cells slots n K F G lv pc [] := by
  subst hQ ho hn hK hF hG
  intro H locs ls h1 h2 h3
  exact W.vret hC.hx hC.hb (hC.hr.trans hr) (fun t ht hW => ⟨rfl, Wd.of hC h1 h2 ht hW, h2.F ht⟩) h2.2.2 hdg (hlocks := hC.hlk)
theorem v_aret (hC : Cx X p s m args meth c own cc nL ret) {o : Option Value} {n' : Nat} {K' : Kt} {F' : Ft} {G' : Gt} {v : Nat} {rt : FieldType} (hr : ret = some rt) (hrt : (∃ n, rt = .object n) ∨ ∃ t, rt = .array t) (hQ : Q = MQ below (QW X o n' K' F' G') args s cells slots (Aft X)) (hdg : decode cc pc = .ok (.areturn, 1)) (ho : some (.ref v) = o) (hn : n = n') (hK : K = K') (hF : F = F') (hG : G = G') : V X nL p l e R s m args below meth c Q cells slots n K F G lv pc [.ref v] := by
  subst hQ ho hn hK hF hG
  intro H locs ls h1 h2 h3
  exact W.aret hC.hx hC.hb (hC.hr.trans hr) hrt (Or.inr ⟨_, rfl⟩) (fun t ht hW => ⟨rfl, Wd.of hC h1 h2 ht hW, h2.F ht⟩) h2.2.2 hdg (hlocks := hC.hlk)
theorem v_aretq (hC : Cx X p s m args meth c own cc nL ret) {o : Option Value} {n' : Nat} {K' : Kt} {F' : Ft} {G' : Gt} {v : Option Nat} {rt : FieldType} (hr : ret = some rt) (hrt : (∃ n, rt = .object n) ∨ ∃ t, rt = .array t) (hQ : Q = MQ below (QW X o n' K' F' G') args s cells slots (Aft X)) (hdg : decode cc pc = .ok (.areturn, 1)) (ho : some (va_rf v) = o) (hn : n = n') (hK : K = K') (hF : F = F') (hG : G = G') : V X nL p l e R s m args below meth c Q cells slots n K F G lv pc [va_rf v] := by
  subst hQ ho hn hK hF hG
  intro H locs ls h1 h2 h3
  exact W.aret hC.hx hC.hb (hC.hr.trans hr) hrt (by cases v with | none => exact Or.inl rfl | some x => exact Or.inr ⟨x, rfl⟩) (fun t ht hW => ⟨rfl, Wd.of hC h1 h2 ht hW, h2.F ht⟩) h2.2.2 hdg (hlocks := hC.hlk)
end PB3
section PQW
theorem q_X0_11 : qN RX0 11 yX1_init "Exportcover" cX1_init 1 := ⟨nw_1092, aw_894, aw_59, aw_895⟩
theorem q_X0_32 : qV RX0 32 RX0 yX0_isBroke cX0_isBroke 1 (some .boolean) := ⟨aw_221, aw_222, aw_223, aw_74, aw_224⟩
theorem q_X0_36 : qV RX0 36 RX5 yX5_isTroubled cX5_isTroubled 1 (some .boolean) := ⟨aw_225, aw_226, aw_227, aw_65, aw_228⟩
theorem q_X2_31 : qV RX2 31 RX2 yX2_partOf cX2_partOf 2 (some .int) := ⟨aw_249, aw_250, aw_251, aw_77, aw_252⟩
theorem q_X2_35 : qV RX2 35 RX2 yX2_dueOf cX2_dueOf 2 (some .int) := ⟨aw_253, aw_255, aw_3, aw_77, aw_257⟩
theorem q_X2_38 : qV RX2 38 RX2 yX2_hadBy cX2_hadBy 2 (some .int) := ⟨aw_390, aw_391, aw_392, aw_77, aw_393⟩
theorem q_X3_22 : qS RX3 22 yJ9_min_7cf53 cJ9_min_7cf53 2 (some .int) := ⟨aw_270, aw_234, aw_67, aw_235⟩
theorem q_X4_9 : qN RX4 9 yX1_init "Exportcover" cX1_init 1 := ⟨nw_1056, aw_894, aw_59, aw_895⟩
theorem q_X5_30 : qS RX5 30 yJ9_min_7cf53 cJ9_min_7cf53 2 (some .int) := ⟨aw_233, aw_234, aw_67, aw_235⟩
theorem q_X5_36 : qV RX5 36 RX5 yX5_trouble cX5_trouble 1 (some .int) := ⟨aw_229, aw_230, aw_231, aw_65, aw_232⟩
theorem q_X5_43 : qV RX5 43 RX5 yX5_noticeOn cX5_noticeOn 3 (some .int) := ⟨aw_431, aw_424, aw_425, aw_65, aw_426⟩
theorem q_X7_59 : qV RX7 59 RX7 yX7_isOpen cX7_isOpen 1 (some .boolean) := ⟨aw_418, aw_419, aw_420, aw_76, aw_421⟩
theorem q_X7_63 : qS RX7 63 yJ9_min_7cf53 cJ9_min_7cf53 2 (some .int) := ⟨aw_422, aw_234, aw_67, aw_235⟩
theorem q_X7_69 : qV RX7 69 RX7 yX7_causeOnceDue cX7_causeOnceDue 4 (some .int) := ⟨aw_325, aw_326, aw_327, aw_76, aw_328⟩
theorem q_X7_79 : qV RX7 79 RX5 yX5_trouble cX5_trouble 1 (some .int) := ⟨aw_329, aw_230, aw_231, aw_65, aw_232⟩
theorem q_X7_84 : qV RX7 84 RX0 yX0_isBroke cX0_isBroke 1 (some .boolean) := ⟨aw_330, aw_222, aw_223, aw_74, aw_224⟩
theorem q_X7_93 : qV RX7 93 RX7 yX7_waiting cX7_waiting 1 (some .int) := ⟨aw_521, aw_522, aw_523, aw_76, aw_524⟩
theorem q_X7_98 : qI RX7 98 yX3_init cX3_init 4 := ⟨aw_1391, aw_1392, aw_78, aw_1393⟩
theorem q_X7_104 : qV RX7 104 RX7 yX7_isDamageSound cX7_isDamageSound 2 (some .boolean) := ⟨aw_381, aw_383, aw_19, aw_76, aw_385⟩
theorem q_X7_110 : qV RX7 110 RX2 yX2_isSplitSound cX2_isSplitSound 2 (some .boolean) := ⟨aw_386, aw_387, aw_388, aw_77, aw_389⟩
theorem q_X8_9 : qI RX8 9 yJx4a65c_init_da8c8 cJx4a65c_init_da8c8 1 := ⟨aw_867, aw_868, aw_58, aw_869⟩
theorem q_X8_30 : qN RX8 30 yX1_init "Exportcover" cX1_init 1 := ⟨nw_893, aw_894, aw_59, aw_895⟩
theorem q_X8_44 : qS RX8 44 yX8_isWithin cX8_isWithin 3 (some .boolean) := ⟨aw_92, aw_93, aw_55, aw_94⟩
theorem q_X8_48 : qS RX8 48 yX8_demandArgument cX8_demandArgument 1 none := ⟨aw_95, aw_96, aw_55, aw_97⟩
theorem q_X8_52 : qV RX8 52 RJx4a65c yJx4a65c_isEmpty_aae02 cJx4a65c_isEmpty_aae02 1 (some .boolean) := ⟨aw_949, aw_950, aw_951, aw_58, aw_952⟩
theorem q_X8_56 : qS RX8 56 yX8_demandState cX8_demandState 1 none := ⟨aw_170, aw_171, aw_55, aw_172⟩
theorem q_X8_59 : qS RX8 59 yX8_nextInRow cX8_nextInRow 1 (some .int) := ⟨aw_953, aw_954, aw_55, aw_955⟩
theorem q_X8_63 : qV RX8 63 RX8 yX8_addLand cX8_addLand 4 (some (.object "Exportcover$Land")) := ⟨aw_956, aw_958, aw_35, aw_55, aw_959⟩
theorem q_X8_67 : qV RX8 67 RX8 yX8_addExporter cX8_addExporter 2 (some (.object "Exportcover$Exporter")) := ⟨aw_1046, aw_1048, aw_39, aw_55, aw_1049⟩
theorem q_X8_71 : qV RX8 71 RX8 yX8_landAt cX8_landAt 2 (some (.object "Exportcover$Land")) := ⟨aw_1077, aw_1079, aw_40, aw_55, aw_1080⟩
theorem q_X8_75 : qV RX8 75 RX8 yX8_addBuyer cX8_addBuyer 4 (some (.object "Exportcover$Buyer")) := ⟨aw_1082, aw_1084, aw_41, aw_55, aw_1085⟩
theorem q_X8_84 : qV RX8 84 RX1 yX1_giveTo cX1_giveTo 3 none := ⟨aw_241, aw_242, aw_243, aw_59, aw_244⟩
theorem q_X8_89 : qV RX8 89 RJx4a65c yJx4a65c_size_8abf5 cJx4a65c_size_8abf5 1 (some .int) := ⟨aw_194, aw_195, aw_196, aw_58, aw_197⟩
theorem q_X8_116 : qV RX8 116 RX8 yX8_since cX8_since 3 (some .int) := ⟨aw_1423, aw_1425, aw_53, aw_55, aw_1426⟩
theorem q_X8_124 : qV RX8 124 RX8 yX8_buyerAt cX8_buyerAt 2 (some (.object "Exportcover$Buyer")) := ⟨aw_1133, aw_1135, aw_42, aw_55, aw_1136⟩
theorem q_X8_132 : qV RX8 132 RX0 yX0_isBroke cX0_isBroke 1 (some .boolean) := ⟨aw_1287, aw_222, aw_223, aw_74, aw_224⟩
theorem q_X8_141 : qV RX8 141 RX8 yX8_exporterAt cX8_exporterAt 2 (some (.object "Exportcover$Exporter")) := ⟨aw_1143, aw_1145, aw_43, aw_55, aw_1146⟩
theorem q_X8_154 : qV RX8 154 RX5 yX5_noticeOn cX5_noticeOn 3 (some .int) := ⟨aw_423, aw_424, aw_425, aw_65, aw_426⟩
theorem q_X8_163 : qS RX8 163 yX8_demandRival cX8_demandRival 1 none := ⟨aw_1148, aw_1149, aw_55, aw_1150⟩
theorem q_X8_169 : qI RX8 169 yX6_init cX6_init 6 := ⟨aw_1153, aw_1154, aw_75, aw_1155⟩
theorem q_X8_172 : qV RX8 172 RJx4a65c yJx4a65c_add_9ea2d cJx4a65c_add_9ea2d 2 (some .boolean) := ⟨aw_997, aw_998, aw_999, aw_58, aw_1000⟩
theorem q_X8_177 : qV RX8 177 RX8 yX8_policyAt cX8_policyAt 2 (some (.object "Exportcover$Policy")) := ⟨aw_275, aw_277, aw_6, aw_55, aw_278⟩
theorem q_X8_185 : qS RX8 185 yJ9_min_7cf53 cJ9_min_7cf53 2 (some .int) := ⟨aw_236, aw_234, aw_67, aw_235⟩
theorem q_X8_191 : qV RX8 191 RX6 yX6_grant cX6_grant 3 none := ⟨aw_1188, aw_1189, aw_1190, aw_75, aw_1191⟩
theorem q_X8_195 : qV RX8 195 RX6 yX6_grantedFor cX6_grantedFor 2 (some .int) := ⟨aw_468, aw_469, aw_470, aw_75, aw_471⟩
theorem q_X8_198 : qS RX8 198 yX8_demandGoods cX8_demandGoods 2 none := ⟨aw_1202, aw_1203, aw_55, aw_1204⟩
theorem q_X8_203 : qI RX8 203 yX7_init cX7_init 7 := ⟨aw_1205, aw_1206, aw_76, aw_1207⟩
theorem q_X8_210 : qV RX8 210 RX5 yX5_rateOn cX5_rateOn 7 (some .int) := ⟨aw_1274, aw_1275, aw_1276, aw_65, aw_1277⟩
theorem q_X8_213 : qV RX8 213 RX8 yX8_reasonOf cX8_reasonOf 8 (some .int) := ⟨aw_1278, aw_1280, aw_44, aw_55, aw_1281⟩
theorem q_X8_217 : qV RX8 217 RX8 yX8_insuredOf cX8_insuredOf 5 (some .int) := ⟨aw_1305, aw_1307, aw_49, aw_55, aw_1308⟩
theorem q_X8_220 : qV RX8 220 RX7 yX7_keepTerms cX7_keepTerms 5 none := ⟨aw_1309, aw_1310, aw_1311, aw_76, aw_1312⟩
theorem q_X8_231 : qV RX8 231 RX8 yX8_takePremium cX8_takePremium 4 none := ⟨aw_1313, aw_1315, aw_50, aw_55, aw_1316⟩
theorem q_X8_235 : qV RX8 235 RX0 yX0_canPay cX0_canPay 1 (some .boolean) := ⟨aw_217, aw_218, aw_219, aw_74, aw_220⟩
theorem q_X8_238 : qV RX8 238 RX8 yX8_firstToPay cX8_firstToPay 5 (some (.object "Exportcover$Shipment")) := ⟨aw_1321, aw_1323, aw_51, aw_55, aw_1324⟩
theorem q_X8_245 : qV RX8 245 RX8 yX8_settle cX8_settle 10 none := ⟨aw_237, aw_239, aw_2, aw_55, aw_240⟩
theorem q_X8_249 : qV RX8 249 RX8 yX8_shipmentAt cX8_shipmentAt 2 (some (.object "Exportcover$Shipment")) := ⟨aw_312, aw_314, aw_10, aw_55, aw_315⟩
theorem q_X8_259 : qV RX8 259 RX7 yX7_causeOn cX7_causeOn 2 (some .int) := ⟨aw_321, aw_322, aw_323, aw_76, aw_324⟩
theorem q_X8_262 : qV RX8 262 RX7 yX7_isOpen cX7_isOpen 1 (some .boolean) := ⟨aw_1333, aw_419, aw_420, aw_76, aw_421⟩
theorem q_X8_271 : qV RX8 271 RX7 yX7_claimableFrom cX7_claimableFrom 1 (some .int) := ⟨aw_517, aw_518, aw_519, aw_76, aw_520⟩
theorem q_X8_286 : qI RX8 286 yX2_init cX2_init 4 := ⟨aw_1343, aw_1344, aw_77, aw_1345⟩
theorem q_X8_296 : qV RX8 296 RX8 yX8_chestOfRival cX8_chestOfRival 2 (some (.object "Exportcover$Chest")) := ⟨aw_258, aw_260, aw_4, aw_55, aw_261⟩
theorem q_X8_306 : qV RX8 306 RJx4a65c yJx4a65c_get_915e3 cJx4a65c_get_915e3 2 (some (.object "java/lang/Object")) := ⟨aw_198, aw_199, aw_200, aw_58, aw_201⟩
theorem q_X8_314 : qV RX8 314 RX7 yX7_isToPay cX7_isToPay 1 (some .boolean) := ⟨aw_213, aw_214, aw_215, aw_76, aw_216⟩
theorem q_X8_317 : qV RX8 317 RX7 yX7_putOff cX7_putOff 4 none := ⟨aw_1385, aw_1386, aw_1387, aw_76, aw_1388⟩
theorem q_X8_323 : qV RX8 323 RX8 yX8_payBack cX8_payBack 4 none := ⟨aw_1415, aw_1417, aw_52, aw_55, aw_1418⟩
theorem q_X8_326 : qV RX8 326 RX8 yX8_payWhatIsDue cX8_payWhatIsDue 4 none := ⟨aw_189, aw_191, aw_1, aw_55, aw_193⟩
theorem q_X8_329 : qV RX8 329 RX8 yX8_payWhatIsPutOff cX8_payWhatIsPutOff 5 none := ⟨aw_262, aw_264, aw_5, aw_55, aw_265⟩
theorem q_X8_339 : qV RX8 339 RX8 yX8_figureOfBuyer cX8_figureOfBuyer 3 (some .int) := ⟨aw_436, aw_438, aw_24, aw_55, aw_439⟩
theorem q_X8_343 : qV RX8 343 RX8 yX8_figureOfExporter cX8_figureOfExporter 3 (some .int) := ⟨aw_448, aw_450, aw_27, aw_55, aw_451⟩
theorem q_X8_347 : qV RX8 347 RX8 yX8_figureOfPolicy cX8_figureOfPolicy 3 (some .int) := ⟨aw_296, aw_298, aw_7, aw_55, aw_299⟩
theorem q_X8_355 : qV RX8 355 RX8 yX8_figureOfShipment cX8_figureOfShipment 5 (some .int) := ⟨aw_317, aw_319, aw_11, aw_55, aw_320⟩
theorem q_X8_359 : qS RX8 359 yX8_figureOfPart cX8_figureOfPart 4 (some .int) := ⟨aw_512, aw_513, aw_55, aw_514⟩
theorem q_X8_363 : qV RX8 363 RX8 yX8_figureOfBooks cX8_figureOfBooks 2 (some .int) := ⟨aw_339, aw_341, aw_12, aw_55, aw_342⟩
theorem q_X8_377 : qV RX8 377 RX8 yX8_isInCircle cX8_isInCircle 2 (some .boolean) := ⟨aw_460, aw_462, aw_30, aw_55, aw_463⟩
theorem q_X8_381 : qV RX8 381 RX5 yX5_chanceToFail cX5_chanceToFail 1 (some .double) := ⟨aw_831, aw_832, aw_833, aw_65, aw_834⟩
theorem q_X8_385 : qV RX8 385 RX8 yX8_riskIn cX8_riskIn 5 (some .int) := ⟨aw_410, aw_412, aw_22, aw_55, aw_413⟩
theorem q_X8_389 : qS RX8 389 yX8_sumOfSet cX8_sumOfSet 4 (some .int) := ⟨aw_840, aw_841, aw_55, aw_842⟩
theorem q_X8_393 : qV RX8 393 RX8 yX8_chanceOfSet cX8_chanceOfSet 7 (some .double) := ⟨aw_843, aw_845, aw_34, aw_55, aw_846⟩
theorem q_X8_397 : qV RX8 397 RX8 yX8_areChestsSound cX8_areChestsSound 4 (some .boolean) := ⟨aw_372, aw_374, aw_18, aw_55, aw_375⟩
theorem q_X8_400 : qV RX8 400 RX8 yX8_balance cX8_balance 1 (some .int) := ⟨aw_343, aw_345, aw_13, aw_55, aw_346⟩
theorem q_X8_403 : qV RX8 403 RX7 yX7_isSoundAlone cX7_isSoundAlone 1 (some .boolean) := ⟨aw_377, aw_378, aw_379, aw_76, aw_380⟩
theorem q_X8_410 : qV RX8 410 RX8 yX8_digestOfLands cX8_digestOfLands 8 (some .long) := ⟨aw_400, aw_402, aw_20, aw_55, aw_403⟩
theorem q_X8_414 : qV RX8 414 RX8 yX8_digestOfBuyers cX8_digestOfBuyers 8 (some .long) := ⟨aw_432, aw_434, aw_23, aw_55, aw_435⟩
theorem q_X8_417 : qV RX8 417 RX8 yX8_digestOfExporters cX8_digestOfExporters 8 (some .long) := ⟨aw_444, aw_446, aw_26, aw_55, aw_447⟩
theorem q_X8_420 : qV RX8 420 RX8 yX8_digestOfPolicies cX8_digestOfPolicies 9 (some .long) := ⟨aw_464, aw_466, aw_31, aw_55, aw_467⟩
theorem q_X8_423 : qV RX8 423 RX8 yX8_digestOfShipments cX8_digestOfShipments 9 (some .long) := ⟨aw_476, aw_478, aw_33, aw_55, aw_479⟩
theorem q_X8_426 : qV RX8 426 RX8 yX8_circles cX8_circles 3 (some .int) := ⟨aw_822, aw_823, aw_824, aw_55, aw_825⟩
theorem q_X8_431 : qV RX8 431 RX8 yX8_expected cX8_expected 5 (some .double) := ⟨aw_827, aw_828, aw_829, aw_55, aw_830⟩
theorem q_X8_434 : qV RX8 434 RX8 yX8_probable cX8_probable 6 (some .double) := ⟨aw_836, aw_837, aw_838, aw_55, aw_839⟩
theorem q_X8_437 : qV RX8 437 RX8 yX8_isSound cX8_isSound 2 (some .boolean) := ⟨aw_847, aw_369, aw_370, aw_55, aw_371⟩
theorem q_X8_470 : qI RX8 470 yX5_init cX5_init 4 := ⟨aw_961, aw_962, aw_65, aw_963⟩
theorem q_X8_471 : qI RX8 471 yX0_init cX0_init 4 := ⟨aw_1087, aw_1088, aw_74, aw_1089⟩
theorem q_X8_474 : qI RX8 474 yX4_init cX4_init 2 := ⟨aw_1051, aw_1052, aw_70, aw_1053⟩
theorem q_X8_476 : qV RX8 476 RX7 yX7_atRisk cX7_atRisk 1 (some .int) := ⟨aw_414, aw_415, aw_416, aw_76, aw_417⟩
theorem q_X8_479 : qV RX8 479 RX7 yX7_isOverdue cX7_isOverdue 2 (some .boolean) := ⟨aw_1292, aw_1293, aw_1294, aw_76, aw_1295⟩
theorem q_X8_483 : qV RX8 483 RX5 yX5_isTroubled cX5_isTroubled 1 (some .boolean) := ⟨aw_1286, aw_226, aw_227, aw_65, aw_228⟩
theorem q_X8_486 : qV RX8 486 RX8 yX8_isCoverStopped cX8_isCoverStopped 6 (some .boolean) := ⟨aw_1288, aw_1290, aw_46, aw_55, aw_1291⟩
theorem q_X8_490 : qV RX8 490 RX5 yX5_longestTermOn cX5_longestTermOn 2 (some .int) := ⟨aw_427, aw_428, aw_429, aw_65, aw_430⟩
theorem q_X8_351 : qV RX8 351 RX8 yX8_riskUnder cX8_riskUnder 6 (some .int) := ⟨aw_472, aw_474, aw_32, aw_55, aw_475⟩
theorem q_X8_467 : qS RX8 467 yJ9_max_7cf53 cJ9_max_7cf53 2 (some .int) := ⟨aw_1300, aw_563, aw_67, aw_564⟩
theorem q_X8_493 : qV RX8 493 RX8 yX8_refusalOf cX8_refusalOf 4 (some .int) := ⟨aw_1282, aw_1284, aw_45, aw_55, aw_1285⟩
theorem q_X8_497 : qV RX8 497 RX8 yX8_roomFor cX8_roomFor 3 (some .int) := ⟨aw_1296, aw_1298, aw_47, aw_55, aw_1299⟩
theorem q_X8_500 : qV RX8 500 RX8 yX8_spaceIn cX8_spaceIn 2 (some .int) := ⟨aw_1301, aw_1303, aw_48, aw_55, aw_1304⟩
theorem q_X8_521 : qV RX8 521 RX2 yX2_recover cX2_recover 4 none := ⟨aw_245, aw_246, aw_247, aw_77, aw_248⟩
theorem q_X8_531 : qV RX8 531 RX3 yX3_nextOf cX3_nextOf 2 (some .int) := ⟨aw_266, aw_267, aw_268, aw_78, aw_269⟩
theorem q_X8_536 : qV RX8 536 RX4 yX4_suppliers cX4_suppliers 1 (some .int) := ⟨aw_364, aw_365, aw_366, aw_70, aw_367⟩
theorem q_X8_539 : qV RX8 539 RX8 yX8_reachedFrom cX8_reachedFrom 7 (some .int) := ⟨aw_359, aw_361, aw_17, aw_55, aw_362⟩
theorem q_X8_542 : qV RX8 542 RX8 yX8_isSuspect cX8_isSuspect 3 (some .boolean) := ⟨aw_355, aw_357, aw_16, aw_55, aw_358⟩
theorem q_X8_546 : qV RX8 546 RX5 yX5_trouble cX5_trouble 1 (some .int) := ⟨aw_409, aw_230, aw_231, aw_65, aw_232⟩
theorem q_X8_549 : qV RX8 549 RX8 yX8_debtOf cX8_debtOf 5 (some .int) := ⟨aw_440, aw_442, aw_25, aw_55, aw_443⟩
theorem q_X8_553 : qV RX8 553 RX8 yX8_countOfRunningPolicies cX8_countOfRunningPolicies 5 (some .int) := ⟨aw_452, aw_454, aw_28, aw_55, aw_455⟩
theorem q_X8_557 : qV RX8 557 RX8 yX8_countOfShipmentsBy cX8_countOfShipmentsBy 4 (some .int) := ⟨aw_456, aw_458, aw_29, aw_55, aw_459⟩
theorem q_X8_560 : qV RX8 560 RX8 yX8_countOfShipmentsUnder cX8_countOfShipmentsUnder 4 (some .int) := ⟨aw_300, aw_302, aw_8, aw_55, aw_303⟩
theorem q_X8_564 : qV RX8 564 RX8 yX8_premiumsUnder cX8_premiumsUnder 5 (some .int) := ⟨aw_304, aw_306, aw_9, aw_55, aw_307⟩
theorem q_X8_579 : qV RX8 579 RX7 yX7_marks cX7_marks 2 (some .int) := ⟨aw_331, aw_332, aw_333, aw_76, aw_334⟩
theorem q_X8_594 : qV RX8 594 RX2 yX2_hadBy cX2_hadBy 2 (some .int) := ⟨aw_515, aw_391, aw_392, aw_77, aw_393⟩
theorem q_X8_597 : qV RX8 597 RX2 yX2_partOf cX2_partOf 2 (some .int) := ⟨aw_516, aw_250, aw_251, aw_77, aw_252⟩
theorem q_X8_600 : qV RX8 600 RX8 yX8_countOfMarked cX8_countOfMarked 4 (some .int) := ⟨aw_347, aw_349, aw_14, aw_55, aw_350⟩
theorem q_X8_603 : qV RX8 603 RX8 yX8_countOfSuspect cX8_countOfSuspect 3 (some .int) := ⟨aw_351, aw_353, aw_15, aw_55, aw_354⟩
theorem q_X8_606 : qV RX8 606 RJ4 yJ4_append_bf812 cJ4_append_bf812 2 (some (.object "java/lang/StringBuilder")) := ⟨aw_790, aw_659, aw_660, aw_80, aw_661⟩
theorem q_X8_612 : qV RX8 612 RJ4 yJ4_append_15ec4 cJ4_append_15ec4 2 (some (.object "java/lang/StringBuilder")) := ⟨aw_792, aw_541, aw_542, aw_80, aw_543⟩
theorem q_X8_615 : qV RX8 615 RJ4 yJ4_append_cf468 cJ4_append_cf468 2 (some (.object "java/lang/StringBuilder")) := ⟨aw_793, aw_794, aw_795, aw_80, aw_796⟩
theorem q_X8_620 : qS RX8 620 yX8_writeIfMarked cX8_writeIfMarked 4 none := ⟨aw_814, aw_815, aw_55, aw_816⟩
theorem q_X8_335 : qV RX8 335 RX8 yX8_figureOfLand cX8_figureOfLand 3 (some .int) := ⟨aw_405, aw_407, aw_21, aw_55, aw_408⟩
theorem q_X8_368 : qI RX8 368 yJ4_init_da8c8 cJ4_init_da8c8 1 := ⟨aw_482, aw_483, aw_80, aw_484⟩
theorem q_X8_632 : qV RX8 632 RJ4 yJ4_setLength_d00df cJ4_setLength_d00df 2 none := ⟨aw_525, aw_526, aw_527, aw_80, aw_528⟩
theorem q_X8_369 : qS RX8 369 yX8_writeSlip cX8_writeSlip 4 none := ⟨aw_787, aw_788, aw_55, aw_789⟩
theorem q_X8_635 : qV RX8 635 RJ4 yJ4_length_8abf5 cJ4_length_8abf5 1 (some .int) := ⟨aw_821, aw_705, aw_1474, aw_80, aw_706⟩
theorem q_L_11 : qI RL 11 yX8_init cX8_init 1 := ⟨aw_861, aw_862, aw_55, aw_863⟩
theorem q_L_12 : qS RL 12 yL_cell cL_cell 2 (some .int) := ⟨aw_853, aw_854, aw_54, aw_855⟩
theorem q_L_18 : qS RL 18 yL_below cL_below 2 (some .int) := ⟨aw_849, aw_850, aw_54, aw_851⟩
theorem q_L_22 : qV RL 22 RX8 yX8_market cX8_market 7 (some .int) := ⟨aw_945, aw_946, aw_947, aw_55, aw_948⟩
theorem q_L_26 : qV RL 26 RX8 yX8_land cX8_land 3 (some .int) := ⟨aw_1116, aw_1117, aw_1118, aw_55, aw_1119⟩
theorem q_L_29 : qV RL 29 RX8 yX8_exporter cX8_exporter 1 (some .int) := ⟨aw_1121, aw_1122, aw_1123, aw_55, aw_1124⟩
theorem q_L_33 : qV RL 33 RX8 yX8_buyer cX8_buyer 4 (some .int) := ⟨aw_1125, aw_1126, aw_1127, aw_55, aw_1128⟩
theorem q_L_36 : qV RL 36 RX8 yX8_earn cX8_earn 4 (some .int) := ⟨aw_1129, aw_1130, aw_1131, aw_55, aw_1132⟩
theorem q_L_39 : qV RL 39 RX8 yX8_policy cX8_policy 7 (some .int) := ⟨aw_1139, aw_1140, aw_1141, aw_55, aw_1142⟩
theorem q_L_43 : qV RL 43 RX8 yX8_limit cX8_limit 7 (some .int) := ⟨aw_1184, aw_1185, aw_1186, aw_55, aw_1187⟩
theorem q_L_47 : qV RL 47 RX8 yX8_books cX8_books 2 (some .int) := ⟨aw_335, aw_336, aw_337, aw_55, aw_338⟩
theorem q_L_50 : qS RL 50 yJ9_max_7cf53 cJ9_max_7cf53 2 (some .int) := ⟨aw_1197, aw_563, aw_67, aw_564⟩
theorem q_L_55 : qV RL 55 RX8 yX8_ship cX8_ship 11 (some .int) := ⟨aw_1198, aw_1199, aw_1200, aw_55, aw_1201⟩
theorem q_L_59 : qV RL 59 RX8 yX8_pay cX8_pay 9 (some .int) := ⟨aw_1317, aw_1318, aw_1319, aw_55, aw_1320⟩
theorem q_L_62 : qV RL 62 RX8 yX8_report cX8_report 3 (some .int) := ⟨aw_1325, aw_1326, aw_1327, aw_55, aw_1328⟩
theorem q_L_65 : qV RL 65 RX8 yX8_dispute cX8_dispute 3 (some .int) := ⟨aw_1329, aw_1330, aw_1331, aw_55, aw_1332⟩
theorem q_L_68 : qV RL 68 RX8 yX8_judge cX8_judge 4 (some .int) := ⟨aw_1334, aw_1335, aw_1336, aw_55, aw_1337⟩
theorem q_L_72 : qV RL 72 RX8 yX8_claim cX8_claim 7 (some .int) := ⟨aw_1338, aw_1339, aw_1340, aw_55, aw_1341⟩
theorem q_L_75 : qV RL 75 RX8 yX8_salvage cX8_salvage 5 (some .int) := ⟨aw_1377, aw_1378, aw_1379, aw_55, aw_1380⟩
theorem q_L_78 : qV RL 78 RX8 yX8_club cX8_club 8 (some .int) := ⟨aw_1381, aw_1382, aw_1383, aw_55, aw_1384⟩
theorem q_L_81 : qV RL 81 RX8 yX8_inspect cX8_inspect 3 (some .boolean) := ⟨aw_1411, aw_1412, aw_1413, aw_55, aw_1414⟩
theorem q_L_85 : qV RL 85 RX8 yX8_stop cX8_stop 5 (some .int) := ⟨aw_1419, aw_1420, aw_1421, aw_55, aw_1422⟩
theorem q_L_88 : qV RL 88 RX8 yX8_war cX8_war 5 (some .int) := ⟨aw_1427, aw_1428, aw_1429, aw_55, aw_1430⟩
theorem q_L_91 : qV RL 91 RX8 yX8_broke cX8_broke 4 (some .boolean) := ⟨aw_1431, aw_1432, aw_1433, aw_55, aw_1434⟩
theorem q_L_94 : qV RL 94 RX8 yX8_notice cX8_notice 5 (some .int) := ⟨aw_1435, aw_1436, aw_1437, aw_55, aw_1438⟩
theorem q_L_97 : qV RL 97 RX8 yX8_link cX8_link 6 (some .int) := ⟨aw_1439, aw_1440, aw_1441, aw_55, aw_1442⟩
theorem q_L_101 : qV RL 101 RX8 yX8_cut cX8_cut 7 (some .int) := ⟨aw_1443, aw_1444, aw_1445, aw_55, aw_1446⟩
theorem q_L_108 : qS RL 108 yL_office cL_office 5 (some (.object "Exportcover")) := ⟨aw_857, aw_858, aw_54, aw_859⟩
theorem q_L_116 : qV RL 116 RX8 yX8_ofShipment cX8_ofShipment 4 (some .int) := ⟨aw_308, aw_309, aw_310, aw_55, aw_311⟩
theorem q_L_119 : qV RL 119 RX8 yX8_pass cX8_pass 3 (some .int) := ⟨aw_88, aw_89, aw_90, aw_55, aw_91⟩
theorem q_L_122 : qV RL 122 RX8 yX8_ofPolicy cX8_ofPolicy 4 (some .int) := ⟨aw_271, aw_272, aw_273, aw_55, aw_274⟩
theorem q_L_125 : qS RL 125 yL_isSo cL_isSo 10 (some .boolean) := ⟨aw_1447, aw_1448, aw_54, aw_1449⟩
theorem q_L_129 : qV RL 129 RX8 yX8_digest cX8_digest 4 (some .long) := ⟨aw_394, aw_395, aw_396, aw_55, aw_397⟩
theorem q_L_133 : qV RL 133 RX8 yX8_isSound cX8_isSound 2 (some .boolean) := ⟨aw_368, aw_369, aw_370, aw_55, aw_371⟩
theorem q_L_137 : qV RL 137 RX8 yX8_ofExporter cX8_ofExporter 4 (some .int) := ⟨aw_1450, aw_1451, aw_1452, aw_55, aw_1453⟩
theorem q_L_140 : qV RL 140 RX8 yX8_ofBuyer cX8_ofBuyer 4 (some .int) := ⟨aw_1454, aw_1455, aw_1456, aw_55, aw_1457⟩
theorem q_L_143 : qV RL 143 RX8 yX8_part cX8_part 5 (some .int) := ⟨aw_1458, aw_1459, aw_1460, aw_55, aw_1461⟩
theorem q_Jxc12de_1 : qI RJxc12de 1 yJxa1e45_init_da8c8 cJxa1e45_init_da8c8 1 := ⟨aw_873, aw_874, aw_56, aw_875⟩
theorem q_Jx4a65c_1 : qI RJx4a65c 1 yJxc12de_init_da8c8 cJxc12de_init_da8c8 1 := ⟨aw_870, aw_871, aw_57, aw_872⟩
theorem q_Jx4a65c_73 : qS RJx4a65c 73 yJ8_newLength_cabcc cJ8_newLength_cabcc 4 (some .int) := ⟨aw_1013, aw_560, aw_66, aw_561⟩
theorem q_Jx4a65c_66 : qS RJx4a65c 66 yJ7_copyOf_1904c cJ7_copyOf_1904c 2 (some (.array (.object "java/lang/Object"))) := ⟨aw_1014, aw_1015, aw_68, aw_1016⟩
theorem q_Jx4a65c_79 : qS RJx4a65c 79 yJ9_max_7cf53 cJ9_max_7cf53 2 (some .int) := ⟨aw_1044, aw_563, aw_67, aw_564⟩
theorem q_Jx4a65c_69 : qV RJx4a65c 69 RJx4a65c yJx4a65c_grow_92f84 cJx4a65c_grow_92f84 4 (some (.array (.object "java/lang/Object"))) := ⟨aw_1009, aw_1011, aw_38, aw_58, aw_1012⟩
theorem q_Jx4a65c_118 : qS RJx4a65c 118 yJ15_checkIndex_7cf53 cJ15_checkIndex_7cf53 2 (some .int) := ⟨aw_202, aw_203, aw_72, aw_204⟩
theorem q_Jx4a65c_123 : qV RJx4a65c 123 RJx4a65c yJx4a65c_elementData_915e3 cJx4a65c_elementData_915e3 2 (some (.object "java/lang/Object")) := ⟨aw_208, aw_209, aw_210, aw_58, aw_211⟩
theorem q_Jx4a65c_129 : qV RJx4a65c 129 RJx4a65c yJx4a65c_grow_d5877 cJx4a65c_grow_d5877 1 (some (.array (.object "java/lang/Object"))) := ⟨aw_1005, aw_1007, aw_37, aw_58, aw_1008⟩
theorem q_Jx4a65c_131 : qV RJx4a65c 131 RJx4a65c yJx4a65c_add_72be8 cJx4a65c_add_72be8 4 none := ⟨aw_1001, aw_1003, aw_36, aw_58, aw_1004⟩
theorem q_J15_105 : qS RJ15 105 yJ3_checkIndex_8e157 cJ3_checkIndex_8e157 3 (some .int) := ⟨aw_205, aw_206, aw_73, aw_207⟩
theorem q_J8_194 : qS RJ8 194 yJ9_max_7cf53 cJ9_max_7cf53 2 (some .int) := ⟨aw_562, aw_563, aw_67, aw_564⟩
theorem q_J8_201 : qS RJ8 201 yJ8_hugeLength_7cf53 cJ8_hugeLength_7cf53 3 (some .int) := ⟨aw_566, aw_567, aw_66, aw_568⟩
end PQW
end
section
section PTY
def TBuyer (K : Kt) (G : Gt) (a : Nat) : Prop := (K a).1 = 4 ∧ (G a 1 = some (gp G a 1) ∧ (K (gp G a 1)).1 = 3) ∧ (G a 3 = some (gp G a 3) ∧ (K (gp G a 3)).1 = 2)
def TExp (K : Kt) (G : Gt) (a : Nat) : Prop := (K a).1 = 5 ∧ (G a 1 = some (gp G a 1) ∧ (K (gp G a 1)).1 = 2)
def TPol (K : Kt) (G : Gt) (a : Nat) : Prop := (K a).1 = 6 ∧ (G a 1 = some (gp G a 1) ∧ TExp K G (gp G a 1)) ∧ (G a 5 = some (gp G a 5) ∧ K (gp G a 5) = (20, 12))
def TShip (K : Kt) (G : Gt) (a : Nat) : Prop := (K a).1 = 7 ∧ (G a 0 = some (gp G a 0) ∧ TPol K G (gp G a 0)) ∧ (G a 1 = some (gp G a 1) ∧ TBuyer K G (gp G a 1)) ∧ (¬ G a 14 = none → (K (gp G a 14)).1 = 8) ∧ (¬ G a 15 = none → (K (gp G a 15)).1 = 9)
def capOK (c : Nat) : Prop := c = 0 ∨ c = 10 ∨ c = 15 ∨ c = 22 ∨ c = 33 ∨ c = 49
abbrev el (G : Gt) (q i : Nat) : Nat := gp G (gp G q 1) i
def TLst (P : Nat → Prop) (K : Kt) (G : Gt) (q : Nat) : Prop := (K q).1 = 10 ∧ (K q).2 ≤ 48 ∧ G q 1 = some (gp G q 1) ∧ (K (gp G q 1)).1 = 21 ∧ capOK (K (gp G q 1)).2 ∧ (K q).2 ≤ (K (gp G q 1)).2 ∧ ∀ i, i < (K q).2 → G (gp G q 1) i = some (el G q i) ∧ P (el G q i)
def TMain (K : Kt) (G : Gt) (a : Nat) : Prop := (K a).1 = 1 ∧ (G a 0 = some (gp G a 0) ∧ TLst (fun x => (K x).1 = 3) K G (gp G a 0)) ∧ (G a 1 = some (gp G a 1) ∧ TLst (TBuyer K G) K G (gp G a 1)) ∧ (G a 2 = some (gp G a 2) ∧ TLst (TExp K G) K G (gp G a 2)) ∧ (G a 3 = some (gp G a 3) ∧ TLst (TPol K G) K G (gp G a 3)) ∧ (G a 4 = some (gp G a 4) ∧ TLst (TShip K G) K G (gp G a 4)) ∧ (G a 5 = some (gp G a 5) ∧ (K (gp G a 5)).1 = 2) ∧ (G a 6 = some (gp G a 6) ∧ (K (gp G a 6)).1 = 2) ∧ (G a 7 = some (gp G a 7) ∧ (K (gp G a 7)).1 = 2) ∧ (G a 8 = some (gp G a 8) ∧ (K (gp G a 8)).1 = 2)
theorem TLst.lt {P : Nat → Prop} {K : Kt} {G : Gt} {q : Nat} (h : TLst P K G q) : (K q).2 < 2147483648 := by have := h.2.1; omega
theorem TLst.el {P : Nat → Prop} {K : Kt} {G : Gt} {q : Nat} (h : TLst P K G q) {i : Nat} (hi : i < (K q).2) : P (el G q i) := (h.2.2.2.2.2.2 i hi).2
theorem lp_z {j b : Nat} (h : j + 0 = b) : nI b ≤ nI j := by
  subst h
  exact Int32.le_refl _
theorem lp_s {j b k : Nat} (h : j + (k + 1) = b) (hb : b < 2147483648) : ¬ nI b ≤ nI j := by
  intro q
  have := (nI_leI hb (by omega)).mp q
  omega
theorem nI_inc (j : Nat) : nI j + Int32.ofInt 1 = nI (j + 1) := nI_1 j
variable {X : Xt} {p : Program} {l : Launch} {e : Env} {R : Room} {s : State} {m : MethodId} {args : Array Value} {below : List Frame} {meth : Method} {c : Code} {cc : ByteArray} {nL : Nat} {ret : Option FieldType}
variable {Q : State → Prop} {cells slots n : Nat} {K : Kt} {F : Ft} {G : Gt} {lv lv' : List (Nat × Value)} {pc : Nat} {st : List Value}
theorem pf_X0_12 (hC : Cx X p s m args meth c RX0 cc nL ret) (hin : meth.name = "<init>") {a q : Nat} (ha : (K a).1 = 4) (hdg : decode cc pc = .ok (.putfield 12, 3)) (kk : V X nL p l e R s m args below meth c Q cells slots n K F (up2 G a 3 (some q)) lv (pc + 3) st) : V X nL p l e R s m args below meth c Q cells slots n K F G lv pc (.ref q :: .ref a :: st) := v_putF hC (by rw [ha]; decide) (fun q => by rw [q] at ha; cases ha) (ce_4 ha) rfl inX0 tyX0 tyX0_ok nmX0 (k := 3) (by decide) aw_1100 (fun _ h => h) rfl hin rfl (ty := tyX0 3) (tyX0_ok 3 (by decide)) rfl rfl (Nat.le_of_ble_eq_true rfl) (fun x hx => ⟨rfl, rfl, up2_a _ _ hx⟩) (by rw [ce_4 ha]; simp [up2, va_up, va_rf]) hdg kk
theorem pf_X0_18 (hC : Cx X p s m args meth c RX0 cc nL ret) {a : Nat} {v : Int32} (ha : (K a).1 = 4) (hdg : decode cc pc = .ok (.putfield 18, 3)) (kk : V X nL p l e R s m args below meth c Q cells slots n K (up2 F a 4 v) G lv (pc + 3) st) : V X nL p l e R s m args below meth c Q cells slots n K F G lv pc (.int v :: .ref a :: st) := v_put hC (by rw [ha]; decide) (fun q => by rw [q] at ha; cases ha) (ce_4 ha) rfl inX0 tyX0 tyX0_ok nmX0 (k := 4) (by decide) aw_1102 (fun _ h => h) rfl (ty := tyX0 4) (tyX0_ok 4 (by decide)) rfl rfl (Nat.le_of_ble_eq_true rfl) (fun x hx => ⟨rfl, up2_a _ _ hx, rfl⟩) (by rw [ce_4 ha]; simp [up2, va_up]) hdg kk
theorem pf_X0_22 (hC : Cx X p s m args meth c RX0 cc nL ret) (hin : meth.name = "<init>") {a : Nat} {v : Int32} (ha : (K a).1 = 4) (hdg : decode cc pc = .ok (.putfield 22, 3)) (kk : V X nL p l e R s m args below meth c Q cells slots n K (up2 F a 0 v) G lv (pc + 3) st) : V X nL p l e R s m args below meth c Q cells slots n K F G lv pc (.int v :: .ref a :: st) := v_putF hC (by rw [ha]; decide) (fun q => by rw [q] at ha; cases ha) (ce_4 ha) rfl inX0 tyX0 tyX0_ok nmX0 (k := 0) (by decide) aw_1093 (fun _ h => h) rfl hin rfl (ty := tyX0 0) (tyX0_ok 0 (by decide)) rfl rfl (Nat.le_of_ble_eq_true rfl) (fun x hx => ⟨rfl, up2_a _ _ hx, rfl⟩) (by rw [ce_4 ha]; simp [up2, va_up]) hdg kk
theorem pf_X0_25 (hC : Cx X p s m args meth c RX0 cc nL ret) (hin : meth.name = "<init>") {a q : Nat} (ha : (K a).1 = 4) (hdg : decode cc pc = .ok (.putfield 25, 3)) (kk : V X nL p l e R s m args below meth c Q cells slots n K F (up2 G a 1 (some q)) lv (pc + 3) st) : V X nL p l e R s m args below meth c Q cells slots n K F G lv pc (.ref q :: .ref a :: st) := v_putF hC (by rw [ha]; decide) (fun q => by rw [q] at ha; cases ha) (ce_4 ha) rfl inX0 tyX0 tyX0_ok nmX0 (k := 1) (by decide) aw_1095 (fun _ h => h) rfl hin rfl (ty := tyX0 1) (tyX0_ok 1 (by decide)) rfl rfl (Nat.le_of_ble_eq_true rfl) (fun x hx => ⟨rfl, rfl, up2_a _ _ hx⟩) (by rw [ce_4 ha]; simp [up2, va_up, va_rf]) hdg kk
theorem pf_X0_29 (hC : Cx X p s m args meth c RX0 cc nL ret) (hin : meth.name = "<init>") {a : Nat} {v : Int32} (ha : (K a).1 = 4) (hdg : decode cc pc = .ok (.putfield 29, 3)) (kk : V X nL p l e R s m args below meth c Q cells slots n K (up2 F a 2 v) G lv (pc + 3) st) : V X nL p l e R s m args below meth c Q cells slots n K F G lv pc (.int v :: .ref a :: st) := v_putF hC (by rw [ha]; decide) (fun q => by rw [q] at ha; cases ha) (ce_4 ha) rfl inX0 tyX0 tyX0_ok nmX0 (k := 2) (by decide) aw_1098 (fun _ h => h) rfl hin rfl (ty := tyX0 2) (tyX0_ok 2 (by decide)) rfl rfl (Nat.le_of_ble_eq_true rfl) (fun x hx => ⟨rfl, up2_a _ _ hx, rfl⟩) (by rw [ce_4 ha]; simp [up2, va_up]) hdg kk
theorem gf_X0_18 (hC : Cx X p s m args meth c RX0 cc nL ret) {a : Nat} (ha : (K a).1 = 4) (hdg : decode cc pc = .ok (.getfield 18, 3)) (kk : V X nL p l e R s m args below meth c Q cells slots n K F G lv (pc + 3) (.int (F a 4) :: st)) : V X nL p l e R s m args below meth c Q cells slots n K F G lv pc (.ref a :: st) := v_get hC (by rw [ha]; decide) (ce_4 ha) rfl inX0 (k := 4) (by decide) aw_1102 (fun _ h => h) rfl hdg kk
theorem gq_X0_25 (hC : Cx X p s m args meth c RX0 cc nL ret) {a : Nat} (ha : (K a).1 = 4) (hdg : decode cc pc = .ok (.getfield 25, 3)) (kk : V X nL p l e R s m args below meth c Q cells slots n K F G lv (pc + 3) (va_rf (G a 1) :: st)) : V X nL p l e R s m args below meth c Q cells slots n K F G lv pc (.ref a :: st) := v_get hC (by rw [ha]; decide) (ce_4 ha) rfl inX0 (k := 1) (by decide) aw_1095 (fun _ h => h) rfl hdg kk
theorem gf_X0_25 (hC : Cx X p s m args meth c RX0 cc nL ret) {a q : Nat} (ha : (K a).1 = 4) (hq : G a 1 = some q) (hdg : decode cc pc = .ok (.getfield 25, 3)) (kk : V X nL p l e R s m args below meth c Q cells slots n K F G lv (pc + 3) (.ref q :: st)) : V X nL p l e R s m args below meth c Q cells slots n K F G lv pc (.ref a :: st) := gq_X0_25 hC ha hdg (by rw [hq]; exact kk)
theorem gf_X1_7 (hC : Cx X p s m args meth c RX1 cc nL ret) {a : Nat} (ha : (K a).1 = 2) (hdg : decode cc pc = .ok (.getfield 7, 3)) (kk : V X nL p l e R s m args below meth c Q cells slots n K F G lv (pc + 3) (.int (F a 0) :: st)) : V X nL p l e R s m args below meth c Q cells slots n K F G lv pc (.ref a :: st) := v_get hC (by rw [ha]; decide) (ce_2 ha) rfl inX1 (k := 0) (by decide) aw_897 (fun _ h => h) rfl hdg kk
theorem pf_X1_7 (hC : Cx X p s m args meth c RX1 cc nL ret) {a : Nat} {v : Int32} (ha : (K a).1 = 2) (hdg : decode cc pc = .ok (.putfield 7, 3)) (kk : V X nL p l e R s m args below meth c Q cells slots n K (up2 F a 0 v) G lv (pc + 3) st) : V X nL p l e R s m args below meth c Q cells slots n K F G lv pc (.int v :: .ref a :: st) := v_put hC (by rw [ha]; decide) (fun q => by rw [q] at ha; cases ha) (ce_2 ha) rfl inX1 tyX1 tyX1_ok nmX1 (k := 0) (by decide) aw_897 (fun _ h => h) rfl (ty := tyX1 0) (tyX1_ok 0 (by decide)) rfl rfl (Nat.le_of_ble_eq_true rfl) (fun x hx => ⟨rfl, up2_a _ _ hx, rfl⟩) (by rw [ce_2 ha]; simp [up2, va_up]) hdg kk
theorem pf_X2_7 (hC : Cx X p s m args meth c RX2 cc nL ret) (hin : meth.name = "<init>") {a : Nat} {v : Int32} (ha : (K a).1 = 8) (hdg : decode cc pc = .ok (.putfield 7, 3)) (kk : V X nL p l e R s m args below meth c Q cells slots n K (up2 F a 0 v) G lv (pc + 3) st) : V X nL p l e R s m args below meth c Q cells slots n K F G lv pc (.int v :: .ref a :: st) := v_putF hC (by rw [ha]; decide) (fun q => by rw [q] at ha; cases ha) (ce_8 ha) rfl inX2 tyX2 tyX2_ok nmX2 (k := 0) (by decide) aw_1347 (fun _ h => h) rfl hin rfl (ty := tyX2 0) (tyX2_ok 0 (by decide)) rfl rfl (Nat.le_of_ble_eq_true rfl) (fun x hx => ⟨rfl, up2_a _ _ hx, rfl⟩) (by rw [ce_8 ha]; simp [up2, va_up]) hdg kk
theorem pf_X2_13 (hC : Cx X p s m args meth c RX2 cc nL ret) (hin : meth.name = "<init>") {a : Nat} {v : Int32} (ha : (K a).1 = 8) (hdg : decode cc pc = .ok (.putfield 13, 3)) (kk : V X nL p l e R s m args below meth c Q cells slots n K (up2 F a 1 v) G lv (pc + 3) st) : V X nL p l e R s m args below meth c Q cells slots n K F G lv pc (.int v :: .ref a :: st) := v_putF hC (by rw [ha]; decide) (fun q => by rw [q] at ha; cases ha) (ce_8 ha) rfl inX2 tyX2 tyX2_ok nmX2 (k := 1) (by decide) aw_1350 (fun _ h => h) rfl hin rfl (ty := tyX2 1) (tyX2_ok 1 (by decide)) rfl rfl (Nat.le_of_ble_eq_true rfl) (fun x hx => ⟨rfl, up2_a _ _ hx, rfl⟩) (by rw [ce_8 ha]; simp [up2, va_up]) hdg kk
theorem pf_X2_16 (hC : Cx X p s m args meth c RX2 cc nL ret) (hin : meth.name = "<init>") {a : Nat} {v : Int32} (ha : (K a).1 = 8) (hdg : decode cc pc = .ok (.putfield 16, 3)) (kk : V X nL p l e R s m args below meth c Q cells slots n K (up2 F a 2 v) G lv (pc + 3) st) : V X nL p l e R s m args below meth c Q cells slots n K F G lv pc (.int v :: .ref a :: st) := v_putF hC (by rw [ha]; decide) (fun q => by rw [q] at ha; cases ha) (ce_8 ha) rfl inX2 tyX2 tyX2_ok nmX2 (k := 2) (by decide) aw_1352 (fun _ h => h) rfl hin rfl (ty := tyX2 2) (tyX2_ok 2 (by decide)) rfl rfl (Nat.le_of_ble_eq_true rfl) (fun x hx => ⟨rfl, up2_a _ _ hx, rfl⟩) (by rw [ce_8 ha]; simp [up2, va_up]) hdg kk
theorem gf_X2_7 (hC : Cx X p s m args meth c RX2 cc nL ret) {a : Nat} (ha : (K a).1 = 8) (hdg : decode cc pc = .ok (.getfield 7, 3)) (kk : V X nL p l e R s m args below meth c Q cells slots n K F G lv (pc + 3) (.int (F a 0) :: st)) : V X nL p l e R s m args below meth c Q cells slots n K F G lv pc (.ref a :: st) := v_get hC (by rw [ha]; decide) (ce_8 ha) rfl inX2 (k := 0) (by decide) aw_1347 (fun _ h => h) rfl hdg kk
theorem gf_X2_13 (hC : Cx X p s m args meth c RX2 cc nL ret) {a : Nat} (ha : (K a).1 = 8) (hdg : decode cc pc = .ok (.getfield 13, 3)) (kk : V X nL p l e R s m args below meth c Q cells slots n K F G lv (pc + 3) (.int (F a 1) :: st)) : V X nL p l e R s m args below meth c Q cells slots n K F G lv pc (.ref a :: st) := v_get hC (by rw [ha]; decide) (ce_8 ha) rfl inX2 (k := 1) (by decide) aw_1350 (fun _ h => h) rfl hdg kk
theorem gf_X2_16 (hC : Cx X p s m args meth c RX2 cc nL ret) {a : Nat} (ha : (K a).1 = 8) (hdg : decode cc pc = .ok (.getfield 16, 3)) (kk : V X nL p l e R s m args below meth c Q cells slots n K F G lv (pc + 3) (.int (F a 2) :: st)) : V X nL p l e R s m args below meth c Q cells slots n K F G lv pc (.ref a :: st) := v_get hC (by rw [ha]; decide) (ce_8 ha) rfl inX2 (k := 2) (by decide) aw_1352 (fun _ h => h) rfl hdg kk
theorem gf_X2_19 (hC : Cx X p s m args meth c RX2 cc nL ret) {a : Nat} (ha : (K a).1 = 8) (hdg : decode cc pc = .ok (.getfield 19, 3)) (kk : V X nL p l e R s m args below meth c Q cells slots n K F G lv (pc + 3) (.int (F a 4) :: st)) : V X nL p l e R s m args below meth c Q cells slots n K F G lv pc (.ref a :: st) := v_get hC (by rw [ha]; decide) (ce_8 ha) rfl inX2 (k := 4) (by decide) aw_1357 (fun _ h => h) rfl hdg kk
theorem gf_X2_22 (hC : Cx X p s m args meth c RX2 cc nL ret) {a : Nat} (ha : (K a).1 = 8) (hdg : decode cc pc = .ok (.getfield 22, 3)) (kk : V X nL p l e R s m args below meth c Q cells slots n K F G lv (pc + 3) (.int (F a 5) :: st)) : V X nL p l e R s m args below meth c Q cells slots n K F G lv pc (.ref a :: st) := v_get hC (by rw [ha]; decide) (ce_8 ha) rfl inX2 (k := 5) (by decide) aw_1358 (fun _ h => h) rfl hdg kk
theorem gf_X2_25 (hC : Cx X p s m args meth c RX2 cc nL ret) {a : Nat} (ha : (K a).1 = 8) (hdg : decode cc pc = .ok (.getfield 25, 3)) (kk : V X nL p l e R s m args below meth c Q cells slots n K F G lv (pc + 3) (.int (F a 6) :: st)) : V X nL p l e R s m args below meth c Q cells slots n K F G lv pc (.ref a :: st) := v_get hC (by rw [ha]; decide) (ce_8 ha) rfl inX2 (k := 6) (by decide) aw_1360 (fun _ h => h) rfl hdg kk
theorem gf_X2_28 (hC : Cx X p s m args meth c RX2 cc nL ret) {a : Nat} (ha : (K a).1 = 8) (hdg : decode cc pc = .ok (.getfield 28, 3)) (kk : V X nL p l e R s m args below meth c Q cells slots n K F G lv (pc + 3) (.int (F a 3) :: st)) : V X nL p l e R s m args below meth c Q cells slots n K F G lv pc (.ref a :: st) := v_get hC (by rw [ha]; decide) (ce_8 ha) rfl inX2 (k := 3) (by decide) aw_1354 (fun _ h => h) rfl hdg kk
theorem pf_X2_28 (hC : Cx X p s m args meth c RX2 cc nL ret) {a : Nat} {v : Int32} (ha : (K a).1 = 8) (hdg : decode cc pc = .ok (.putfield 28, 3)) (kk : V X nL p l e R s m args below meth c Q cells slots n K (up2 F a 3 v) G lv (pc + 3) st) : V X nL p l e R s m args below meth c Q cells slots n K F G lv pc (.int v :: .ref a :: st) := v_put hC (by rw [ha]; decide) (fun q => by rw [q] at ha; cases ha) (ce_8 ha) rfl inX2 tyX2 tyX2_ok nmX2 (k := 3) (by decide) aw_1354 (fun _ h => h) rfl (ty := tyX2 3) (tyX2_ok 3 (by decide)) rfl rfl (Nat.le_of_ble_eq_true rfl) (fun x hx => ⟨rfl, up2_a _ _ hx, rfl⟩) (by rw [ce_8 ha]; simp [up2, va_up]) hdg kk
theorem pf_X2_22 (hC : Cx X p s m args meth c RX2 cc nL ret) {a : Nat} {v : Int32} (ha : (K a).1 = 8) (hdg : decode cc pc = .ok (.putfield 22, 3)) (kk : V X nL p l e R s m args below meth c Q cells slots n K (up2 F a 5 v) G lv (pc + 3) st) : V X nL p l e R s m args below meth c Q cells slots n K F G lv pc (.int v :: .ref a :: st) := v_put hC (by rw [ha]; decide) (fun q => by rw [q] at ha; cases ha) (ce_8 ha) rfl inX2 tyX2 tyX2_ok nmX2 (k := 5) (by decide) aw_1358 (fun _ h => h) rfl (ty := tyX2 5) (tyX2_ok 5 (by decide)) rfl rfl (Nat.le_of_ble_eq_true rfl) (fun x hx => ⟨rfl, up2_a _ _ hx, rfl⟩) (by rw [ce_8 ha]; simp [up2, va_up]) hdg kk
theorem pf_X2_25 (hC : Cx X p s m args meth c RX2 cc nL ret) {a : Nat} {v : Int32} (ha : (K a).1 = 8) (hdg : decode cc pc = .ok (.putfield 25, 3)) (kk : V X nL p l e R s m args below meth c Q cells slots n K (up2 F a 6 v) G lv (pc + 3) st) : V X nL p l e R s m args below meth c Q cells slots n K F G lv pc (.int v :: .ref a :: st) := v_put hC (by rw [ha]; decide) (fun q => by rw [q] at ha; cases ha) (ce_8 ha) rfl inX2 tyX2 tyX2_ok nmX2 (k := 6) (by decide) aw_1360 (fun _ h => h) rfl (ty := tyX2 6) (tyX2_ok 6 (by decide)) rfl rfl (Nat.le_of_ble_eq_true rfl) (fun x hx => ⟨rfl, up2_a _ _ hx, rfl⟩) (by rw [ce_8 ha]; simp [up2, va_up]) hdg kk
theorem pf_X2_19 (hC : Cx X p s m args meth c RX2 cc nL ret) {a : Nat} {v : Int32} (ha : (K a).1 = 8) (hdg : decode cc pc = .ok (.putfield 19, 3)) (kk : V X nL p l e R s m args below meth c Q cells slots n K (up2 F a 4 v) G lv (pc + 3) st) : V X nL p l e R s m args below meth c Q cells slots n K F G lv pc (.int v :: .ref a :: st) := v_put hC (by rw [ha]; decide) (fun q => by rw [q] at ha; cases ha) (ce_8 ha) rfl inX2 tyX2 tyX2_ok nmX2 (k := 4) (by decide) aw_1357 (fun _ h => h) rfl (ty := tyX2 4) (tyX2_ok 4 (by decide)) rfl rfl (Nat.le_of_ble_eq_true rfl) (fun x hx => ⟨rfl, up2_a _ _ hx, rfl⟩) (by rw [ce_8 ha]; simp [up2, va_up]) hdg kk
theorem pf_X3_7 (hC : Cx X p s m args meth c RX3 cc nL ret) (hin : meth.name = "<init>") {a : Nat} {v : Int32} (ha : (K a).1 = 9) (hdg : decode cc pc = .ok (.putfield 7, 3)) (kk : V X nL p l e R s m args below meth c Q cells slots n K (up2 F a 0 v) G lv (pc + 3) st) : V X nL p l e R s m args below meth c Q cells slots n K F G lv pc (.int v :: .ref a :: st) := v_putF hC (by rw [ha]; decide) (fun q => by rw [q] at ha; cases ha) (ce_9 ha) rfl inX3 tyX3 tyX3_ok nmX3 (k := 0) (by decide) aw_1395 (fun _ h => h) rfl hin rfl (ty := tyX3 0) (tyX3_ok 0 (by decide)) rfl rfl (Nat.le_of_ble_eq_true rfl) (fun x hx => ⟨rfl, up2_a _ _ hx, rfl⟩) (by rw [ce_9 ha]; simp [up2, va_up]) hdg kk
theorem pf_X3_13 (hC : Cx X p s m args meth c RX3 cc nL ret) (hin : meth.name = "<init>") {a : Nat} {v : Int32} (ha : (K a).1 = 9) (hdg : decode cc pc = .ok (.putfield 13, 3)) (kk : V X nL p l e R s m args below meth c Q cells slots n K (up2 F a 1 v) G lv (pc + 3) st) : V X nL p l e R s m args below meth c Q cells slots n K F G lv pc (.int v :: .ref a :: st) := v_putF hC (by rw [ha]; decide) (fun q => by rw [q] at ha; cases ha) (ce_9 ha) rfl inX3 tyX3 tyX3_ok nmX3 (k := 1) (by decide) aw_1397 (fun _ h => h) rfl hin rfl (ty := tyX3 1) (tyX3_ok 1 (by decide)) rfl rfl (Nat.le_of_ble_eq_true rfl) (fun x hx => ⟨rfl, up2_a _ _ hx, rfl⟩) (by rw [ce_9 ha]; simp [up2, va_up]) hdg kk
theorem pf_X3_16 (hC : Cx X p s m args meth c RX3 cc nL ret) (hin : meth.name = "<init>") {a : Nat} {v : Int32} (ha : (K a).1 = 9) (hdg : decode cc pc = .ok (.putfield 16, 3)) (kk : V X nL p l e R s m args below meth c Q cells slots n K (up2 F a 2 v) G lv (pc + 3) st) : V X nL p l e R s m args below meth c Q cells slots n K F G lv pc (.int v :: .ref a :: st) := v_putF hC (by rw [ha]; decide) (fun q => by rw [q] at ha; cases ha) (ce_9 ha) rfl inX3 tyX3 tyX3_ok nmX3 (k := 2) (by decide) aw_1400 (fun _ h => h) rfl hin rfl (ty := tyX3 2) (tyX3_ok 2 (by decide)) rfl rfl (Nat.le_of_ble_eq_true rfl) (fun x hx => ⟨rfl, up2_a _ _ hx, rfl⟩) (by rw [ce_9 ha]; simp [up2, va_up]) hdg kk
theorem gf_X3_19 (hC : Cx X p s m args meth c RX3 cc nL ret) {a : Nat} (ha : (K a).1 = 9) (hdg : decode cc pc = .ok (.getfield 19, 3)) (kk : V X nL p l e R s m args below meth c Q cells slots n K F G lv (pc + 3) (.int (F a 3) :: st)) : V X nL p l e R s m args below meth c Q cells slots n K F G lv pc (.ref a :: st) := v_get hC (by rw [ha]; decide) (ce_9 ha) rfl inX3 (k := 3) (by decide) aw_1401 (fun _ h => h) rfl hdg kk
theorem pf_X3_19 (hC : Cx X p s m args meth c RX3 cc nL ret) {a : Nat} {v : Int32} (ha : (K a).1 = 9) (hdg : decode cc pc = .ok (.putfield 19, 3)) (kk : V X nL p l e R s m args below meth c Q cells slots n K (up2 F a 3 v) G lv (pc + 3) st) : V X nL p l e R s m args below meth c Q cells slots n K F G lv pc (.int v :: .ref a :: st) := v_put hC (by rw [ha]; decide) (fun q => by rw [q] at ha; cases ha) (ce_9 ha) rfl inX3 tyX3 tyX3_ok nmX3 (k := 3) (by decide) aw_1401 (fun _ h => h) rfl (ty := tyX3 3) (tyX3_ok 3 (by decide)) rfl rfl (Nat.le_of_ble_eq_true rfl) (fun x hx => ⟨rfl, up2_a _ _ hx, rfl⟩) (by rw [ce_9 ha]; simp [up2, va_up]) hdg kk
theorem gf_X3_16 (hC : Cx X p s m args meth c RX3 cc nL ret) {a : Nat} (ha : (K a).1 = 9) (hdg : decode cc pc = .ok (.getfield 16, 3)) (kk : V X nL p l e R s m args below meth c Q cells slots n K F G lv (pc + 3) (.int (F a 2) :: st)) : V X nL p l e R s m args below meth c Q cells slots n K F G lv pc (.ref a :: st) := v_get hC (by rw [ha]; decide) (ce_9 ha) rfl inX3 (k := 2) (by decide) aw_1400 (fun _ h => h) rfl hdg kk
theorem gf_X3_7 (hC : Cx X p s m args meth c RX3 cc nL ret) {a : Nat} (ha : (K a).1 = 9) (hdg : decode cc pc = .ok (.getfield 7, 3)) (kk : V X nL p l e R s m args below meth c Q cells slots n K F G lv (pc + 3) (.int (F a 0) :: st)) : V X nL p l e R s m args below meth c Q cells slots n K F G lv pc (.ref a :: st) := v_get hC (by rw [ha]; decide) (ce_9 ha) rfl inX3 (k := 0) (by decide) aw_1395 (fun _ h => h) rfl hdg kk
theorem pf_X4_10 (hC : Cx X p s m args meth c RX4 cc nL ret) (hin : meth.name = "<init>") {a q : Nat} (ha : (K a).1 = 5) (hdg : decode cc pc = .ok (.putfield 10, 3)) (kk : V X nL p l e R s m args below meth c Q cells slots n K F (up2 G a 1 (some q)) lv (pc + 3) st) : V X nL p l e R s m args below meth c Q cells slots n K F G lv pc (.ref q :: .ref a :: st) := v_putF hC (by rw [ha]; decide) (fun q => by rw [q] at ha; cases ha) (ce_5 ha) rfl inX4 tyX4 tyX4_ok nmX4 (k := 1) (by decide) aw_1059 (fun _ h => h) rfl hin rfl (ty := tyX4 1) (tyX4_ok 1 (by decide)) rfl rfl (Nat.le_of_ble_eq_true rfl) (fun x hx => ⟨rfl, rfl, up2_a _ _ hx⟩) (by rw [ce_5 ha]; simp [up2, va_up, va_rf]) hdg kk
theorem pf_X4_16 (hC : Cx X p s m args meth c RX4 cc nL ret) (hin : meth.name = "<init>") {a : Nat} {v : Int32} (ha : (K a).1 = 5) (hdg : decode cc pc = .ok (.putfield 16, 3)) (kk : V X nL p l e R s m args below meth c Q cells slots n K (up2 F a 0 v) G lv (pc + 3) st) : V X nL p l e R s m args below meth c Q cells slots n K F G lv pc (.int v :: .ref a :: st) := v_putF hC (by rw [ha]; decide) (fun q => by rw [q] at ha; cases ha) (ce_5 ha) rfl inX4 tyX4 tyX4_ok nmX4 (k := 0) (by decide) aw_1057 (fun _ h => h) rfl hin rfl (ty := tyX4 0) (tyX4_ok 0 (by decide)) rfl rfl (Nat.le_of_ble_eq_true rfl) (fun x hx => ⟨rfl, up2_a _ _ hx, rfl⟩) (by rw [ce_5 ha]; simp [up2, va_up]) hdg kk
theorem gf_X4_20 (hC : Cx X p s m args meth c RX4 cc nL ret) {a : Nat} (ha : (K a).1 = 5) (hdg : decode cc pc = .ok (.getfield 20, 3)) (kk : V X nL p l e R s m args below meth c Q cells slots n K F G lv (pc + 3) (.int (F a 2) :: st)) : V X nL p l e R s m args below meth c Q cells slots n K F G lv pc (.ref a :: st) := v_get hC (by rw [ha]; decide) (ce_5 ha) rfl inX4 (k := 2) (by decide) aw_1061 (fun _ h => h) rfl hdg kk
theorem gf_X4_23 (hC : Cx X p s m args meth c RX4 cc nL ret) {a : Nat} (ha : (K a).1 = 5) (hdg : decode cc pc = .ok (.getfield 23, 3)) (kk : V X nL p l e R s m args below meth c Q cells slots n K F G lv (pc + 3) (.int (F a 3) :: st)) : V X nL p l e R s m args below meth c Q cells slots n K F G lv pc (.ref a :: st) := v_get hC (by rw [ha]; decide) (ce_5 ha) rfl inX4 (k := 3) (by decide) aw_1063 (fun _ h => h) rfl hdg kk
theorem pf_X5_9 (hC : Cx X p s m args meth c RX5 cc nL ret) {a : Nat} {v : Int32} (ha : (K a).1 = 3) (hdg : decode cc pc = .ok (.putfield 9, 3)) (kk : V X nL p l e R s m args below meth c Q cells slots n K (up2 F a 4 v) G lv (pc + 3) st) : V X nL p l e R s m args below meth c Q cells slots n K F G lv pc (.int v :: .ref a :: st) := v_put hC (by rw [ha]; decide) (fun q => by rw [q] at ha; cases ha) (ce_3 ha) rfl inX5 tyX5 tyX5_ok nmX5 (k := 4) (by decide) aw_972 (fun _ h => h) rfl (ty := tyX5 4) (tyX5_ok 4 (by decide)) rfl rfl (Nat.le_of_ble_eq_true rfl) (fun x hx => ⟨rfl, up2_a _ _ hx, rfl⟩) (by rw [ce_3 ha]; simp [up2, va_up]) hdg kk
theorem pf_X5_15 (hC : Cx X p s m args meth c RX5 cc nL ret) {a : Nat} {v : Int32} (ha : (K a).1 = 3) (hdg : decode cc pc = .ok (.putfield 15, 3)) (kk : V X nL p l e R s m args below meth c Q cells slots n K (up2 F a 5 v) G lv (pc + 3) st) : V X nL p l e R s m args below meth c Q cells slots n K F G lv pc (.int v :: .ref a :: st) := v_put hC (by rw [ha]; decide) (fun q => by rw [q] at ha; cases ha) (ce_3 ha) rfl inX5 tyX5 tyX5_ok nmX5 (k := 5) (by decide) aw_974 (fun _ h => h) rfl (ty := tyX5 5) (tyX5_ok 5 (by decide)) rfl rfl (Nat.le_of_ble_eq_true rfl) (fun x hx => ⟨rfl, up2_a _ _ hx, rfl⟩) (by rw [ce_3 ha]; simp [up2, va_up]) hdg kk
theorem pf_X5_18 (hC : Cx X p s m args meth c RX5 cc nL ret) {a : Nat} {v : Int32} (ha : (K a).1 = 3) (hdg : decode cc pc = .ok (.putfield 18, 3)) (kk : V X nL p l e R s m args below meth c Q cells slots n K (up2 F a 7 v) G lv (pc + 3) st) : V X nL p l e R s m args below meth c Q cells slots n K F G lv pc (.int v :: .ref a :: st) := v_put hC (by rw [ha]; decide) (fun q => by rw [q] at ha; cases ha) (ce_3 ha) rfl inX5 tyX5 tyX5_ok nmX5 (k := 7) (by decide) aw_978 (fun _ h => h) rfl (ty := tyX5 7) (tyX5_ok 7 (by decide)) rfl rfl (Nat.le_of_ble_eq_true rfl) (fun x hx => ⟨rfl, up2_a _ _ hx, rfl⟩) (by rw [ce_3 ha]; simp [up2, va_up]) hdg kk
theorem pf_X5_21 (hC : Cx X p s m args meth c RX5 cc nL ret) (hin : meth.name = "<init>") {a : Nat} {v : Int32} (ha : (K a).1 = 3) (hdg : decode cc pc = .ok (.putfield 21, 3)) (kk : V X nL p l e R s m args below meth c Q cells slots n K (up2 F a 0 v) G lv (pc + 3) st) : V X nL p l e R s m args below meth c Q cells slots n K F G lv pc (.int v :: .ref a :: st) := v_putF hC (by rw [ha]; decide) (fun q => by rw [q] at ha; cases ha) (ce_3 ha) rfl inX5 tyX5 tyX5_ok nmX5 (k := 0) (by decide) aw_965 (fun _ h => h) rfl hin rfl (ty := tyX5 0) (tyX5_ok 0 (by decide)) rfl rfl (Nat.le_of_ble_eq_true rfl) (fun x hx => ⟨rfl, up2_a _ _ hx, rfl⟩) (by rw [ce_3 ha]; simp [up2, va_up]) hdg kk
theorem pf_X5_24 (hC : Cx X p s m args meth c RX5 cc nL ret) {a : Nat} {v : Int32} (ha : (K a).1 = 3) (hdg : decode cc pc = .ok (.putfield 24, 3)) (kk : V X nL p l e R s m args below meth c Q cells slots n K (up2 F a 1 v) G lv (pc + 3) st) : V X nL p l e R s m args below meth c Q cells slots n K F G lv pc (.int v :: .ref a :: st) := v_put hC (by rw [ha]; decide) (fun q => by rw [q] at ha; cases ha) (ce_3 ha) rfl inX5 tyX5 tyX5_ok nmX5 (k := 1) (by decide) aw_967 (fun _ h => h) rfl (ty := tyX5 1) (tyX5_ok 1 (by decide)) rfl rfl (Nat.le_of_ble_eq_true rfl) (fun x hx => ⟨rfl, up2_a _ _ hx, rfl⟩) (by rw [ce_3 ha]; simp [up2, va_up]) hdg kk
theorem pf_X5_27 (hC : Cx X p s m args meth c RX5 cc nL ret) {a : Nat} {v : Int32} (ha : (K a).1 = 3) (hdg : decode cc pc = .ok (.putfield 27, 3)) (kk : V X nL p l e R s m args below meth c Q cells slots n K (up2 F a 2 v) G lv (pc + 3) st) : V X nL p l e R s m args below meth c Q cells slots n K F G lv pc (.int v :: .ref a :: st) := v_put hC (by rw [ha]; decide) (fun q => by rw [q] at ha; cases ha) (ce_3 ha) rfl inX5 tyX5 tyX5_ok nmX5 (k := 2) (by decide) aw_969 (fun _ h => h) rfl (ty := tyX5 2) (tyX5_ok 2 (by decide)) rfl rfl (Nat.le_of_ble_eq_true rfl) (fun x hx => ⟨rfl, up2_a _ _ hx, rfl⟩) (by rw [ce_3 ha]; simp [up2, va_up]) hdg kk
theorem gf_X5_9 (hC : Cx X p s m args meth c RX5 cc nL ret) {a : Nat} (ha : (K a).1 = 3) (hdg : decode cc pc = .ok (.getfield 9, 3)) (kk : V X nL p l e R s m args below meth c Q cells slots n K F G lv (pc + 3) (.int (F a 4) :: st)) : V X nL p l e R s m args below meth c Q cells slots n K F G lv pc (.ref a :: st) := v_get hC (by rw [ha]; decide) (ce_3 ha) rfl inX5 (k := 4) (by decide) aw_972 (fun _ h => h) rfl hdg kk
theorem gf_X5_15 (hC : Cx X p s m args meth c RX5 cc nL ret) {a : Nat} (ha : (K a).1 = 3) (hdg : decode cc pc = .ok (.getfield 15, 3)) (kk : V X nL p l e R s m args below meth c Q cells slots n K F G lv (pc + 3) (.int (F a 5) :: st)) : V X nL p l e R s m args below meth c Q cells slots n K F G lv pc (.ref a :: st) := v_get hC (by rw [ha]; decide) (ce_3 ha) rfl inX5 (k := 5) (by decide) aw_974 (fun _ h => h) rfl hdg kk
theorem gf_X5_18 (hC : Cx X p s m args meth c RX5 cc nL ret) {a : Nat} (ha : (K a).1 = 3) (hdg : decode cc pc = .ok (.getfield 18, 3)) (kk : V X nL p l e R s m args below meth c Q cells slots n K F G lv (pc + 3) (.int (F a 7) :: st)) : V X nL p l e R s m args below meth c Q cells slots n K F G lv pc (.ref a :: st) := v_get hC (by rw [ha]; decide) (ce_3 ha) rfl inX5 (k := 7) (by decide) aw_978 (fun _ h => h) rfl hdg kk
theorem gf_X5_40 (hC : Cx X p s m args meth c RX5 cc nL ret) {a : Nat} (ha : (K a).1 = 3) (hdg : decode cc pc = .ok (.getfield 40, 3)) (kk : V X nL p l e R s m args below meth c Q cells slots n K F G lv (pc + 3) (.int (F a 6) :: st)) : V X nL p l e R s m args below meth c Q cells slots n K F G lv pc (.ref a :: st) := v_get hC (by rw [ha]; decide) (ce_3 ha) rfl inX5 (k := 6) (by decide) aw_976 (fun _ h => h) rfl hdg kk
theorem gf_X5_24 (hC : Cx X p s m args meth c RX5 cc nL ret) {a : Nat} (ha : (K a).1 = 3) (hdg : decode cc pc = .ok (.getfield 24, 3)) (kk : V X nL p l e R s m args below meth c Q cells slots n K F G lv (pc + 3) (.int (F a 1) :: st)) : V X nL p l e R s m args below meth c Q cells slots n K F G lv pc (.ref a :: st) := v_get hC (by rw [ha]; decide) (ce_3 ha) rfl inX5 (k := 1) (by decide) aw_967 (fun _ h => h) rfl hdg kk
theorem pf_X6_9 (hC : Cx X p s m args meth c RX6 cc nL ret) (hin : meth.name = "<init>") {a q : Nat} (ha : (K a).1 = 6) (hdg : decode cc pc = .ok (.putfield 9, 3)) (kk : V X nL p l e R s m args below meth c Q cells slots n K F (up2 G a 5 (some q)) lv (pc + 3) st) : V X nL p l e R s m args below meth c Q cells slots n K F G lv pc (.ref q :: .ref a :: st) := v_putF hC (by rw [ha]; decide) (fun q => by rw [q] at ha; cases ha) (ce_6 ha) rfl inX6 tyX6 tyX6_ok nmX6 (k := 5) (by decide) aw_1167 (fun _ h => h) rfl hin rfl (ty := tyX6 5) (tyX6_ok 5 (by decide)) rfl rfl (Nat.le_of_ble_eq_true rfl) (fun x hx => ⟨rfl, rfl, up2_a _ _ hx⟩) (by rw [ce_6 ha]; simp [up2, va_up, va_rf]) hdg kk
theorem pf_X6_15 (hC : Cx X p s m args meth c RX6 cc nL ret) (hin : meth.name = "<init>") {a : Nat} {v : Int32} (ha : (K a).1 = 6) (hdg : decode cc pc = .ok (.putfield 15, 3)) (kk : V X nL p l e R s m args below meth c Q cells slots n K (up2 F a 0 v) G lv (pc + 3) st) : V X nL p l e R s m args below meth c Q cells slots n K F G lv pc (.int v :: .ref a :: st) := v_putF hC (by rw [ha]; decide) (fun q => by rw [q] at ha; cases ha) (ce_6 ha) rfl inX6 tyX6 tyX6_ok nmX6 (k := 0) (by decide) aw_1157 (fun _ h => h) rfl hin rfl (ty := tyX6 0) (tyX6_ok 0 (by decide)) rfl rfl (Nat.le_of_ble_eq_true rfl) (fun x hx => ⟨rfl, up2_a _ _ hx, rfl⟩) (by rw [ce_6 ha]; simp [up2, va_up]) hdg kk
theorem pf_X6_19 (hC : Cx X p s m args meth c RX6 cc nL ret) (hin : meth.name = "<init>") {a q : Nat} (ha : (K a).1 = 6) (hdg : decode cc pc = .ok (.putfield 19, 3)) (kk : V X nL p l e R s m args below meth c Q cells slots n K F (up2 G a 1 (some q)) lv (pc + 3) st) : V X nL p l e R s m args below meth c Q cells slots n K F G lv pc (.ref q :: .ref a :: st) := v_putF hC (by rw [ha]; decide) (fun q => by rw [q] at ha; cases ha) (ce_6 ha) rfl inX6 tyX6 tyX6_ok nmX6 (k := 1) (by decide) aw_1159 (fun _ h => h) rfl hin rfl (ty := tyX6 1) (tyX6_ok 1 (by decide)) rfl rfl (Nat.le_of_ble_eq_true rfl) (fun x hx => ⟨rfl, rfl, up2_a _ _ hx⟩) (by rw [ce_6 ha]; simp [up2, va_up, va_rf]) hdg kk
theorem pf_X6_23 (hC : Cx X p s m args meth c RX6 cc nL ret) (hin : meth.name = "<init>") {a : Nat} {v : Int32} (ha : (K a).1 = 6) (hdg : decode cc pc = .ok (.putfield 23, 3)) (kk : V X nL p l e R s m args below meth c Q cells slots n K (up2 F a 2 v) G lv (pc + 3) st) : V X nL p l e R s m args below meth c Q cells slots n K F G lv pc (.int v :: .ref a :: st) := v_putF hC (by rw [ha]; decide) (fun q => by rw [q] at ha; cases ha) (ce_6 ha) rfl inX6 tyX6 tyX6_ok nmX6 (k := 2) (by decide) aw_1161 (fun _ h => h) rfl hin rfl (ty := tyX6 2) (tyX6_ok 2 (by decide)) rfl rfl (Nat.le_of_ble_eq_true rfl) (fun x hx => ⟨rfl, up2_a _ _ hx, rfl⟩) (by rw [ce_6 ha]; simp [up2, va_up]) hdg kk
theorem pf_X6_26 (hC : Cx X p s m args meth c RX6 cc nL ret) (hin : meth.name = "<init>") {a : Nat} {v : Int32} (ha : (K a).1 = 6) (hdg : decode cc pc = .ok (.putfield 26, 3)) (kk : V X nL p l e R s m args below meth c Q cells slots n K (up2 F a 3 v) G lv (pc + 3) st) : V X nL p l e R s m args below meth c Q cells slots n K F G lv pc (.int v :: .ref a :: st) := v_putF hC (by rw [ha]; decide) (fun q => by rw [q] at ha; cases ha) (ce_6 ha) rfl inX6 tyX6 tyX6_ok nmX6 (k := 3) (by decide) aw_1163 (fun _ h => h) rfl hin rfl (ty := tyX6 3) (tyX6_ok 3 (by decide)) rfl rfl (Nat.le_of_ble_eq_true rfl) (fun x hx => ⟨rfl, up2_a _ _ hx, rfl⟩) (by rw [ce_6 ha]; simp [up2, va_up]) hdg kk
theorem pf_X6_29 (hC : Cx X p s m args meth c RX6 cc nL ret) (hin : meth.name = "<init>") {a : Nat} {v : Int32} (ha : (K a).1 = 6) (hdg : decode cc pc = .ok (.putfield 29, 3)) (kk : V X nL p l e R s m args below meth c Q cells slots n K (up2 F a 4 v) G lv (pc + 3) st) : V X nL p l e R s m args below meth c Q cells slots n K F G lv pc (.int v :: .ref a :: st) := v_putF hC (by rw [ha]; decide) (fun q => by rw [q] at ha; cases ha) (ce_6 ha) rfl inX6 tyX6 tyX6_ok nmX6 (k := 4) (by decide) aw_1165 (fun _ h => h) rfl hin rfl (ty := tyX6 4) (tyX6_ok 4 (by decide)) rfl rfl (Nat.le_of_ble_eq_true rfl) (fun x hx => ⟨rfl, up2_a _ _ hx, rfl⟩) (by rw [ce_6 ha]; simp [up2, va_up]) hdg kk
theorem gq_X6_9 (hC : Cx X p s m args meth c RX6 cc nL ret) {a : Nat} (ha : (K a).1 = 6) (hdg : decode cc pc = .ok (.getfield 9, 3)) (kk : V X nL p l e R s m args below meth c Q cells slots n K F G lv (pc + 3) (va_rf (G a 5) :: st)) : V X nL p l e R s m args below meth c Q cells slots n K F G lv pc (.ref a :: st) := v_get hC (by rw [ha]; decide) (ce_6 ha) rfl inX6 (k := 5) (by decide) aw_1167 (fun _ h => h) rfl hdg kk
theorem gf_X6_9 (hC : Cx X p s m args meth c RX6 cc nL ret) {a q : Nat} (ha : (K a).1 = 6) (hq : G a 5 = some q) (hdg : decode cc pc = .ok (.getfield 9, 3)) (kk : V X nL p l e R s m args below meth c Q cells slots n K F G lv (pc + 3) (.ref q :: st)) : V X nL p l e R s m args below meth c Q cells slots n K F G lv pc (.ref a :: st) := gq_X6_9 hC ha hdg (by rw [hq]; exact kk)
theorem pf_X7_9 (hC : Cx X p s m args meth c RX7 cc nL ret) (hin : meth.name = "<init>") {a q : Nat} (ha : (K a).1 = 7) (hdg : decode cc pc = .ok (.putfield 9, 3)) (kk : V X nL p l e R s m args below meth c Q cells slots n K F (up2 G a 0 (some q)) lv (pc + 3) st) : V X nL p l e R s m args below meth c Q cells slots n K F G lv pc (.ref q :: .ref a :: st) := v_putF hC (by rw [ha]; decide) (fun q => by rw [q] at ha; cases ha) (ce_7 ha) rfl inX7 tyX7 tyX7_ok nmX7 (k := 0) (by decide) aw_1209 (fun _ h => h) rfl hin rfl (ty := tyX7 0) (tyX7_ok 0 (by decide)) rfl rfl (Nat.le_of_ble_eq_true rfl) (fun x hx => ⟨rfl, rfl, up2_a _ _ hx⟩) (by rw [ce_7 ha]; simp [up2, va_up, va_rf]) hdg kk
theorem pf_X7_15 (hC : Cx X p s m args meth c RX7 cc nL ret) (hin : meth.name = "<init>") {a q : Nat} (ha : (K a).1 = 7) (hdg : decode cc pc = .ok (.putfield 15, 3)) (kk : V X nL p l e R s m args below meth c Q cells slots n K F (up2 G a 1 (some q)) lv (pc + 3) st) : V X nL p l e R s m args below meth c Q cells slots n K F G lv pc (.ref q :: .ref a :: st) := v_putF hC (by rw [ha]; decide) (fun q => by rw [q] at ha; cases ha) (ce_7 ha) rfl inX7 tyX7 tyX7_ok nmX7 (k := 1) (by decide) aw_1211 (fun _ h => h) rfl hin rfl (ty := tyX7 1) (tyX7_ok 1 (by decide)) rfl rfl (Nat.le_of_ble_eq_true rfl) (fun x hx => ⟨rfl, rfl, up2_a _ _ hx⟩) (by rw [ce_7 ha]; simp [up2, va_up, va_rf]) hdg kk
theorem pf_X7_19 (hC : Cx X p s m args meth c RX7 cc nL ret) (hin : meth.name = "<init>") {a : Nat} {v : Int32} (ha : (K a).1 = 7) (hdg : decode cc pc = .ok (.putfield 19, 3)) (kk : V X nL p l e R s m args below meth c Q cells slots n K (up2 F a 2 v) G lv (pc + 3) st) : V X nL p l e R s m args below meth c Q cells slots n K F G lv pc (.int v :: .ref a :: st) := v_putF hC (by rw [ha]; decide) (fun q => by rw [q] at ha; cases ha) (ce_7 ha) rfl inX7 tyX7 tyX7_ok nmX7 (k := 2) (by decide) aw_1213 (fun _ h => h) rfl hin rfl (ty := tyX7 2) (tyX7_ok 2 (by decide)) rfl rfl (Nat.le_of_ble_eq_true rfl) (fun x hx => ⟨rfl, up2_a _ _ hx, rfl⟩) (by rw [ce_7 ha]; simp [up2, va_up]) hdg kk
theorem pf_X7_23 (hC : Cx X p s m args meth c RX7 cc nL ret) (hin : meth.name = "<init>") {a : Nat} {v : Int32} (ha : (K a).1 = 7) (hdg : decode cc pc = .ok (.putfield 23, 3)) (kk : V X nL p l e R s m args below meth c Q cells slots n K (up2 F a 3 v) G lv (pc + 3) st) : V X nL p l e R s m args below meth c Q cells slots n K F G lv pc (.int v :: .ref a :: st) := v_putF hC (by rw [ha]; decide) (fun q => by rw [q] at ha; cases ha) (ce_7 ha) rfl inX7 tyX7 tyX7_ok nmX7 (k := 3) (by decide) aw_1215 (fun _ h => h) rfl hin rfl (ty := tyX7 3) (tyX7_ok 3 (by decide)) rfl rfl (Nat.le_of_ble_eq_true rfl) (fun x hx => ⟨rfl, up2_a _ _ hx, rfl⟩) (by rw [ce_7 ha]; simp [up2, va_up]) hdg kk
theorem pf_X7_26 (hC : Cx X p s m args meth c RX7 cc nL ret) (hin : meth.name = "<init>") {a : Nat} {v : Int32} (ha : (K a).1 = 7) (hdg : decode cc pc = .ok (.putfield 26, 3)) (kk : V X nL p l e R s m args below meth c Q cells slots n K (up2 F a 4 v) G lv (pc + 3) st) : V X nL p l e R s m args below meth c Q cells slots n K F G lv pc (.int v :: .ref a :: st) := v_putF hC (by rw [ha]; decide) (fun q => by rw [q] at ha; cases ha) (ce_7 ha) rfl inX7 tyX7 tyX7_ok nmX7 (k := 4) (by decide) aw_1217 (fun _ h => h) rfl hin rfl (ty := tyX7 4) (tyX7_ok 4 (by decide)) rfl rfl (Nat.le_of_ble_eq_true rfl) (fun x hx => ⟨rfl, up2_a _ _ hx, rfl⟩) (by rw [ce_7 ha]; simp [up2, va_up]) hdg kk
theorem pf_X7_29 (hC : Cx X p s m args meth c RX7 cc nL ret) (hin : meth.name = "<init>") {a : Nat} {v : Int32} (hn : narrow (tyX7 5) (.int v) = .int v) (hf : fits (tyX7 5) (.int v) = true) (ha : (K a).1 = 7) (hdg : decode cc pc = .ok (.putfield 29, 3)) (kk : V X nL p l e R s m args below meth c Q cells slots n K (up2 F a 5 v) G lv (pc + 3) st) : V X nL p l e R s m args below meth c Q cells slots n K F G lv pc (.int v :: .ref a :: st) := v_putF hC (by rw [ha]; decide) (fun q => by rw [q] at ha; cases ha) (ce_7 ha) rfl inX7 tyX7 tyX7_ok nmX7 (k := 5) (by decide) aw_1219 (fun _ h => h) rfl hin rfl (ty := tyX7 5) (tyX7_ok 5 (by decide)) hn hf (Nat.le_of_ble_eq_true rfl) (fun x hx => ⟨rfl, up2_a _ _ hx, rfl⟩) (by rw [ce_7 ha]; simp [up2, va_up]) hdg kk
theorem pf_X7_33 (hC : Cx X p s m args meth c RX7 cc nL ret) {a : Nat} {v : Int32} (ha : (K a).1 = 7) (hdg : decode cc pc = .ok (.putfield 33, 3)) (kk : V X nL p l e R s m args below meth c Q cells slots n K (up2 F a 10 v) G lv (pc + 3) st) : V X nL p l e R s m args below meth c Q cells slots n K F G lv pc (.int v :: .ref a :: st) := v_put hC (by rw [ha]; decide) (fun q => by rw [q] at ha; cases ha) (ce_7 ha) rfl inX7 tyX7 tyX7_ok nmX7 (k := 10) (by decide) aw_1229 (fun _ h => h) rfl (ty := tyX7 10) (tyX7_ok 10 (by decide)) rfl rfl (Nat.le_of_ble_eq_true rfl) (fun x hx => ⟨rfl, up2_a _ _ hx, rfl⟩) (by rw [ce_7 ha]; simp [up2, va_up]) hdg kk
theorem pf_X7_36 (hC : Cx X p s m args meth c RX7 cc nL ret) {a : Nat} {v : Int32} (ha : (K a).1 = 7) (hdg : decode cc pc = .ok (.putfield 36, 3)) (kk : V X nL p l e R s m args below meth c Q cells slots n K (up2 F a 6 v) G lv (pc + 3) st) : V X nL p l e R s m args below meth c Q cells slots n K F G lv pc (.int v :: .ref a :: st) := v_put hC (by rw [ha]; decide) (fun q => by rw [q] at ha; cases ha) (ce_7 ha) rfl inX7 tyX7 tyX7_ok nmX7 (k := 6) (by decide) aw_1221 (fun _ h => h) rfl (ty := tyX7 6) (tyX7_ok 6 (by decide)) rfl rfl (Nat.le_of_ble_eq_true rfl) (fun x hx => ⟨rfl, up2_a _ _ hx, rfl⟩) (by rw [ce_7 ha]; simp [up2, va_up]) hdg kk
theorem pf_X7_39 (hC : Cx X p s m args meth c RX7 cc nL ret) {a : Nat} {v : Int32} (ha : (K a).1 = 7) (hdg : decode cc pc = .ok (.putfield 39, 3)) (kk : V X nL p l e R s m args below meth c Q cells slots n K (up2 F a 7 v) G lv (pc + 3) st) : V X nL p l e R s m args below meth c Q cells slots n K F G lv pc (.int v :: .ref a :: st) := v_put hC (by rw [ha]; decide) (fun q => by rw [q] at ha; cases ha) (ce_7 ha) rfl inX7 tyX7 tyX7_ok nmX7 (k := 7) (by decide) aw_1223 (fun _ h => h) rfl (ty := tyX7 7) (tyX7_ok 7 (by decide)) rfl rfl (Nat.le_of_ble_eq_true rfl) (fun x hx => ⟨rfl, up2_a _ _ hx, rfl⟩) (by rw [ce_7 ha]; simp [up2, va_up]) hdg kk
theorem pf_X7_42 (hC : Cx X p s m args meth c RX7 cc nL ret) {a : Nat} {v : Int32} (ha : (K a).1 = 7) (hdg : decode cc pc = .ok (.putfield 42, 3)) (kk : V X nL p l e R s m args below meth c Q cells slots n K (up2 F a 8 v) G lv (pc + 3) st) : V X nL p l e R s m args below meth c Q cells slots n K F G lv pc (.int v :: .ref a :: st) := v_put hC (by rw [ha]; decide) (fun q => by rw [q] at ha; cases ha) (ce_7 ha) rfl inX7 tyX7 tyX7_ok nmX7 (k := 8) (by decide) aw_1225 (fun _ h => h) rfl (ty := tyX7 8) (tyX7_ok 8 (by decide)) rfl rfl (Nat.le_of_ble_eq_true rfl) (fun x hx => ⟨rfl, up2_a _ _ hx, rfl⟩) (by rw [ce_7 ha]; simp [up2, va_up]) hdg kk
theorem pf_X7_45 (hC : Cx X p s m args meth c RX7 cc nL ret) {a : Nat} {v : Int32} (ha : (K a).1 = 7) (hdg : decode cc pc = .ok (.putfield 45, 3)) (kk : V X nL p l e R s m args below meth c Q cells slots n K (up2 F a 9 v) G lv (pc + 3) st) : V X nL p l e R s m args below meth c Q cells slots n K F G lv pc (.int v :: .ref a :: st) := v_put hC (by rw [ha]; decide) (fun q => by rw [q] at ha; cases ha) (ce_7 ha) rfl inX7 tyX7 tyX7_ok nmX7 (k := 9) (by decide) aw_1227 (fun _ h => h) rfl (ty := tyX7 9) (tyX7_ok 9 (by decide)) rfl rfl (Nat.le_of_ble_eq_true rfl) (fun x hx => ⟨rfl, up2_a _ _ hx, rfl⟩) (by rw [ce_7 ha]; simp [up2, va_up]) hdg kk
theorem gq_X7_48 (hC : Cx X p s m args meth c RX7 cc nL ret) {a : Nat} (ha : (K a).1 = 7) (hdg : decode cc pc = .ok (.getfield 48, 3)) (kk : V X nL p l e R s m args below meth c Q cells slots n K F G lv (pc + 3) (va_rf (G a 14) :: st)) : V X nL p l e R s m args below meth c Q cells slots n K F G lv pc (.ref a :: st) := v_get hC (by rw [ha]; decide) (ce_7 ha) rfl inX7 (k := 14) (by decide) aw_1237 (fun _ h => h) rfl hdg kk
theorem gf_X7_48 (hC : Cx X p s m args meth c RX7 cc nL ret) {a q : Nat} (ha : (K a).1 = 7) (hq : G a 14 = some q) (hdg : decode cc pc = .ok (.getfield 48, 3)) (kk : V X nL p l e R s m args below meth c Q cells slots n K F G lv (pc + 3) (.ref q :: st)) : V X nL p l e R s m args below meth c Q cells slots n K F G lv pc (.ref a :: st) := gq_X7_48 hC ha hdg (by rw [hq]; exact kk)
theorem gq_X7_52 (hC : Cx X p s m args meth c RX7 cc nL ret) {a : Nat} (ha : (K a).1 = 7) (hdg : decode cc pc = .ok (.getfield 52, 3)) (kk : V X nL p l e R s m args below meth c Q cells slots n K F G lv (pc + 3) (va_rf (G a 15) :: st)) : V X nL p l e R s m args below meth c Q cells slots n K F G lv pc (.ref a :: st) := v_get hC (by rw [ha]; decide) (ce_7 ha) rfl inX7 (k := 15) (by decide) aw_1239 (fun _ h => h) rfl hdg kk
theorem gf_X7_52 (hC : Cx X p s m args meth c RX7 cc nL ret) {a q : Nat} (ha : (K a).1 = 7) (hq : G a 15 = some q) (hdg : decode cc pc = .ok (.getfield 52, 3)) (kk : V X nL p l e R s m args below meth c Q cells slots n K F G lv (pc + 3) (.ref q :: st)) : V X nL p l e R s m args below meth c Q cells slots n K F G lv pc (.ref a :: st) := gq_X7_52 hC ha hdg (by rw [hq]; exact kk)
theorem gf_X7_56 (hC : Cx X p s m args meth c RX7 cc nL ret) {a : Nat} (ha : (K a).1 = 7) (hdg : decode cc pc = .ok (.getfield 56, 3)) (kk : V X nL p l e R s m args below meth c Q cells slots n K F G lv (pc + 3) (.int (F a 13) :: st)) : V X nL p l e R s m args below meth c Q cells slots n K F G lv pc (.ref a :: st) := v_get hC (by rw [ha]; decide) (ce_7 ha) rfl inX7 (k := 13) (by decide) aw_1235 (fun _ h => h) rfl hdg kk
theorem gf_X7_29 (hC : Cx X p s m args meth c RX7 cc nL ret) {a : Nat} (ha : (K a).1 = 7) (hdg : decode cc pc = .ok (.getfield 29, 3)) (kk : V X nL p l e R s m args below meth c Q cells slots n K F G lv (pc + 3) (.int (F a 5) :: st)) : V X nL p l e R s m args below meth c Q cells slots n K F G lv pc (.ref a :: st) := v_get hC (by rw [ha]; decide) (ce_7 ha) rfl inX7 (k := 5) (by decide) aw_1219 (fun _ h => h) rfl hdg kk
theorem gf_X7_33 (hC : Cx X p s m args meth c RX7 cc nL ret) {a : Nat} (ha : (K a).1 = 7) (hdg : decode cc pc = .ok (.getfield 33, 3)) (kk : V X nL p l e R s m args below meth c Q cells slots n K F G lv (pc + 3) (.int (F a 10) :: st)) : V X nL p l e R s m args below meth c Q cells slots n K F G lv pc (.ref a :: st) := v_get hC (by rw [ha]; decide) (ce_7 ha) rfl inX7 (k := 10) (by decide) aw_1229 (fun _ h => h) rfl hdg kk
theorem gf_X7_39 (hC : Cx X p s m args meth c RX7 cc nL ret) {a : Nat} (ha : (K a).1 = 7) (hdg : decode cc pc = .ok (.getfield 39, 3)) (kk : V X nL p l e R s m args below meth c Q cells slots n K F G lv (pc + 3) (.int (F a 7) :: st)) : V X nL p l e R s m args below meth c Q cells slots n K F G lv pc (.ref a :: st) := v_get hC (by rw [ha]; decide) (ce_7 ha) rfl inX7 (k := 7) (by decide) aw_1223 (fun _ h => h) rfl hdg kk
theorem gf_X7_26 (hC : Cx X p s m args meth c RX7 cc nL ret) {a : Nat} (ha : (K a).1 = 7) (hdg : decode cc pc = .ok (.getfield 26, 3)) (kk : V X nL p l e R s m args below meth c Q cells slots n K F G lv (pc + 3) (.int (F a 4) :: st)) : V X nL p l e R s m args below meth c Q cells slots n K F G lv pc (.ref a :: st) := v_get hC (by rw [ha]; decide) (ce_7 ha) rfl inX7 (k := 4) (by decide) aw_1217 (fun _ h => h) rfl hdg kk
theorem gq_X7_15 (hC : Cx X p s m args meth c RX7 cc nL ret) {a : Nat} (ha : (K a).1 = 7) (hdg : decode cc pc = .ok (.getfield 15, 3)) (kk : V X nL p l e R s m args below meth c Q cells slots n K F G lv (pc + 3) (va_rf (G a 1) :: st)) : V X nL p l e R s m args below meth c Q cells slots n K F G lv pc (.ref a :: st) := v_get hC (by rw [ha]; decide) (ce_7 ha) rfl inX7 (k := 1) (by decide) aw_1211 (fun _ h => h) rfl hdg kk
theorem gf_X7_15 (hC : Cx X p s m args meth c RX7 cc nL ret) {a q : Nat} (ha : (K a).1 = 7) (hq : G a 1 = some q) (hdg : decode cc pc = .ok (.getfield 15, 3)) (kk : V X nL p l e R s m args below meth c Q cells slots n K F G lv (pc + 3) (.ref q :: st)) : V X nL p l e R s m args below meth c Q cells slots n K F G lv pc (.ref a :: st) := gq_X7_15 hC ha hdg (by rw [hq]; exact kk)
theorem gq_X7_73 (hC : Cx X p s m args meth c RX7 cc nL ret) {a : Nat} (ha : (K a).1 = 4) (hdg : decode cc pc = .ok (.getfield 73, 3)) (kk : V X nL p l e R s m args below meth c Q cells slots n K F G lv (pc + 3) (va_rf (G a 1) :: st)) : V X nL p l e R s m args below meth c Q cells slots n K F G lv pc (.ref a :: st) := v_get hC (by rw [ha]; decide) (ce_4 ha) rfl inX0 (k := 1) (by decide) aw_1096 (fun _ h => h) rfl hdg kk
theorem gf_X7_73 (hC : Cx X p s m args meth c RX7 cc nL ret) {a q : Nat} (ha : (K a).1 = 4) (hq : G a 1 = some q) (hdg : decode cc pc = .ok (.getfield 73, 3)) (kk : V X nL p l e R s m args below meth c Q cells slots n K F G lv (pc + 3) (.ref q :: st)) : V X nL p l e R s m args below meth c Q cells slots n K F G lv pc (.ref a :: st) := gq_X7_73 hC ha hdg (by rw [hq]; exact kk)
theorem gf_X7_87 (hC : Cx X p s m args meth c RX7 cc nL ret) {a : Nat} (ha : (K a).1 = 4) (hdg : decode cc pc = .ok (.getfield 87, 3)) (kk : V X nL p l e R s m args below meth c Q cells slots n K F G lv (pc + 3) (.int (F a 4) :: st)) : V X nL p l e R s m args below meth c Q cells slots n K F G lv pc (.ref a :: st) := v_get hC (by rw [ha]; decide) (ce_4 ha) rfl inX0 (k := 4) (by decide) aw_1103 (fun _ h => h) rfl hdg kk
theorem gf_X7_90 (hC : Cx X p s m args meth c RX7 cc nL ret) {a : Nat} (ha : (K a).1 = 7) (hdg : decode cc pc = .ok (.getfield 90, 3)) (kk : V X nL p l e R s m args below meth c Q cells slots n K F G lv (pc + 3) (.int (F a 12) :: st)) : V X nL p l e R s m args below meth c Q cells slots n K F G lv pc (.ref a :: st) := v_get hC (by rw [ha]; decide) (ce_7 ha) rfl inX7 (k := 12) (by decide) aw_1233 (fun _ h => h) rfl hdg kk
theorem pf_X7_52 (hC : Cx X p s m args meth c RX7 cc nL ret) {a q : Nat} (ha : (K a).1 = 7) (hdg : decode cc pc = .ok (.putfield 52, 3)) (kk : V X nL p l e R s m args below meth c Q cells slots n K F (up2 G a 15 (some q)) lv (pc + 3) st) : V X nL p l e R s m args below meth c Q cells slots n K F G lv pc (.ref q :: .ref a :: st) := v_put hC (by rw [ha]; decide) (fun q => by rw [q] at ha; cases ha) (ce_7 ha) rfl inX7 tyX7 tyX7_ok nmX7 (k := 15) (by decide) aw_1239 (fun _ h => h) rfl (ty := tyX7 15) (tyX7_ok 15 (by decide)) rfl rfl (Nat.le_of_ble_eq_true rfl) (fun x hx => ⟨rfl, rfl, up2_a _ _ hx⟩) (by rw [ce_7 ha]; simp [up2, va_up, va_rf]) hdg kk
theorem gf_X7_101 (hC : Cx X p s m args meth c RX7 cc nL ret) {a : Nat} (ha : (K a).1 = 7) (hdg : decode cc pc = .ok (.getfield 101, 3)) (kk : V X nL p l e R s m args below meth c Q cells slots n K F G lv (pc + 3) (.int (F a 11) :: st)) : V X nL p l e R s m args below meth c Q cells slots n K F G lv pc (.ref a :: st) := v_get hC (by rw [ha]; decide) (ce_7 ha) rfl inX7 (k := 11) (by decide) aw_1231 (fun _ h => h) rfl hdg kk
theorem gf_X7_19 (hC : Cx X p s m args meth c RX7 cc nL ret) {a : Nat} (ha : (K a).1 = 7) (hdg : decode cc pc = .ok (.getfield 19, 3)) (kk : V X nL p l e R s m args below meth c Q cells slots n K F G lv (pc + 3) (.int (F a 2) :: st)) : V X nL p l e R s m args below meth c Q cells slots n K F G lv pc (.ref a :: st) := v_get hC (by rw [ha]; decide) (ce_7 ha) rfl inX7 (k := 2) (by decide) aw_1213 (fun _ h => h) rfl hdg kk
theorem gf_X7_107 (hC : Cx X p s m args meth c RX7 cc nL ret) {a : Nat} (ha : (K a).1 = 9) (hdg : decode cc pc = .ok (.getfield 107, 3)) (kk : V X nL p l e R s m args below meth c Q cells slots n K F G lv (pc + 3) (.int (F a 1) :: st)) : V X nL p l e R s m args below meth c Q cells slots n K F G lv pc (.ref a :: st) := v_get hC (by rw [ha]; decide) (ce_9 ha) rfl inX3 (k := 1) (by decide) aw_1398 (fun _ h => h) rfl hdg kk
theorem gf_X7_115 (hC : Cx X p s m args meth c RX7 cc nL ret) {a : Nat} (ha : (K a).1 = 8) (hdg : decode cc pc = .ok (.getfield 115, 3)) (kk : V X nL p l e R s m args below meth c Q cells slots n K F G lv (pc + 3) (.int (F a 0) :: st)) : V X nL p l e R s m args below meth c Q cells slots n K F G lv pc (.ref a :: st) := v_get hC (by rw [ha]; decide) (ce_8 ha) rfl inX2 (k := 0) (by decide) aw_1348 (fun _ h => h) rfl hdg kk
theorem gf_X7_118 (hC : Cx X p s m args meth c RX7 cc nL ret) {a : Nat} (ha : (K a).1 = 8) (hdg : decode cc pc = .ok (.getfield 118, 3)) (kk : V X nL p l e R s m args below meth c Q cells slots n K F G lv (pc + 3) (.int (F a 3) :: st)) : V X nL p l e R s m args below meth c Q cells slots n K F G lv pc (.ref a :: st) := v_get hC (by rw [ha]; decide) (ce_8 ha) rfl inX2 (k := 3) (by decide) aw_1355 (fun _ h => h) rfl hdg kk
theorem pf_X8_10 (hC : Cx X p s m args meth c RX8 cc nL ret) (hin : meth.name = "<init>") {a q : Nat} (ha : (K a).1 = 1) (hdg : decode cc pc = .ok (.putfield 10, 3)) (kk : V X nL p l e R s m args below meth c Q cells slots n K F (up2 G a 0 (some q)) lv (pc + 3) st) : V X nL p l e R s m args below meth c Q cells slots n K F G lv pc (.ref q :: .ref a :: st) := v_putF hC (by rw [ha]; decide) (fun q => by rw [q] at ha; cases ha) (ce_1 ha) rfl inX8 tyX8 tyX8_ok nmX8 (k := 0) (by decide) aw_902 (fun _ h => h) rfl hin rfl (ty := tyX8 0) (tyX8_ok 0 (by decide)) rfl rfl (Nat.le_of_ble_eq_true rfl) (fun x hx => ⟨rfl, rfl, up2_a _ _ hx⟩) (by rw [ce_1 ha]; simp [up2, va_up, va_rf]) hdg kk
theorem pf_X8_16 (hC : Cx X p s m args meth c RX8 cc nL ret) (hin : meth.name = "<init>") {a q : Nat} (ha : (K a).1 = 1) (hdg : decode cc pc = .ok (.putfield 16, 3)) (kk : V X nL p l e R s m args below meth c Q cells slots n K F (up2 G a 1 (some q)) lv (pc + 3) st) : V X nL p l e R s m args below meth c Q cells slots n K F G lv pc (.ref q :: .ref a :: st) := v_putF hC (by rw [ha]; decide) (fun q => by rw [q] at ha; cases ha) (ce_1 ha) rfl inX8 tyX8 tyX8_ok nmX8 (k := 1) (by decide) aw_903 (fun _ h => h) rfl hin rfl (ty := tyX8 1) (tyX8_ok 1 (by decide)) rfl rfl (Nat.le_of_ble_eq_true rfl) (fun x hx => ⟨rfl, rfl, up2_a _ _ hx⟩) (by rw [ce_1 ha]; simp [up2, va_up, va_rf]) hdg kk
theorem pf_X8_19 (hC : Cx X p s m args meth c RX8 cc nL ret) (hin : meth.name = "<init>") {a q : Nat} (ha : (K a).1 = 1) (hdg : decode cc pc = .ok (.putfield 19, 3)) (kk : V X nL p l e R s m args below meth c Q cells slots n K F (up2 G a 2 (some q)) lv (pc + 3) st) : V X nL p l e R s m args below meth c Q cells slots n K F G lv pc (.ref q :: .ref a :: st) := v_putF hC (by rw [ha]; decide) (fun q => by rw [q] at ha; cases ha) (ce_1 ha) rfl inX8 tyX8 tyX8_ok nmX8 (k := 2) (by decide) aw_904 (fun _ h => h) rfl hin rfl (ty := tyX8 2) (tyX8_ok 2 (by decide)) rfl rfl (Nat.le_of_ble_eq_true rfl) (fun x hx => ⟨rfl, rfl, up2_a _ _ hx⟩) (by rw [ce_1 ha]; simp [up2, va_up, va_rf]) hdg kk
theorem pf_X8_22 (hC : Cx X p s m args meth c RX8 cc nL ret) (hin : meth.name = "<init>") {a q : Nat} (ha : (K a).1 = 1) (hdg : decode cc pc = .ok (.putfield 22, 3)) (kk : V X nL p l e R s m args below meth c Q cells slots n K F (up2 G a 3 (some q)) lv (pc + 3) st) : V X nL p l e R s m args below meth c Q cells slots n K F G lv pc (.ref q :: .ref a :: st) := v_putF hC (by rw [ha]; decide) (fun q => by rw [q] at ha; cases ha) (ce_1 ha) rfl inX8 tyX8 tyX8_ok nmX8 (k := 3) (by decide) aw_905 (fun _ h => h) rfl hin rfl (ty := tyX8 3) (tyX8_ok 3 (by decide)) rfl rfl (Nat.le_of_ble_eq_true rfl) (fun x hx => ⟨rfl, rfl, up2_a _ _ hx⟩) (by rw [ce_1 ha]; simp [up2, va_up, va_rf]) hdg kk
theorem pf_X8_25 (hC : Cx X p s m args meth c RX8 cc nL ret) (hin : meth.name = "<init>") {a q : Nat} (ha : (K a).1 = 1) (hdg : decode cc pc = .ok (.putfield 25, 3)) (kk : V X nL p l e R s m args below meth c Q cells slots n K F (up2 G a 4 (some q)) lv (pc + 3) st) : V X nL p l e R s m args below meth c Q cells slots n K F G lv pc (.ref q :: .ref a :: st) := v_putF hC (by rw [ha]; decide) (fun q => by rw [q] at ha; cases ha) (ce_1 ha) rfl inX8 tyX8 tyX8_ok nmX8 (k := 4) (by decide) aw_906 (fun _ h => h) rfl hin rfl (ty := tyX8 4) (tyX8_ok 4 (by decide)) rfl rfl (Nat.le_of_ble_eq_true rfl) (fun x hx => ⟨rfl, rfl, up2_a _ _ hx⟩) (by rw [ce_1 ha]; simp [up2, va_up, va_rf]) hdg kk
theorem pf_X8_31 (hC : Cx X p s m args meth c RX8 cc nL ret) (hin : meth.name = "<init>") {a q : Nat} (ha : (K a).1 = 1) (hdg : decode cc pc = .ok (.putfield 31, 3)) (kk : V X nL p l e R s m args below meth c Q cells slots n K F (up2 G a 5 (some q)) lv (pc + 3) st) : V X nL p l e R s m args below meth c Q cells slots n K F G lv pc (.ref q :: .ref a :: st) := v_putF hC (by rw [ha]; decide) (fun q => by rw [q] at ha; cases ha) (ce_1 ha) rfl inX8 tyX8 tyX8_ok nmX8 (k := 5) (by decide) aw_907 (fun _ h => h) rfl hin rfl (ty := tyX8 5) (tyX8_ok 5 (by decide)) rfl rfl (Nat.le_of_ble_eq_true rfl) (fun x hx => ⟨rfl, rfl, up2_a _ _ hx⟩) (by rw [ce_1 ha]; simp [up2, va_up, va_rf]) hdg kk
theorem pf_X8_35 (hC : Cx X p s m args meth c RX8 cc nL ret) (hin : meth.name = "<init>") {a q : Nat} (ha : (K a).1 = 1) (hdg : decode cc pc = .ok (.putfield 35, 3)) (kk : V X nL p l e R s m args below meth c Q cells slots n K F (up2 G a 6 (some q)) lv (pc + 3) st) : V X nL p l e R s m args below meth c Q cells slots n K F G lv pc (.ref q :: .ref a :: st) := v_putF hC (by rw [ha]; decide) (fun q => by rw [q] at ha; cases ha) (ce_1 ha) rfl inX8 tyX8 tyX8_ok nmX8 (k := 6) (by decide) aw_908 (fun _ h => h) rfl hin rfl (ty := tyX8 6) (tyX8_ok 6 (by decide)) rfl rfl (Nat.le_of_ble_eq_true rfl) (fun x hx => ⟨rfl, rfl, up2_a _ _ hx⟩) (by rw [ce_1 ha]; simp [up2, va_up, va_rf]) hdg kk
theorem pf_X8_38 (hC : Cx X p s m args meth c RX8 cc nL ret) (hin : meth.name = "<init>") {a q : Nat} (ha : (K a).1 = 1) (hdg : decode cc pc = .ok (.putfield 38, 3)) (kk : V X nL p l e R s m args below meth c Q cells slots n K F (up2 G a 7 (some q)) lv (pc + 3) st) : V X nL p l e R s m args below meth c Q cells slots n K F G lv pc (.ref q :: .ref a :: st) := v_putF hC (by rw [ha]; decide) (fun q => by rw [q] at ha; cases ha) (ce_1 ha) rfl inX8 tyX8 tyX8_ok nmX8 (k := 7) (by decide) aw_909 (fun _ h => h) rfl hin rfl (ty := tyX8 7) (tyX8_ok 7 (by decide)) rfl rfl (Nat.le_of_ble_eq_true rfl) (fun x hx => ⟨rfl, rfl, up2_a _ _ hx⟩) (by rw [ce_1 ha]; simp [up2, va_up, va_rf]) hdg kk
theorem pf_X8_41 (hC : Cx X p s m args meth c RX8 cc nL ret) (hin : meth.name = "<init>") {a q : Nat} (ha : (K a).1 = 1) (hdg : decode cc pc = .ok (.putfield 41, 3)) (kk : V X nL p l e R s m args below meth c Q cells slots n K F (up2 G a 8 (some q)) lv (pc + 3) st) : V X nL p l e R s m args below meth c Q cells slots n K F G lv pc (.ref q :: .ref a :: st) := v_putF hC (by rw [ha]; decide) (fun q => by rw [q] at ha; cases ha) (ce_1 ha) rfl inX8 tyX8 tyX8_ok nmX8 (k := 8) (by decide) aw_910 (fun _ h => h) rfl hin rfl (ty := tyX8 8) (tyX8_ok 8 (by decide)) rfl rfl (Nat.le_of_ble_eq_true rfl) (fun x hx => ⟨rfl, rfl, up2_a _ _ hx⟩) (by rw [ce_1 ha]; simp [up2, va_up, va_rf]) hdg kk
theorem gq_X8_10 (hC : Cx X p s m args meth c RX8 cc nL ret) {a : Nat} (ha : (K a).1 = 1) (hdg : decode cc pc = .ok (.getfield 10, 3)) (kk : V X nL p l e R s m args below meth c Q cells slots n K F G lv (pc + 3) (va_rf (G a 0) :: st)) : V X nL p l e R s m args below meth c Q cells slots n K F G lv pc (.ref a :: st) := v_get hC (by rw [ha]; decide) (ce_1 ha) rfl inX8 (k := 0) (by decide) aw_902 (fun _ h => h) rfl hdg kk
theorem gf_X8_10 (hC : Cx X p s m args meth c RX8 cc nL ret) {a q : Nat} (ha : (K a).1 = 1) (hq : G a 0 = some q) (hdg : decode cc pc = .ok (.getfield 10, 3)) (kk : V X nL p l e R s m args below meth c Q cells slots n K F G lv (pc + 3) (.ref q :: st)) : V X nL p l e R s m args below meth c Q cells slots n K F G lv pc (.ref a :: st) := gq_X8_10 hC ha hdg (by rw [hq]; exact kk)
theorem gq_X8_16 (hC : Cx X p s m args meth c RX8 cc nL ret) {a : Nat} (ha : (K a).1 = 1) (hdg : decode cc pc = .ok (.getfield 16, 3)) (kk : V X nL p l e R s m args below meth c Q cells slots n K F G lv (pc + 3) (va_rf (G a 1) :: st)) : V X nL p l e R s m args below meth c Q cells slots n K F G lv pc (.ref a :: st) := v_get hC (by rw [ha]; decide) (ce_1 ha) rfl inX8 (k := 1) (by decide) aw_903 (fun _ h => h) rfl hdg kk
theorem gf_X8_16 (hC : Cx X p s m args meth c RX8 cc nL ret) {a q : Nat} (ha : (K a).1 = 1) (hq : G a 1 = some q) (hdg : decode cc pc = .ok (.getfield 16, 3)) (kk : V X nL p l e R s m args below meth c Q cells slots n K F G lv (pc + 3) (.ref q :: st)) : V X nL p l e R s m args below meth c Q cells slots n K F G lv pc (.ref a :: st) := gq_X8_16 hC ha hdg (by rw [hq]; exact kk)
theorem gq_X8_19 (hC : Cx X p s m args meth c RX8 cc nL ret) {a : Nat} (ha : (K a).1 = 1) (hdg : decode cc pc = .ok (.getfield 19, 3)) (kk : V X nL p l e R s m args below meth c Q cells slots n K F G lv (pc + 3) (va_rf (G a 2) :: st)) : V X nL p l e R s m args below meth c Q cells slots n K F G lv pc (.ref a :: st) := v_get hC (by rw [ha]; decide) (ce_1 ha) rfl inX8 (k := 2) (by decide) aw_904 (fun _ h => h) rfl hdg kk
theorem gf_X8_19 (hC : Cx X p s m args meth c RX8 cc nL ret) {a q : Nat} (ha : (K a).1 = 1) (hq : G a 2 = some q) (hdg : decode cc pc = .ok (.getfield 19, 3)) (kk : V X nL p l e R s m args below meth c Q cells slots n K F G lv (pc + 3) (.ref q :: st)) : V X nL p l e R s m args below meth c Q cells slots n K F G lv pc (.ref a :: st) := gq_X8_19 hC ha hdg (by rw [hq]; exact kk)
theorem gq_X8_41 (hC : Cx X p s m args meth c RX8 cc nL ret) {a : Nat} (ha : (K a).1 = 1) (hdg : decode cc pc = .ok (.getfield 41, 3)) (kk : V X nL p l e R s m args below meth c Q cells slots n K F G lv (pc + 3) (va_rf (G a 8) :: st)) : V X nL p l e R s m args below meth c Q cells slots n K F G lv pc (.ref a :: st) := v_get hC (by rw [ha]; decide) (ce_1 ha) rfl inX8 (k := 8) (by decide) aw_910 (fun _ h => h) rfl hdg kk
theorem gf_X8_41 (hC : Cx X p s m args meth c RX8 cc nL ret) {a q : Nat} (ha : (K a).1 = 1) (hq : G a 8 = some q) (hdg : decode cc pc = .ok (.getfield 41, 3)) (kk : V X nL p l e R s m args below meth c Q cells slots n K F G lv (pc + 3) (.ref q :: st)) : V X nL p l e R s m args below meth c Q cells slots n K F G lv pc (.ref a :: st) := gq_X8_41 hC ha hdg (by rw [hq]; exact kk)
theorem gq_X8_79 (hC : Cx X p s m args meth c RX8 cc nL ret) {a : Nat} (ha : (K a).1 = 4) (hdg : decode cc pc = .ok (.getfield 79, 3)) (kk : V X nL p l e R s m args below meth c Q cells slots n K F G lv (pc + 3) (va_rf (G a 3) :: st)) : V X nL p l e R s m args below meth c Q cells slots n K F G lv pc (.ref a :: st) := v_get hC (by rw [ha]; decide) (ce_4 ha) rfl inX0 (k := 3) (by decide) aw_1101 (fun _ h => h) rfl hdg kk
theorem gf_X8_79 (hC : Cx X p s m args meth c RX8 cc nL ret) {a q : Nat} (ha : (K a).1 = 4) (hq : G a 3 = some q) (hdg : decode cc pc = .ok (.getfield 79, 3)) (kk : V X nL p l e R s m args below meth c Q cells slots n K F G lv (pc + 3) (.ref q :: st)) : V X nL p l e R s m args below meth c Q cells slots n K F G lv pc (.ref a :: st) := gq_X8_79 hC ha hdg (by rw [hq]; exact kk)
theorem gf_X8_93 (hC : Cx X p s m args meth c RX8 cc nL ret) {a : Nat} (ha : (K a).1 = 3) (hdg : decode cc pc = .ok (.getfield 93, 3)) (kk : V X nL p l e R s m args below meth c Q cells slots n K F G lv (pc + 3) (.int (F a 0) :: st)) : V X nL p l e R s m args below meth c Q cells slots n K F G lv pc (.ref a :: st) := v_get hC (by rw [ha]; decide) (ce_3 ha) rfl inX5 (k := 0) (by decide) aw_966 (fun _ h => h) rfl hdg kk
theorem gf_X8_113 (hC : Cx X p s m args meth c RX8 cc nL ret) {a : Nat} (ha : (K a).1 = 3) (hdg : decode cc pc = .ok (.getfield 113, 3)) (kk : V X nL p l e R s m args below meth c Q cells slots n K F G lv (pc + 3) (.int (F a 4) :: st)) : V X nL p l e R s m args below meth c Q cells slots n K F G lv pc (.ref a :: st) := v_get hC (by rw [ha]; decide) (ce_3 ha) rfl inX5 (k := 4) (by decide) aw_973 (fun _ h => h) rfl hdg kk
theorem pf_X8_113 (hC : Cx X p s m args meth c RX8 cc nL ret) {a : Nat} {v : Int32} (ha : (K a).1 = 3) (hdg : decode cc pc = .ok (.putfield 113, 3)) (kk : V X nL p l e R s m args below meth c Q cells slots n K (up2 F a 4 v) G lv (pc + 3) st) : V X nL p l e R s m args below meth c Q cells slots n K F G lv pc (.int v :: .ref a :: st) := v_put hC (by rw [ha]; decide) (fun q => by rw [q] at ha; cases ha) (ce_3 ha) rfl inX5 tyX5 tyX5_ok nmX5 (k := 4) (by decide) aw_973 (fun _ h => h) rfl (ty := tyX5 4) (tyX5_ok 4 (by decide)) rfl rfl (Nat.le_of_ble_eq_true rfl) (fun x hx => ⟨rfl, up2_a _ _ hx, rfl⟩) (by rw [ce_3 ha]; simp [up2, va_up]) hdg kk
theorem gf_X8_120 (hC : Cx X p s m args meth c RX8 cc nL ret) {a : Nat} (ha : (K a).1 = 3) (hdg : decode cc pc = .ok (.getfield 120, 3)) (kk : V X nL p l e R s m args below meth c Q cells slots n K F G lv (pc + 3) (.int (F a 5) :: st)) : V X nL p l e R s m args below meth c Q cells slots n K F G lv pc (.ref a :: st) := v_get hC (by rw [ha]; decide) (ce_3 ha) rfl inX5 (k := 5) (by decide) aw_975 (fun _ h => h) rfl hdg kk
theorem pf_X8_120 (hC : Cx X p s m args meth c RX8 cc nL ret) {a : Nat} {v : Int32} (ha : (K a).1 = 3) (hdg : decode cc pc = .ok (.putfield 120, 3)) (kk : V X nL p l e R s m args below meth c Q cells slots n K (up2 F a 5 v) G lv (pc + 3) st) : V X nL p l e R s m args below meth c Q cells slots n K F G lv pc (.int v :: .ref a :: st) := v_put hC (by rw [ha]; decide) (fun q => by rw [q] at ha; cases ha) (ce_3 ha) rfl inX5 tyX5 tyX5_ok nmX5 (k := 5) (by decide) aw_975 (fun _ h => h) rfl (ty := tyX5 5) (tyX5_ok 5 (by decide)) rfl rfl (Nat.le_of_ble_eq_true rfl) (fun x hx => ⟨rfl, up2_a _ _ hx, rfl⟩) (by rw [ce_3 ha]; simp [up2, va_up]) hdg kk
theorem gf_X8_123 (hC : Cx X p s m args meth c RX8 cc nL ret) {a : Nat} (ha : (K a).1 = 4) (hdg : decode cc pc = .ok (.getfield 123, 3)) (kk : V X nL p l e R s m args below meth c Q cells slots n K F G lv (pc + 3) (.int (F a 0) :: st)) : V X nL p l e R s m args below meth c Q cells slots n K F G lv pc (.ref a :: st) := v_get hC (by rw [ha]; decide) (ce_4 ha) rfl inX0 (k := 0) (by decide) aw_1094 (fun _ h => h) rfl hdg kk
theorem gf_X8_129 (hC : Cx X p s m args meth c RX8 cc nL ret) {a : Nat} (ha : (K a).1 = 2) (hdg : decode cc pc = .ok (.getfield 129, 3)) (kk : V X nL p l e R s m args below meth c Q cells slots n K F G lv (pc + 3) (.int (F a 0) :: st)) : V X nL p l e R s m args below meth c Q cells slots n K F G lv pc (.ref a :: st) := v_get hC (by rw [ha]; decide) (ce_2 ha) rfl inX1 (k := 0) (by decide) aw_898 (fun _ h => h) rfl hdg kk
theorem gf_X8_135 (hC : Cx X p s m args meth c RX8 cc nL ret) {a : Nat} (ha : (K a).1 = 4) (hdg : decode cc pc = .ok (.getfield 135, 3)) (kk : V X nL p l e R s m args below meth c Q cells slots n K F G lv (pc + 3) (.int (F a 4) :: st)) : V X nL p l e R s m args below meth c Q cells slots n K F G lv pc (.ref a :: st) := v_get hC (by rw [ha]; decide) (ce_4 ha) rfl inX0 (k := 4) (by decide) aw_1104 (fun _ h => h) rfl hdg kk
theorem pf_X8_135 (hC : Cx X p s m args meth c RX8 cc nL ret) {a : Nat} {v : Int32} (ha : (K a).1 = 4) (hdg : decode cc pc = .ok (.putfield 135, 3)) (kk : V X nL p l e R s m args below meth c Q cells slots n K (up2 F a 4 v) G lv (pc + 3) st) : V X nL p l e R s m args below meth c Q cells slots n K F G lv pc (.int v :: .ref a :: st) := v_put hC (by rw [ha]; decide) (fun q => by rw [q] at ha; cases ha) (ce_4 ha) rfl inX0 tyX0 tyX0_ok nmX0 (k := 4) (by decide) aw_1104 (fun _ h => h) rfl (ty := tyX0 4) (tyX0_ok 4 (by decide)) rfl rfl (Nat.le_of_ble_eq_true rfl) (fun x hx => ⟨rfl, up2_a _ _ hx, rfl⟩) (by rw [ce_4 ha]; simp [up2, va_up]) hdg kk
theorem gf_X8_138 (hC : Cx X p s m args meth c RX8 cc nL ret) {a : Nat} (ha : (K a).1 = 5) (hdg : decode cc pc = .ok (.getfield 138, 3)) (kk : V X nL p l e R s m args below meth c Q cells slots n K F G lv (pc + 3) (.int (F a 0) :: st)) : V X nL p l e R s m args below meth c Q cells slots n K F G lv pc (.ref a :: st) := v_get hC (by rw [ha]; decide) (ce_5 ha) rfl inX4 (k := 0) (by decide) aw_1058 (fun _ h => h) rfl hdg kk
theorem gf_X8_145 (hC : Cx X p s m args meth c RX8 cc nL ret) {a : Nat} (ha : (K a).1 = 5) (hdg : decode cc pc = .ok (.getfield 145, 3)) (kk : V X nL p l e R s m args below meth c Q cells slots n K F G lv (pc + 3) (.int (F a 2) :: st)) : V X nL p l e R s m args below meth c Q cells slots n K F G lv pc (.ref a :: st) := v_get hC (by rw [ha]; decide) (ce_5 ha) rfl inX4 (k := 2) (by decide) aw_1062 (fun _ h => h) rfl hdg kk
theorem pf_X8_145 (hC : Cx X p s m args meth c RX8 cc nL ret) {a : Nat} {v : Int32} (ha : (K a).1 = 5) (hdg : decode cc pc = .ok (.putfield 145, 3)) (kk : V X nL p l e R s m args below meth c Q cells slots n K (up2 F a 2 v) G lv (pc + 3) st) : V X nL p l e R s m args below meth c Q cells slots n K F G lv pc (.int v :: .ref a :: st) := v_put hC (by rw [ha]; decide) (fun q => by rw [q] at ha; cases ha) (ce_5 ha) rfl inX4 tyX4 tyX4_ok nmX4 (k := 2) (by decide) aw_1062 (fun _ h => h) rfl (ty := tyX4 2) (tyX4_ok 2 (by decide)) rfl rfl (Nat.le_of_ble_eq_true rfl) (fun x hx => ⟨rfl, up2_a _ _ hx, rfl⟩) (by rw [ce_5 ha]; simp [up2, va_up]) hdg kk
theorem gf_X8_148 (hC : Cx X p s m args meth c RX8 cc nL ret) {a : Nat} (ha : (K a).1 = 5) (hdg : decode cc pc = .ok (.getfield 148, 3)) (kk : V X nL p l e R s m args below meth c Q cells slots n K F G lv (pc + 3) (.int (F a 3) :: st)) : V X nL p l e R s m args below meth c Q cells slots n K F G lv pc (.ref a :: st) := v_get hC (by rw [ha]; decide) (ce_5 ha) rfl inX4 (k := 3) (by decide) aw_1064 (fun _ h => h) rfl hdg kk
theorem pf_X8_148 (hC : Cx X p s m args meth c RX8 cc nL ret) {a : Nat} {v : Int32} (ha : (K a).1 = 5) (hdg : decode cc pc = .ok (.putfield 148, 3)) (kk : V X nL p l e R s m args below meth c Q cells slots n K (up2 F a 3 v) G lv (pc + 3) st) : V X nL p l e R s m args below meth c Q cells slots n K F G lv pc (.int v :: .ref a :: st) := v_put hC (by rw [ha]; decide) (fun q => by rw [q] at ha; cases ha) (ce_5 ha) rfl inX4 tyX4 tyX4_ok nmX4 (k := 3) (by decide) aw_1064 (fun _ h => h) rfl (ty := tyX4 3) (tyX4_ok 3 (by decide)) rfl rfl (Nat.le_of_ble_eq_true rfl) (fun x hx => ⟨rfl, up2_a _ _ hx, rfl⟩) (by rw [ce_5 ha]; simp [up2, va_up]) hdg kk
theorem gf_X8_151 (hC : Cx X p s m args meth c RX8 cc nL ret) {a : Nat} (ha : (K a).1 = 1) (hdg : decode cc pc = .ok (.getfield 151, 3)) (kk : V X nL p l e R s m args below meth c Q cells slots n K F G lv (pc + 3) (.int (F a 9) :: st)) : V X nL p l e R s m args below meth c Q cells slots n K F G lv pc (.ref a :: st) := v_get hC (by rw [ha]; decide) (ce_1 ha) rfl inX8 (k := 9) (by decide) aw_911 (fun _ h => h) rfl hdg kk
theorem pf_X8_157 (hC : Cx X p s m args meth c RX8 cc nL ret) {a : Nat} {v : Int32} (ha : (K a).1 = 3) (hdg : decode cc pc = .ok (.putfield 157, 3)) (kk : V X nL p l e R s m args below meth c Q cells slots n K (up2 F a 6 v) G lv (pc + 3) st) : V X nL p l e R s m args below meth c Q cells slots n K F G lv pc (.int v :: .ref a :: st) := v_put hC (by rw [ha]; decide) (fun q => by rw [q] at ha; cases ha) (ce_3 ha) rfl inX5 tyX5 tyX5_ok nmX5 (k := 6) (by decide) aw_977 (fun _ h => h) rfl (ty := tyX5 6) (tyX5_ok 6 (by decide)) rfl rfl (Nat.le_of_ble_eq_true rfl) (fun x hx => ⟨rfl, up2_a _ _ hx, rfl⟩) (by rw [ce_3 ha]; simp [up2, va_up]) hdg kk
theorem pf_X8_160 (hC : Cx X p s m args meth c RX8 cc nL ret) {a : Nat} {v : Int32} (ha : (K a).1 = 3) (hdg : decode cc pc = .ok (.putfield 160, 3)) (kk : V X nL p l e R s m args below meth c Q cells slots n K (up2 F a 7 v) G lv (pc + 3) st) : V X nL p l e R s m args below meth c Q cells slots n K F G lv pc (.int v :: .ref a :: st) := v_put hC (by rw [ha]; decide) (fun q => by rw [q] at ha; cases ha) (ce_3 ha) rfl inX5 tyX5 tyX5_ok nmX5 (k := 7) (by decide) aw_979 (fun _ h => h) rfl (ty := tyX5 7) (tyX5_ok 7 (by decide)) rfl rfl (Nat.le_of_ble_eq_true rfl) (fun x hx => ⟨rfl, up2_a _ _ hx, rfl⟩) (by rw [ce_3 ha]; simp [up2, va_up]) hdg kk
theorem gq_X8_22 (hC : Cx X p s m args meth c RX8 cc nL ret) {a : Nat} (ha : (K a).1 = 1) (hdg : decode cc pc = .ok (.getfield 22, 3)) (kk : V X nL p l e R s m args below meth c Q cells slots n K F G lv (pc + 3) (va_rf (G a 3) :: st)) : V X nL p l e R s m args below meth c Q cells slots n K F G lv pc (.ref a :: st) := v_get hC (by rw [ha]; decide) (ce_1 ha) rfl inX8 (k := 3) (by decide) aw_905 (fun _ h => h) rfl hdg kk
theorem gf_X8_22 (hC : Cx X p s m args meth c RX8 cc nL ret) {a q : Nat} (ha : (K a).1 = 1) (hq : G a 3 = some q) (hdg : decode cc pc = .ok (.getfield 22, 3)) (kk : V X nL p l e R s m args below meth c Q cells slots n K F G lv (pc + 3) (.ref q :: st)) : V X nL p l e R s m args below meth c Q cells slots n K F G lv pc (.ref a :: st) := gq_X8_22 hC ha hdg (by rw [hq]; exact kk)
theorem gf_X8_176 (hC : Cx X p s m args meth c RX8 cc nL ret) {a : Nat} (ha : (K a).1 = 6) (hdg : decode cc pc = .ok (.getfield 176, 3)) (kk : V X nL p l e R s m args below meth c Q cells slots n K F G lv (pc + 3) (.int (F a 0) :: st)) : V X nL p l e R s m args below meth c Q cells slots n K F G lv pc (.ref a :: st) := v_get hC (by rw [ha]; decide) (ce_6 ha) rfl inX6 (k := 0) (by decide) aw_1158 (fun _ h => h) rfl hdg kk
theorem gf_X8_181 (hC : Cx X p s m args meth c RX8 cc nL ret) {a : Nat} (ha : (K a).1 = 6) (hdg : decode cc pc = .ok (.getfield 181, 3)) (kk : V X nL p l e R s m args below meth c Q cells slots n K F G lv (pc + 3) (.int (F a 6) :: st)) : V X nL p l e R s m args below meth c Q cells slots n K F G lv pc (.ref a :: st) := v_get hC (by rw [ha]; decide) (ce_6 ha) rfl inX6 (k := 6) (by decide) aw_1168 (fun _ h => h) rfl hdg kk
theorem gf_X8_184 (hC : Cx X p s m args meth c RX8 cc nL ret) {a : Nat} (ha : (K a).1 = 4) (hdg : decode cc pc = .ok (.getfield 184, 3)) (kk : V X nL p l e R s m args below meth c Q cells slots n K F G lv (pc + 3) (.int (F a 2) :: st)) : V X nL p l e R s m args below meth c Q cells slots n K F G lv pc (.ref a :: st) := v_get hC (by rw [ha]; decide) (ce_4 ha) rfl inX0 (k := 2) (by decide) aw_1099 (fun _ h => h) rfl hdg kk
theorem gq_X8_25 (hC : Cx X p s m args meth c RX8 cc nL ret) {a : Nat} (ha : (K a).1 = 1) (hdg : decode cc pc = .ok (.getfield 25, 3)) (kk : V X nL p l e R s m args below meth c Q cells slots n K F G lv (pc + 3) (va_rf (G a 4) :: st)) : V X nL p l e R s m args below meth c Q cells slots n K F G lv pc (.ref a :: st) := v_get hC (by rw [ha]; decide) (ce_1 ha) rfl inX8 (k := 4) (by decide) aw_906 (fun _ h => h) rfl hdg kk
theorem gf_X8_25 (hC : Cx X p s m args meth c RX8 cc nL ret) {a q : Nat} (ha : (K a).1 = 1) (hq : G a 4 = some q) (hdg : decode cc pc = .ok (.getfield 25, 3)) (kk : V X nL p l e R s m args below meth c Q cells slots n K F G lv (pc + 3) (.ref q :: st)) : V X nL p l e R s m args below meth c Q cells slots n K F G lv pc (.ref a :: st) := gq_X8_25 hC ha hdg (by rw [hq]; exact kk)
theorem gq_X8_206 (hC : Cx X p s m args meth c RX8 cc nL ret) {a : Nat} (ha : (K a).1 = 4) (hdg : decode cc pc = .ok (.getfield 206, 3)) (kk : V X nL p l e R s m args below meth c Q cells slots n K F G lv (pc + 3) (va_rf (G a 1) :: st)) : V X nL p l e R s m args below meth c Q cells slots n K F G lv pc (.ref a :: st) := v_get hC (by rw [ha]; decide) (ce_4 ha) rfl inX0 (k := 1) (by decide) aw_1097 (fun _ h => h) rfl hdg kk
theorem gf_X8_206 (hC : Cx X p s m args meth c RX8 cc nL ret) {a q : Nat} (ha : (K a).1 = 4) (hq : G a 1 = some q) (hdg : decode cc pc = .ok (.getfield 206, 3)) (kk : V X nL p l e R s m args below meth c Q cells slots n K F G lv (pc + 3) (.ref q :: st)) : V X nL p l e R s m args below meth c Q cells slots n K F G lv pc (.ref a :: st) := gq_X8_206 hC ha hdg (by rw [hq]; exact kk)
theorem gq_X8_224 (hC : Cx X p s m args meth c RX8 cc nL ret) {a : Nat} (ha : (K a).1 = 6) (hdg : decode cc pc = .ok (.getfield 224, 3)) (kk : V X nL p l e R s m args below meth c Q cells slots n K F G lv (pc + 3) (va_rf (G a 1) :: st)) : V X nL p l e R s m args below meth c Q cells slots n K F G lv pc (.ref a :: st) := v_get hC (by rw [ha]; decide) (ce_6 ha) rfl inX6 (k := 1) (by decide) aw_1160 (fun _ h => h) rfl hdg kk
theorem gf_X8_224 (hC : Cx X p s m args meth c RX8 cc nL ret) {a q : Nat} (ha : (K a).1 = 6) (hq : G a 1 = some q) (hdg : decode cc pc = .ok (.getfield 224, 3)) (kk : V X nL p l e R s m args below meth c Q cells slots n K F G lv (pc + 3) (.ref q :: st)) : V X nL p l e R s m args below meth c Q cells slots n K F G lv pc (.ref a :: st) := gq_X8_224 hC ha hdg (by rw [hq]; exact kk)
theorem gf_X8_228 (hC : Cx X p s m args meth c RX8 cc nL ret) {a : Nat} (ha : (K a).1 = 5) (hdg : decode cc pc = .ok (.getfield 228, 3)) (kk : V X nL p l e R s m args below meth c Q cells slots n K F G lv (pc + 3) (.int (F a 4) :: st)) : V X nL p l e R s m args below meth c Q cells slots n K F G lv pc (.ref a :: st) := v_get hC (by rw [ha]; decide) (ce_5 ha) rfl inX4 (k := 4) (by decide) aw_1065 (fun _ h => h) rfl hdg kk
theorem pf_X8_228 (hC : Cx X p s m args meth c RX8 cc nL ret) {a : Nat} {v : Int32} (ha : (K a).1 = 5) (hdg : decode cc pc = .ok (.putfield 228, 3)) (kk : V X nL p l e R s m args below meth c Q cells slots n K (up2 F a 4 v) G lv (pc + 3) st) : V X nL p l e R s m args below meth c Q cells slots n K F G lv pc (.int v :: .ref a :: st) := v_put hC (by rw [ha]; decide) (fun q => by rw [q] at ha; cases ha) (ce_5 ha) rfl inX4 tyX4 tyX4_ok nmX4 (k := 4) (by decide) aw_1065 (fun _ h => h) rfl (ty := tyX4 4) (tyX4_ok 4 (by decide)) rfl rfl (Nat.le_of_ble_eq_true rfl) (fun x hx => ⟨rfl, up2_a _ _ hx, rfl⟩) (by rw [ce_5 ha]; simp [up2, va_up]) hdg kk
theorem gf_X8_242 (hC : Cx X p s m args meth c RX8 cc nL ret) {a : Nat} (ha : (K a).1 = 7) (hdg : decode cc pc = .ok (.getfield 242, 3)) (kk : V X nL p l e R s m args below meth c Q cells slots n K F G lv (pc + 3) (.int (F a 10) :: st)) : V X nL p l e R s m args below meth c Q cells slots n K F G lv pc (.ref a :: st) := v_get hC (by rw [ha]; decide) (ce_7 ha) rfl inX7 (k := 10) (by decide) aw_1230 (fun _ h => h) rfl hdg kk
theorem gf_X8_253 (hC : Cx X p s m args meth c RX8 cc nL ret) {a : Nat} (ha : (K a).1 = 7) (hdg : decode cc pc = .ok (.getfield 253, 3)) (kk : V X nL p l e R s m args below meth c Q cells slots n K F G lv (pc + 3) (.int (F a 4) :: st)) : V X nL p l e R s m args below meth c Q cells slots n K F G lv pc (.ref a :: st) := v_get hC (by rw [ha]; decide) (ce_7 ha) rfl inX7 (k := 4) (by decide) aw_1218 (fun _ h => h) rfl hdg kk
theorem gf_X8_256 (hC : Cx X p s m args meth c RX8 cc nL ret) {a : Nat} (ha : (K a).1 = 7) (hdg : decode cc pc = .ok (.getfield 256, 3)) (kk : V X nL p l e R s m args below meth c Q cells slots n K F G lv (pc + 3) (.int (F a 11) :: st)) : V X nL p l e R s m args below meth c Q cells slots n K F G lv pc (.ref a :: st) := v_get hC (by rw [ha]; decide) (ce_7 ha) rfl inX7 (k := 11) (by decide) aw_1232 (fun _ h => h) rfl hdg kk
theorem pf_X8_256 (hC : Cx X p s m args meth c RX8 cc nL ret) {a : Nat} {v : Int32} (hn : narrow (tyX7 11) (.int v) = .int v) (hf : fits (tyX7 11) (.int v) = true) (ha : (K a).1 = 7) (hdg : decode cc pc = .ok (.putfield 256, 3)) (kk : V X nL p l e R s m args below meth c Q cells slots n K (up2 F a 11 v) G lv (pc + 3) st) : V X nL p l e R s m args below meth c Q cells slots n K F G lv pc (.int v :: .ref a :: st) := v_put hC (by rw [ha]; decide) (fun q => by rw [q] at ha; cases ha) (ce_7 ha) rfl inX7 tyX7 tyX7_ok nmX7 (k := 11) (by decide) aw_1232 (fun _ h => h) rfl (ty := tyX7 11) (tyX7_ok 11 (by decide)) hn hf (Nat.le_of_ble_eq_true rfl) (fun x hx => ⟨rfl, up2_a _ _ hx, rfl⟩) (by rw [ce_7 ha]; simp [up2, va_up]) hdg kk
theorem gf_X8_265 (hC : Cx X p s m args meth c RX8 cc nL ret) {a : Nat} (ha : (K a).1 = 7) (hdg : decode cc pc = .ok (.getfield 265, 3)) (kk : V X nL p l e R s m args below meth c Q cells slots n K F G lv (pc + 3) (.int (F a 12) :: st)) : V X nL p l e R s m args below meth c Q cells slots n K F G lv pc (.ref a :: st) := v_get hC (by rw [ha]; decide) (ce_7 ha) rfl inX7 (k := 12) (by decide) aw_1234 (fun _ h => h) rfl hdg kk
theorem pf_X8_265 (hC : Cx X p s m args meth c RX8 cc nL ret) {a : Nat} {v : Int32} (hn : narrow (tyX7 12) (.int v) = .int v) (hf : fits (tyX7 12) (.int v) = true) (ha : (K a).1 = 7) (hdg : decode cc pc = .ok (.putfield 265, 3)) (kk : V X nL p l e R s m args below meth c Q cells slots n K (up2 F a 12 v) G lv (pc + 3) st) : V X nL p l e R s m args below meth c Q cells slots n K F G lv pc (.int v :: .ref a :: st) := v_put hC (by rw [ha]; decide) (fun q => by rw [q] at ha; cases ha) (ce_7 ha) rfl inX7 tyX7 tyX7_ok nmX7 (k := 12) (by decide) aw_1234 (fun _ h => h) rfl (ty := tyX7 12) (tyX7_ok 12 (by decide)) hn hf (Nat.le_of_ble_eq_true rfl) (fun x hx => ⟨rfl, up2_a _ _ hx, rfl⟩) (by rw [ce_7 ha]; simp [up2, va_up]) hdg kk
theorem gf_X8_268 (hC : Cx X p s m args meth c RX8 cc nL ret) {a : Nat} (ha : (K a).1 = 7) (hdg : decode cc pc = .ok (.getfield 268, 3)) (kk : V X nL p l e R s m args below meth c Q cells slots n K F G lv (pc + 3) (.int (F a 7) :: st)) : V X nL p l e R s m args below meth c Q cells slots n K F G lv pc (.ref a :: st) := v_get hC (by rw [ha]; decide) (ce_7 ha) rfl inX7 (k := 7) (by decide) aw_1224 (fun _ h => h) rfl hdg kk
theorem pf_X8_268 (hC : Cx X p s m args meth c RX8 cc nL ret) {a : Nat} {v : Int32} (ha : (K a).1 = 7) (hdg : decode cc pc = .ok (.putfield 268, 3)) (kk : V X nL p l e R s m args below meth c Q cells slots n K (up2 F a 7 v) G lv (pc + 3) st) : V X nL p l e R s m args below meth c Q cells slots n K F G lv pc (.int v :: .ref a :: st) := v_put hC (by rw [ha]; decide) (fun q => by rw [q] at ha; cases ha) (ce_7 ha) rfl inX7 tyX7 tyX7_ok nmX7 (k := 7) (by decide) aw_1224 (fun _ h => h) rfl (ty := tyX7 7) (tyX7_ok 7 (by decide)) rfl rfl (Nat.le_of_ble_eq_true rfl) (fun x hx => ⟨rfl, up2_a _ _ hx, rfl⟩) (by rw [ce_7 ha]; simp [up2, va_up]) hdg kk
theorem gq_X8_274 (hC : Cx X p s m args meth c RX8 cc nL ret) {a : Nat} (ha : (K a).1 = 7) (hdg : decode cc pc = .ok (.getfield 274, 3)) (kk : V X nL p l e R s m args below meth c Q cells slots n K F G lv (pc + 3) (va_rf (G a 0) :: st)) : V X nL p l e R s m args below meth c Q cells slots n K F G lv pc (.ref a :: st) := v_get hC (by rw [ha]; decide) (ce_7 ha) rfl inX7 (k := 0) (by decide) aw_1210 (fun _ h => h) rfl hdg kk
theorem gf_X8_274 (hC : Cx X p s m args meth c RX8 cc nL ret) {a q : Nat} (ha : (K a).1 = 7) (hq : G a 0 = some q) (hdg : decode cc pc = .ok (.getfield 274, 3)) (kk : V X nL p l e R s m args below meth c Q cells slots n K F G lv (pc + 3) (.ref q :: st)) : V X nL p l e R s m args below meth c Q cells slots n K F G lv pc (.ref a :: st) := gq_X8_274 hC ha hdg (by rw [hq]; exact kk)
theorem gf_X8_278 (hC : Cx X p s m args meth c RX8 cc nL ret) {a : Nat} (ha : (K a).1 = 6) (hdg : decode cc pc = .ok (.getfield 278, 3)) (kk : V X nL p l e R s m args below meth c Q cells slots n K F G lv (pc + 3) (.int (F a 2) :: st)) : V X nL p l e R s m args below meth c Q cells slots n K F G lv pc (.ref a :: st) := v_get hC (by rw [ha]; decide) (ce_6 ha) rfl inX6 (k := 2) (by decide) aw_1162 (fun _ h => h) rfl hdg kk
theorem gf_X8_281 (hC : Cx X p s m args meth c RX8 cc nL ret) {a : Nat} (ha : (K a).1 = 6) (hdg : decode cc pc = .ok (.getfield 281, 3)) (kk : V X nL p l e R s m args below meth c Q cells slots n K F G lv (pc + 3) (.int (F a 4) :: st)) : V X nL p l e R s m args below meth c Q cells slots n K F G lv pc (.ref a :: st) := v_get hC (by rw [ha]; decide) (ce_6 ha) rfl inX6 (k := 4) (by decide) aw_1166 (fun _ h => h) rfl hdg kk
theorem pf_X8_288 (hC : Cx X p s m args meth c RX8 cc nL ret) {a q : Nat} (ha : (K a).1 = 7) (hdg : decode cc pc = .ok (.putfield 288, 3)) (kk : V X nL p l e R s m args below meth c Q cells slots n K F (up2 G a 14 (some q)) lv (pc + 3) st) : V X nL p l e R s m args below meth c Q cells slots n K F G lv pc (.ref q :: .ref a :: st) := v_put hC (by rw [ha]; decide) (fun q => by rw [q] at ha; cases ha) (ce_7 ha) rfl inX7 tyX7 tyX7_ok nmX7 (k := 14) (by decide) aw_1238 (fun _ h => h) rfl (ty := tyX7 14) (tyX7_ok 14 (by decide)) rfl rfl (Nat.le_of_ble_eq_true rfl) (fun x hx => ⟨rfl, rfl, up2_a _ _ hx⟩) (by rw [ce_7 ha]; simp [up2, va_up, va_rf]) hdg kk
theorem gq_X8_31 (hC : Cx X p s m args meth c RX8 cc nL ret) {a : Nat} (ha : (K a).1 = 1) (hdg : decode cc pc = .ok (.getfield 31, 3)) (kk : V X nL p l e R s m args below meth c Q cells slots n K F G lv (pc + 3) (va_rf (G a 5) :: st)) : V X nL p l e R s m args below meth c Q cells slots n K F G lv pc (.ref a :: st) := v_get hC (by rw [ha]; decide) (ce_1 ha) rfl inX8 (k := 5) (by decide) aw_907 (fun _ h => h) rfl hdg kk
theorem gf_X8_31 (hC : Cx X p s m args meth c RX8 cc nL ret) {a q : Nat} (ha : (K a).1 = 1) (hq : G a 5 = some q) (hdg : decode cc pc = .ok (.getfield 31, 3)) (kk : V X nL p l e R s m args below meth c Q cells slots n K F G lv (pc + 3) (.ref q :: st)) : V X nL p l e R s m args below meth c Q cells slots n K F G lv pc (.ref a :: st) := gq_X8_31 hC ha hdg (by rw [hq]; exact kk)
theorem gq_X8_292 (hC : Cx X p s m args meth c RX8 cc nL ret) {a : Nat} (ha : (K a).1 = 5) (hdg : decode cc pc = .ok (.getfield 292, 3)) (kk : V X nL p l e R s m args below meth c Q cells slots n K F G lv (pc + 3) (va_rf (G a 1) :: st)) : V X nL p l e R s m args below meth c Q cells slots n K F G lv pc (.ref a :: st) := v_get hC (by rw [ha]; decide) (ce_5 ha) rfl inX4 (k := 1) (by decide) aw_1060 (fun _ h => h) rfl hdg kk
theorem gf_X8_292 (hC : Cx X p s m args meth c RX8 cc nL ret) {a q : Nat} (ha : (K a).1 = 5) (hq : G a 1 = some q) (hdg : decode cc pc = .ok (.getfield 292, 3)) (kk : V X nL p l e R s m args below meth c Q cells slots n K F G lv (pc + 3) (.ref q :: st)) : V X nL p l e R s m args below meth c Q cells slots n K F G lv pc (.ref a :: st) := gq_X8_292 hC ha hdg (by rw [hq]; exact kk)
theorem gf_X8_293 (hC : Cx X p s m args meth c RX8 cc nL ret) {a : Nat} (ha : (K a).1 = 6) (hdg : decode cc pc = .ok (.getfield 293, 3)) (kk : V X nL p l e R s m args below meth c Q cells slots n K F G lv (pc + 3) (.int (F a 3) :: st)) : V X nL p l e R s m args below meth c Q cells slots n K F G lv pc (.ref a :: st) := v_get hC (by rw [ha]; decide) (ce_6 ha) rfl inX6 (k := 3) (by decide) aw_1164 (fun _ h => h) rfl hdg kk
theorem gf_X8_300 (hC : Cx X p s m args meth c RX8 cc nL ret) {a : Nat} (ha : (K a).1 = 1) (hdg : decode cc pc = .ok (.getfield 300, 3)) (kk : V X nL p l e R s m args below meth c Q cells slots n K F G lv (pc + 3) (.int (F a 11) :: st)) : V X nL p l e R s m args below meth c Q cells slots n K F G lv pc (.ref a :: st) := v_get hC (by rw [ha]; decide) (ce_1 ha) rfl inX8 (k := 11) (by decide) aw_913 (fun _ h => h) rfl hdg kk
theorem pf_X8_300 (hC : Cx X p s m args meth c RX8 cc nL ret) {a : Nat} {v : Int32} (ha : (K a).1 = 1) (hdg : decode cc pc = .ok (.putfield 300, 3)) (kk : V X nL p l e R s m args below meth c Q cells slots n K (up2 F a 11 v) G lv (pc + 3) st) : V X nL p l e R s m args below meth c Q cells slots n K F G lv pc (.int v :: .ref a :: st) := v_put hC (by rw [ha]; decide) (fun q => by rw [q] at ha; cases ha) (ce_1 ha) rfl inX8 tyX8 tyX8_ok nmX8 (k := 11) (by decide) aw_913 (fun _ h => h) rfl (ty := tyX8 11) (tyX8_ok 11 (by decide)) rfl rfl (Nat.le_of_ble_eq_true rfl) (fun x hx => ⟨rfl, up2_a _ _ hx, rfl⟩) (by rw [ce_1 ha]; simp [up2, va_up]) hdg kk
theorem gq_X8_288 (hC : Cx X p s m args meth c RX8 cc nL ret) {a : Nat} (ha : (K a).1 = 7) (hdg : decode cc pc = .ok (.getfield 288, 3)) (kk : V X nL p l e R s m args below meth c Q cells slots n K F G lv (pc + 3) (va_rf (G a 14) :: st)) : V X nL p l e R s m args below meth c Q cells slots n K F G lv pc (.ref a :: st) := v_get hC (by rw [ha]; decide) (ce_7 ha) rfl inX7 (k := 14) (by decide) aw_1238 (fun _ h => h) rfl hdg kk
theorem gf_X8_288 (hC : Cx X p s m args meth c RX8 cc nL ret) {a q : Nat} (ha : (K a).1 = 7) (hq : G a 14 = some q) (hdg : decode cc pc = .ok (.getfield 288, 3)) (kk : V X nL p l e R s m args below meth c Q cells slots n K F G lv (pc + 3) (.ref q :: st)) : V X nL p l e R s m args below meth c Q cells slots n K F G lv pc (.ref a :: st) := gq_X8_288 hC ha hdg (by rw [hq]; exact kk)
theorem gf_X8_303 (hC : Cx X p s m args meth c RX8 cc nL ret) {a : Nat} (ha : (K a).1 = 7) (hdg : decode cc pc = .ok (.getfield 303, 3)) (kk : V X nL p l e R s m args below meth c Q cells slots n K F G lv (pc + 3) (.int (F a 13) :: st)) : V X nL p l e R s m args below meth c Q cells slots n K F G lv pc (.ref a :: st) := v_get hC (by rw [ha]; decide) (ce_7 ha) rfl inX7 (k := 13) (by decide) aw_1236 (fun _ h => h) rfl hdg kk
theorem gq_X8_310 (hC : Cx X p s m args meth c RX8 cc nL ret) {a : Nat} (ha : (K a).1 = 7) (hdg : decode cc pc = .ok (.getfield 310, 3)) (kk : V X nL p l e R s m args below meth c Q cells slots n K F G lv (pc + 3) (va_rf (G a 1) :: st)) : V X nL p l e R s m args below meth c Q cells slots n K F G lv pc (.ref a :: st) := v_get hC (by rw [ha]; decide) (ce_7 ha) rfl inX7 (k := 1) (by decide) aw_1212 (fun _ h => h) rfl hdg kk
theorem gf_X8_310 (hC : Cx X p s m args meth c RX8 cc nL ret) {a q : Nat} (ha : (K a).1 = 7) (hq : G a 1 = some q) (hdg : decode cc pc = .ok (.getfield 310, 3)) (kk : V X nL p l e R s m args below meth c Q cells slots n K F G lv (pc + 3) (.ref q :: st)) : V X nL p l e R s m args below meth c Q cells slots n K F G lv pc (.ref a :: st) := gq_X8_310 hC ha hdg (by rw [hq]; exact kk)
theorem gf_X8_320 (hC : Cx X p s m args meth c RX8 cc nL ret) {a : Nat} (ha : (K a).1 = 7) (hdg : decode cc pc = .ok (.getfield 320, 3)) (kk : V X nL p l e R s m args below meth c Q cells slots n K F G lv (pc + 3) (.int (F a 5) :: st)) : V X nL p l e R s m args below meth c Q cells slots n K F G lv pc (.ref a :: st) := v_get hC (by rw [ha]; decide) (ce_7 ha) rfl inX7 (k := 5) (by decide) aw_1220 (fun _ h => h) rfl hdg kk
theorem pf_X8_303 (hC : Cx X p s m args meth c RX8 cc nL ret) {a : Nat} {v : Int32} (hn : narrow (tyX7 13) (.int v) = .int v) (hf : fits (tyX7 13) (.int v) = true) (ha : (K a).1 = 7) (hdg : decode cc pc = .ok (.putfield 303, 3)) (kk : V X nL p l e R s m args below meth c Q cells slots n K (up2 F a 13 v) G lv (pc + 3) st) : V X nL p l e R s m args below meth c Q cells slots n K F G lv pc (.int v :: .ref a :: st) := v_put hC (by rw [ha]; decide) (fun q => by rw [q] at ha; cases ha) (ce_7 ha) rfl inX7 tyX7 tyX7_ok nmX7 (k := 13) (by decide) aw_1236 (fun _ h => h) rfl (ty := tyX7 13) (tyX7_ok 13 (by decide)) hn hf (Nat.le_of_ble_eq_true rfl) (fun x hx => ⟨rfl, up2_a _ _ hx, rfl⟩) (by rw [ce_7 ha]; simp [up2, va_up]) hdg kk
theorem pf_X8_181 (hC : Cx X p s m args meth c RX8 cc nL ret) {a : Nat} {v : Int32} (hn : narrow (tyX6 6) (.int v) = .int v) (hf : fits (tyX6 6) (.int v) = true) (ha : (K a).1 = 6) (hdg : decode cc pc = .ok (.putfield 181, 3)) (kk : V X nL p l e R s m args below meth c Q cells slots n K (up2 F a 6 v) G lv (pc + 3) st) : V X nL p l e R s m args below meth c Q cells slots n K F G lv pc (.int v :: .ref a :: st) := v_put hC (by rw [ha]; decide) (fun q => by rw [q] at ha; cases ha) (ce_6 ha) rfl inX6 tyX6 tyX6_ok nmX6 (k := 6) (by decide) aw_1168 (fun _ h => h) rfl (ty := tyX6 6) (tyX6_ok 6 (by decide)) hn hf (Nat.le_of_ble_eq_true rfl) (fun x hx => ⟨rfl, up2_a _ _ hx, rfl⟩) (by rw [ce_6 ha]; simp [up2, va_up]) hdg kk
theorem pf_X8_151 (hC : Cx X p s m args meth c RX8 cc nL ret) {a : Nat} {v : Int32} (ha : (K a).1 = 1) (hdg : decode cc pc = .ok (.putfield 151, 3)) (kk : V X nL p l e R s m args below meth c Q cells slots n K (up2 F a 9 v) G lv (pc + 3) st) : V X nL p l e R s m args below meth c Q cells slots n K F G lv pc (.int v :: .ref a :: st) := v_put hC (by rw [ha]; decide) (fun q => by rw [q] at ha; cases ha) (ce_1 ha) rfl inX8 tyX8 tyX8_ok nmX8 (k := 9) (by decide) aw_911 (fun _ h => h) rfl (ty := tyX8 9) (tyX8_ok 9 (by decide)) rfl rfl (Nat.le_of_ble_eq_true rfl) (fun x hx => ⟨rfl, up2_a _ _ hx, rfl⟩) (by rw [ce_1 ha]; simp [up2, va_up]) hdg kk
theorem gf_X8_109 (hC : Cx X p s m args meth c RX8 cc nL ret) {a : Nat} (ha : (K a).1 = 3) (hdg : decode cc pc = .ok (.getfield 109, 3)) (kk : V X nL p l e R s m args below meth c Q cells slots n K F G lv (pc + 3) (.int (F a 3) :: st)) : V X nL p l e R s m args below meth c Q cells slots n K F G lv pc (.ref a :: st) := v_get hC (by rw [ha]; decide) (ce_3 ha) rfl inX5 (k := 3) (by decide) aw_971 (fun _ h => h) rfl hdg kk
theorem gf_X8_106 (hC : Cx X p s m args meth c RX8 cc nL ret) {a : Nat} (ha : (K a).1 = 3) (hdg : decode cc pc = .ok (.getfield 106, 3)) (kk : V X nL p l e R s m args below meth c Q cells slots n K F G lv (pc + 3) (.int (F a 2) :: st)) : V X nL p l e R s m args below meth c Q cells slots n K F G lv pc (.ref a :: st) := v_get hC (by rw [ha]; decide) (ce_3 ha) rfl inX5 (k := 2) (by decide) aw_970 (fun _ h => h) rfl hdg kk
theorem gq_X8_38 (hC : Cx X p s m args meth c RX8 cc nL ret) {a : Nat} (ha : (K a).1 = 1) (hdg : decode cc pc = .ok (.getfield 38, 3)) (kk : V X nL p l e R s m args below meth c Q cells slots n K F G lv (pc + 3) (va_rf (G a 7) :: st)) : V X nL p l e R s m args below meth c Q cells slots n K F G lv pc (.ref a :: st) := v_get hC (by rw [ha]; decide) (ce_1 ha) rfl inX8 (k := 7) (by decide) aw_909 (fun _ h => h) rfl hdg kk
theorem gf_X8_38 (hC : Cx X p s m args meth c RX8 cc nL ret) {a q : Nat} (ha : (K a).1 = 1) (hq : G a 7 = some q) (hdg : decode cc pc = .ok (.getfield 38, 3)) (kk : V X nL p l e R s m args below meth c Q cells slots n K F G lv (pc + 3) (.ref q :: st)) : V X nL p l e R s m args below meth c Q cells slots n K F G lv pc (.ref a :: st) := gq_X8_38 hC ha hdg (by rw [hq]; exact kk)
theorem gq_X8_35 (hC : Cx X p s m args meth c RX8 cc nL ret) {a : Nat} (ha : (K a).1 = 1) (hdg : decode cc pc = .ok (.getfield 35, 3)) (kk : V X nL p l e R s m args below meth c Q cells slots n K F G lv (pc + 3) (va_rf (G a 6) :: st)) : V X nL p l e R s m args below meth c Q cells slots n K F G lv pc (.ref a :: st) := v_get hC (by rw [ha]; decide) (ce_1 ha) rfl inX8 (k := 6) (by decide) aw_908 (fun _ h => h) rfl hdg kk
theorem gf_X8_35 (hC : Cx X p s m args meth c RX8 cc nL ret) {a q : Nat} (ha : (K a).1 = 1) (hq : G a 6 = some q) (hdg : decode cc pc = .ok (.getfield 35, 3)) (kk : V X nL p l e R s m args below meth c Q cells slots n K F G lv (pc + 3) (.ref q :: st)) : V X nL p l e R s m args below meth c Q cells slots n K F G lv pc (.ref a :: st) := gq_X8_35 hC ha hdg (by rw [hq]; exact kk)
theorem gf_X8_503 (hC : Cx X p s m args meth c RX8 cc nL ret) {a : Nat} (ha : (K a).1 = 7) (hdg : decode cc pc = .ok (.getfield 503, 3)) (kk : V X nL p l e R s m args below meth c Q cells slots n K F G lv (pc + 3) (.int (F a 9) :: st)) : V X nL p l e R s m args below meth c Q cells slots n K F G lv pc (.ref a :: st) := v_get hC (by rw [ha]; decide) (ce_7 ha) rfl inX7 (k := 9) (by decide) aw_1228 (fun _ h => h) rfl hdg kk
theorem gf_X8_506 (hC : Cx X p s m args meth c RX8 cc nL ret) {a : Nat} (ha : (K a).1 = 1) (hdg : decode cc pc = .ok (.getfield 506, 3)) (kk : V X nL p l e R s m args below meth c Q cells slots n K F G lv (pc + 3) (.int (F a 10) :: st)) : V X nL p l e R s m args below meth c Q cells slots n K F G lv pc (.ref a :: st) := v_get hC (by rw [ha]; decide) (ce_1 ha) rfl inX8 (k := 10) (by decide) aw_912 (fun _ h => h) rfl hdg kk
theorem pf_X8_506 (hC : Cx X p s m args meth c RX8 cc nL ret) {a : Nat} {v : Int32} (ha : (K a).1 = 1) (hdg : decode cc pc = .ok (.putfield 506, 3)) (kk : V X nL p l e R s m args below meth c Q cells slots n K (up2 F a 10 v) G lv (pc + 3) st) : V X nL p l e R s m args below meth c Q cells slots n K F G lv pc (.int v :: .ref a :: st) := v_put hC (by rw [ha]; decide) (fun q => by rw [q] at ha; cases ha) (ce_1 ha) rfl inX8 tyX8 tyX8_ok nmX8 (k := 10) (by decide) aw_912 (fun _ h => h) rfl (ty := tyX8 10) (tyX8_ok 10 (by decide)) rfl rfl (Nat.le_of_ble_eq_true rfl) (fun x hx => ⟨rfl, up2_a _ _ hx, rfl⟩) (by rw [ce_1 ha]; simp [up2, va_up]) hdg kk
theorem gf_X8_509 (hC : Cx X p s m args meth c RX8 cc nL ret) {a : Nat} (ha : (K a).1 = 8) (hdg : decode cc pc = .ok (.getfield 509, 3)) (kk : V X nL p l e R s m args below meth c Q cells slots n K F G lv (pc + 3) (.int (F a 1) :: st)) : V X nL p l e R s m args below meth c Q cells slots n K F G lv pc (.ref a :: st) := v_get hC (by rw [ha]; decide) (ce_8 ha) rfl inX2 (k := 1) (by decide) aw_1351 (fun _ h => h) rfl hdg kk
theorem gf_X8_512 (hC : Cx X p s m args meth c RX8 cc nL ret) {a : Nat} (ha : (K a).1 = 8) (hdg : decode cc pc = .ok (.getfield 512, 3)) (kk : V X nL p l e R s m args below meth c Q cells slots n K F G lv (pc + 3) (.int (F a 2) :: st)) : V X nL p l e R s m args below meth c Q cells slots n K F G lv pc (.ref a :: st) := v_get hC (by rw [ha]; decide) (ce_8 ha) rfl inX2 (k := 2) (by decide) aw_1353 (fun _ h => h) rfl hdg kk
theorem pf_X8_242 (hC : Cx X p s m args meth c RX8 cc nL ret) {a : Nat} {v : Int32} (ha : (K a).1 = 7) (hdg : decode cc pc = .ok (.putfield 242, 3)) (kk : V X nL p l e R s m args below meth c Q cells slots n K (up2 F a 10 v) G lv (pc + 3) st) : V X nL p l e R s m args below meth c Q cells slots n K F G lv pc (.int v :: .ref a :: st) := v_put hC (by rw [ha]; decide) (fun q => by rw [q] at ha; cases ha) (ce_7 ha) rfl inX7 tyX7 tyX7_ok nmX7 (k := 10) (by decide) aw_1230 (fun _ h => h) rfl (ty := tyX7 10) (tyX7_ok 10 (by decide)) rfl rfl (Nat.le_of_ble_eq_true rfl) (fun x hx => ⟨rfl, up2_a _ _ hx, rfl⟩) (by rw [ce_7 ha]; simp [up2, va_up]) hdg kk
theorem gf_X8_515 (hC : Cx X p s m args meth c RX8 cc nL ret) {a : Nat} (ha : (K a).1 = 8) (hdg : decode cc pc = .ok (.getfield 515, 3)) (kk : V X nL p l e R s m args below meth c Q cells slots n K F G lv (pc + 3) (.int (F a 5) :: st)) : V X nL p l e R s m args below meth c Q cells slots n K F G lv pc (.ref a :: st) := v_get hC (by rw [ha]; decide) (ce_8 ha) rfl inX2 (k := 5) (by decide) aw_1359 (fun _ h => h) rfl hdg kk
theorem gf_X8_518 (hC : Cx X p s m args meth c RX8 cc nL ret) {a : Nat} (ha : (K a).1 = 8) (hdg : decode cc pc = .ok (.getfield 518, 3)) (kk : V X nL p l e R s m args below meth c Q cells slots n K F G lv (pc + 3) (.int (F a 6) :: st)) : V X nL p l e R s m args below meth c Q cells slots n K F G lv pc (.ref a :: st) := v_get hC (by rw [ha]; decide) (ce_8 ha) rfl inX2 (k := 6) (by decide) aw_1361 (fun _ h => h) rfl hdg kk
theorem gf_X8_524 (hC : Cx X p s m args meth c RX8 cc nL ret) {a : Nat} (ha : (K a).1 = 1) (hdg : decode cc pc = .ok (.getfield 524, 3)) (kk : V X nL p l e R s m args below meth c Q cells slots n K F G lv (pc + 3) (.int (F a 12) :: st)) : V X nL p l e R s m args below meth c Q cells slots n K F G lv pc (.ref a :: st) := v_get hC (by rw [ha]; decide) (ce_1 ha) rfl inX8 (k := 12) (by decide) aw_914 (fun _ h => h) rfl hdg kk
theorem pf_X8_524 (hC : Cx X p s m args meth c RX8 cc nL ret) {a : Nat} {v : Int32} (ha : (K a).1 = 1) (hdg : decode cc pc = .ok (.putfield 524, 3)) (kk : V X nL p l e R s m args below meth c Q cells slots n K (up2 F a 12 v) G lv (pc + 3) st) : V X nL p l e R s m args below meth c Q cells slots n K F G lv pc (.int v :: .ref a :: st) := v_put hC (by rw [ha]; decide) (fun q => by rw [q] at ha; cases ha) (ce_1 ha) rfl inX8 tyX8 tyX8_ok nmX8 (k := 12) (by decide) aw_914 (fun _ h => h) rfl (ty := tyX8 12) (tyX8_ok 12 (by decide)) rfl rfl (Nat.le_of_ble_eq_true rfl) (fun x hx => ⟨rfl, up2_a _ _ hx, rfl⟩) (by rw [ce_1 ha]; simp [up2, va_up]) hdg kk
theorem gq_X8_527 (hC : Cx X p s m args meth c RX8 cc nL ret) {a : Nat} (ha : (K a).1 = 7) (hdg : decode cc pc = .ok (.getfield 527, 3)) (kk : V X nL p l e R s m args below meth c Q cells slots n K F G lv (pc + 3) (va_rf (G a 15) :: st)) : V X nL p l e R s m args below meth c Q cells slots n K F G lv pc (.ref a :: st) := v_get hC (by rw [ha]; decide) (ce_7 ha) rfl inX7 (k := 15) (by decide) aw_1240 (fun _ h => h) rfl hdg kk
theorem gf_X8_527 (hC : Cx X p s m args meth c RX8 cc nL ret) {a q : Nat} (ha : (K a).1 = 7) (hq : G a 15 = some q) (hdg : decode cc pc = .ok (.getfield 527, 3)) (kk : V X nL p l e R s m args below meth c Q cells slots n K F G lv (pc + 3) (.ref q :: st)) : V X nL p l e R s m args below meth c Q cells slots n K F G lv pc (.ref a :: st) := gq_X8_527 hC ha hdg (by rw [hq]; exact kk)
theorem gf_X8_103 (hC : Cx X p s m args meth c RX8 cc nL ret) {a : Nat} (ha : (K a).1 = 3) (hdg : decode cc pc = .ok (.getfield 103, 3)) (kk : V X nL p l e R s m args below meth c Q cells slots n K F G lv (pc + 3) (.int (F a 1) :: st)) : V X nL p l e R s m args below meth c Q cells slots n K F G lv pc (.ref a :: st) := v_get hC (by rw [ha]; decide) (ce_3 ha) rfl inX5 (k := 1) (by decide) aw_968 (fun _ h => h) rfl hdg kk
theorem gf_X8_567 (hC : Cx X p s m args meth c RX8 cc nL ret) {a : Nat} (ha : (K a).1 = 7) (hdg : decode cc pc = .ok (.getfield 567, 3)) (kk : V X nL p l e R s m args below meth c Q cells slots n K F G lv (pc + 3) (.int (F a 2) :: st)) : V X nL p l e R s m args below meth c Q cells slots n K F G lv pc (.ref a :: st) := v_get hC (by rw [ha]; decide) (ce_7 ha) rfl inX7 (k := 2) (by decide) aw_1214 (fun _ h => h) rfl hdg kk
theorem gf_X8_570 (hC : Cx X p s m args meth c RX8 cc nL ret) {a : Nat} (ha : (K a).1 = 7) (hdg : decode cc pc = .ok (.getfield 570, 3)) (kk : V X nL p l e R s m args below meth c Q cells slots n K F G lv (pc + 3) (.int (F a 3) :: st)) : V X nL p l e R s m args below meth c Q cells slots n K F G lv pc (.ref a :: st) := v_get hC (by rw [ha]; decide) (ce_7 ha) rfl inX7 (k := 3) (by decide) aw_1216 (fun _ h => h) rfl hdg kk
theorem gf_X8_573 (hC : Cx X p s m args meth c RX8 cc nL ret) {a : Nat} (ha : (K a).1 = 7) (hdg : decode cc pc = .ok (.getfield 573, 3)) (kk : V X nL p l e R s m args below meth c Q cells slots n K F G lv (pc + 3) (.int (F a 8) :: st)) : V X nL p l e R s m args below meth c Q cells slots n K F G lv pc (.ref a :: st) := v_get hC (by rw [ha]; decide) (ce_7 ha) rfl inX7 (k := 8) (by decide) aw_1226 (fun _ h => h) rfl hdg kk
theorem gf_X8_576 (hC : Cx X p s m args meth c RX8 cc nL ret) {a : Nat} (ha : (K a).1 = 7) (hdg : decode cc pc = .ok (.getfield 576, 3)) (kk : V X nL p l e R s m args below meth c Q cells slots n K F G lv (pc + 3) (.int (F a 6) :: st)) : V X nL p l e R s m args below meth c Q cells slots n K F G lv pc (.ref a :: st) := v_get hC (by rw [ha]; decide) (ce_7 ha) rfl inX7 (k := 6) (by decide) aw_1222 (fun _ h => h) rfl hdg kk
theorem gf_X8_582 (hC : Cx X p s m args meth c RX8 cc nL ret) {a : Nat} (ha : (K a).1 = 8) (hdg : decode cc pc = .ok (.getfield 582, 3)) (kk : V X nL p l e R s m args below meth c Q cells slots n K F G lv (pc + 3) (.int (F a 0) :: st)) : V X nL p l e R s m args below meth c Q cells slots n K F G lv pc (.ref a :: st) := v_get hC (by rw [ha]; decide) (ce_8 ha) rfl inX2 (k := 0) (by decide) aw_1349 (fun _ h => h) rfl hdg kk
theorem gf_X8_585 (hC : Cx X p s m args meth c RX8 cc nL ret) {a : Nat} (ha : (K a).1 = 8) (hdg : decode cc pc = .ok (.getfield 585, 3)) (kk : V X nL p l e R s m args below meth c Q cells slots n K F G lv (pc + 3) (.int (F a 3) :: st)) : V X nL p l e R s m args below meth c Q cells slots n K F G lv pc (.ref a :: st) := v_get hC (by rw [ha]; decide) (ce_8 ha) rfl inX2 (k := 3) (by decide) aw_1356 (fun _ h => h) rfl hdg kk
theorem gf_X8_588 (hC : Cx X p s m args meth c RX8 cc nL ret) {a : Nat} (ha : (K a).1 = 9) (hdg : decode cc pc = .ok (.getfield 588, 3)) (kk : V X nL p l e R s m args below meth c Q cells slots n K F G lv (pc + 3) (.int (F a 1) :: st)) : V X nL p l e R s m args below meth c Q cells slots n K F G lv pc (.ref a :: st) := v_get hC (by rw [ha]; decide) (ce_9 ha) rfl inX3 (k := 1) (by decide) aw_1399 (fun _ h => h) rfl hdg kk
theorem gf_X8_591 (hC : Cx X p s m args meth c RX8 cc nL ret) {a : Nat} (ha : (K a).1 = 9) (hdg : decode cc pc = .ok (.getfield 591, 3)) (kk : V X nL p l e R s m args below meth c Q cells slots n K F G lv (pc + 3) (.int (F a 0) :: st)) : V X nL p l e R s m args below meth c Q cells slots n K F G lv pc (.ref a :: st) := v_get hC (by rw [ha]; decide) (ce_9 ha) rfl inX3 (k := 0) (by decide) aw_1396 (fun _ h => h) rfl hdg kk
theorem gf_X8_332 (hC : Cx X p s m args meth c RX8 cc nL ret) {a : Nat} (ha : (K a).1 = 1) (hdg : decode cc pc = .ok (.getfield 332, 3)) (kk : V X nL p l e R s m args below meth c Q cells slots n K F G lv (pc + 3) (.int (F a 13) :: st)) : V X nL p l e R s m args below meth c Q cells slots n K F G lv pc (.ref a :: st) := v_get hC (by rw [ha]; decide) (ce_1 ha) rfl inX8 (k := 13) (by decide) aw_915 (fun _ h => h) rfl hdg kk
theorem pf_Jx4a65c_9 (hC : Cx X p s m args meth c RJx4a65c cc nL ret) {a q : Nat} (ha : (K a).1 = 10) (hdg : decode cc pc = .ok (.putfield 9, 3)) (kk : V X nL p l e R s m args below meth c Q cells slots n K F (up2 G a 1 (some q)) lv (pc + 3) st) : V X nL p l e R s m args below meth c Q cells slots n K F G lv pc (.ref q :: .ref a :: st) := v_put hC (by rw [ha]; decide) (fun q => by rw [q] at ha; cases ha) (ce_10 ha) rfl inJx4a65c tyJx4a65c tyJx4a65c_ok nmJx4a65c (k := 1) (by decide) aw_879 (fun _ h => h) rfl (ty := tyJx4a65c 1) (tyJx4a65c_ok 1 (by decide)) rfl rfl (Nat.le_of_ble_eq_true rfl) (fun x hx => ⟨rfl, rfl, up2_a _ _ hx⟩) (by rw [ce_10 ha]; simp [up2, va_up, va_rf]) hdg kk
theorem gq_Jx4a65c_9 (hC : Cx X p s m args meth c RJx4a65c cc nL ret) {a : Nat} (ha : (K a).1 = 10) (hdg : decode cc pc = .ok (.getfield 9, 3)) (kk : V X nL p l e R s m args below meth c Q cells slots n K F G lv (pc + 3) (va_rf (G a 1) :: st)) : V X nL p l e R s m args below meth c Q cells slots n K F G lv pc (.ref a :: st) := v_get hC (by rw [ha]; decide) (ce_10 ha) rfl inJx4a65c (k := 1) (by decide) aw_879 (fun _ h => h) rfl hdg kk
theorem gf_Jx4a65c_9 (hC : Cx X p s m args meth c RJx4a65c cc nL ret) {a q : Nat} (ha : (K a).1 = 10) (hq : G a 1 = some q) (hdg : decode cc pc = .ok (.getfield 9, 3)) (kk : V X nL p l e R s m args below meth c Q cells slots n K F G lv (pc + 3) (.ref q :: st)) : V X nL p l e R s m args below meth c Q cells slots n K F G lv pc (.ref a :: st) := gq_Jx4a65c_9 hC ha hdg (by rw [hq]; exact kk)
theorem gf_Jx4a65c_48 (hC : Cx X p s m args meth c RJx4a65c cc nL ret) {a : Nat} (ha : (K a).1 = 10) (hdg : decode cc pc = .ok (.getfield 48, 3)) (kk : V X nL p l e R s m args below meth c Q cells slots n K F G lv (pc + 3) (.int (nI (K a).2) :: st)) : V X nL p l e R s m args below meth c Q cells slots n K F G lv pc (.ref a :: st) := v_get hC (by rw [ha]; decide) (ce_10 ha) rfl inJx4a65c (k := 2) (by decide) aw_880 (fun _ h => h) rfl hdg kk
theorem pf_Jx4a65c_48 (hC : Cx X p s m args meth c RJx4a65c cc nL ret) {a N N2 : Nat} {v : Int32} (ha : K a = (10, N)) (hv : v = nI N2) (hdg : decode cc pc = .ok (.putfield 48, 3)) (kk : V X nL p l e R s m args below meth c Q cells slots n (va_up K a (10, N2)) F G lv (pc + 3) st) : V X nL p l e R s m args below meth c Q cells slots n K F G lv pc (.int v :: .ref a :: st) := v_put hC (by rw [ha]; decide) (fun q => by rw [q] at ha; cases ha) (ce_10 (by rw [ha])) rfl inJx4a65c tyJx4a65c tyJx4a65c_ok nmJx4a65c (k := 2) (by decide) aw_880 (fun _ h => h) rfl (ty := .int) (tyJx4a65c_ok 2 (by decide)) rfl rfl (Nat.le_of_ble_eq_true rfl) (fun x hx => ⟨va_up_ne _ _ hx, rfl, rfl⟩) (by rw [ce_10 (by simp [va_up])]; simp [va_up, hv]) hdg kk
theorem nw_X0_9 (hC : Cx X p s m args meth c RX0 cc nL ret) (hcells : cells + 1 ≤ R.cells) (hslots : slots + 1 ≤ R.slots) (hdg : decode cc pc = .ok (.new 9, 3)) (kk : V X nL p l e R s m args below meth c Q (cells + 1) (slots + 1) (n + 1) (va_up K n (2, 0)) (va_up F n (fun _ => 0)) (va_up G n (fun _ => none)) lv (pc + 3) (.ref n :: st)) : V X nL p l e R s m args below meth c Q cells slots n K F G lv pc st := v_new hC (fs := [.int 0]) inX1 tyX1 tyX1_ok aw_1091 aw_892 aw_59 (ci := 1) rfl (fun j hj => by rcases (show j = 0 by omega) with rfl <;> rfl) hcells hslots (fun x hx => ⟨va_up_ne _ _ hx, va_up_ne _ _ hx, va_up_ne _ _ hx⟩) ((ce_2 (by simp [va_up])).trans (by simp [va_up, va_rf, nI])) hdg kk
theorem nw_X4_7 (hC : Cx X p s m args meth c RX4 cc nL ret) (hcells : cells + 1 ≤ R.cells) (hslots : slots + 1 ≤ R.slots) (hdg : decode cc pc = .ok (.new 7, 3)) (kk : V X nL p l e R s m args below meth c Q (cells + 1) (slots + 1) (n + 1) (va_up K n (2, 0)) (va_up F n (fun _ => 0)) (va_up G n (fun _ => none)) lv (pc + 3) (.ref n :: st)) : V X nL p l e R s m args below meth c Q cells slots n K F G lv pc st := v_new hC (fs := [.int 0]) inX1 tyX1 tyX1_ok aw_1055 aw_892 aw_59 (ci := 1) rfl (fun j hj => by rcases (show j = 0 by omega) with rfl <;> rfl) hcells hslots (fun x hx => ⟨va_up_ne _ _ hx, va_up_ne _ _ hx, va_up_ne _ _ hx⟩) ((ce_2 (by simp [va_up])).trans (by simp [va_up, va_rf, nI])) hdg kk
theorem nw_X7_96 (hC : Cx X p s m args meth c RX7 cc nL ret) (hcells : cells + 1 ≤ R.cells) (hslots : slots + 4 ≤ R.slots) (hdg : decode cc pc = .ok (.new 96, 3)) (kk : V X nL p l e R s m args below meth c Q (cells + 1) (slots + 4) (n + 1) (va_up K n (9, 0)) (va_up F n (fun _ => 0)) (va_up G n (fun _ => none)) lv (pc + 3) (.ref n :: st)) : V X nL p l e R s m args below meth c Q cells slots n K F G lv pc st := v_new hC (fs := [.int 0, .int 0, .int 0, .int 0]) inX3 tyX3 tyX3_ok aw_1389 aw_1390 aw_78 (ci := 8) rfl (fun j hj => by rcases (show j = 0 ∨ j = 1 ∨ j = 2 ∨ j = 3 by omega) with rfl | rfl | rfl | rfl <;> rfl) hcells hslots (fun x hx => ⟨va_up_ne _ _ hx, va_up_ne _ _ hx, va_up_ne _ _ hx⟩) ((ce_9 (by simp [va_up])).trans (by simp [va_up, va_rf, nI])) hdg kk
theorem nw_X8_7 (hC : Cx X p s m args meth c RX8 cc nL ret) (hcells : cells + 1 ≤ R.cells) (hslots : slots + 3 ≤ R.slots) (hdg : decode cc pc = .ok (.new 7, 3)) (kk : V X nL p l e R s m args below meth c Q (cells + 1) (slots + 3) (n + 1) (va_up K n (10, 0)) (va_up F n (fun _ => 0)) (va_up G n (fun _ => none)) lv (pc + 3) (.ref n :: st)) : V X nL p l e R s m args below meth c Q cells slots n K F G lv pc st := v_new hC (fs := [.int 0, .null, .int 0]) inJx4a65c tyJx4a65c tyJx4a65c_ok aw_865 aw_866 aw_58 (ci := 9) rfl (fun j hj => by rcases (show j = 0 ∨ j = 1 ∨ j = 2 by omega) with rfl | rfl | rfl <;> rfl) hcells hslots (fun x hx => ⟨va_up_ne _ _ hx, va_up_ne _ _ hx, va_up_ne _ _ hx⟩) ((ce_10 (by simp [va_up])).trans (by simp [va_up, va_rf, nI])) hdg kk
theorem nw_X8_28 (hC : Cx X p s m args meth c RX8 cc nL ret) (hcells : cells + 1 ≤ R.cells) (hslots : slots + 1 ≤ R.slots) (hdg : decode cc pc = .ok (.new 28, 3)) (kk : V X nL p l e R s m args below meth c Q (cells + 1) (slots + 1) (n + 1) (va_up K n (2, 0)) (va_up F n (fun _ => 0)) (va_up G n (fun _ => none)) lv (pc + 3) (.ref n :: st)) : V X nL p l e R s m args below meth c Q cells slots n K F G lv pc st := v_new hC (fs := [.int 0]) inX1 tyX1 tyX1_ok aw_891 aw_892 aw_59 (ci := 1) rfl (fun j hj => by rcases (show j = 0 by omega) with rfl <;> rfl) hcells hslots (fun x hx => ⟨va_up_ne _ _ hx, va_up_ne _ _ hx, va_up_ne _ _ hx⟩) ((ce_2 (by simp [va_up])).trans (by simp [va_up, va_rf, nI])) hdg kk
theorem nw_X8_167 (hC : Cx X p s m args meth c RX8 cc nL ret) (hcells : cells + 1 ≤ R.cells) (hslots : slots + 7 ≤ R.slots) (hdg : decode cc pc = .ok (.new 167, 3)) (kk : V X nL p l e R s m args below meth c Q (cells + 1) (slots + 7) (n + 1) (va_up K n (6, 0)) (va_up F n (fun _ => 0)) (va_up G n (fun _ => none)) lv (pc + 3) (.ref n :: st)) : V X nL p l e R s m args below meth c Q cells slots n K F G lv pc st := v_new hC (fs := [.int 0, .null, .int 0, .int 0, .int 0, .null, .int 0]) inX6 tyX6 tyX6_ok aw_295 aw_1152 aw_75 (ci := 5) rfl (fun j hj => by rcases (show j = 0 ∨ j = 1 ∨ j = 2 ∨ j = 3 ∨ j = 4 ∨ j = 5 ∨ j = 6 by omega) with rfl | rfl | rfl | rfl | rfl | rfl | rfl <;> rfl) hcells hslots (fun x hx => ⟨va_up_ne _ _ hx, va_up_ne _ _ hx, va_up_ne _ _ hx⟩) ((ce_6 (by simp [va_up])).trans (by simp [va_up, va_rf, nI])) hdg kk
theorem nw_X8_201 (hC : Cx X p s m args meth c RX8 cc nL ret) (hcells : cells + 1 ≤ R.cells) (hslots : slots + 16 ≤ R.slots) (hdg : decode cc pc = .ok (.new 201, 3)) (kk : V X nL p l e R s m args below meth c Q (cells + 1) (slots + 16) (n + 1) (va_up K n (7, 0)) (va_up F n (fun _ => 0)) (va_up G n (fun _ => none)) lv (pc + 3) (.ref n :: st)) : V X nL p l e R s m args below meth c Q cells slots n K F G lv pc st := v_new hC (fs := [.null, .null, .int 0, .int 0, .int 0, .int 0, .int 0, .int 0, .int 0, .int 0, .int 0, .int 0, .int 0, .int 0, .null, .null]) inX7 tyX7 tyX7_ok aw_212 aw_384 aw_76 (ci := 6) rfl (fun j hj => by rcases (show j = 0 ∨ j = 1 ∨ j = 2 ∨ j = 3 ∨ j = 4 ∨ j = 5 ∨ j = 6 ∨ j = 7 ∨ j = 8 ∨ j = 9 ∨ j = 10 ∨ j = 11 ∨ j = 12 ∨ j = 13 ∨ j = 14 ∨ j = 15 by omega) with rfl | rfl | rfl | rfl | rfl | rfl | rfl | rfl | rfl | rfl | rfl | rfl | rfl | rfl | rfl | rfl <;> rfl) hcells hslots (fun x hx => ⟨va_up_ne _ _ hx, va_up_ne _ _ hx, va_up_ne _ _ hx⟩) ((ce_7 (by simp [va_up])).trans (by simp [va_up, va_rf, nI])) hdg kk
theorem nw_X8_284 (hC : Cx X p s m args meth c RX8 cc nL ret) (hcells : cells + 1 ≤ R.cells) (hslots : slots + 7 ≤ R.slots) (hdg : decode cc pc = .ok (.new 284, 3)) (kk : V X nL p l e R s m args below meth c Q (cells + 1) (slots + 7) (n + 1) (va_up K n (8, 0)) (va_up F n (fun _ => 0)) (va_up G n (fun _ => none)) lv (pc + 3) (.ref n :: st)) : V X nL p l e R s m args below meth c Q cells slots n K F G lv pc st := v_new hC (fs := [.int 0, .int 0, .int 0, .int 0, .int 0, .int 0, .int 0]) inX2 tyX2 tyX2_ok aw_1342 aw_256 aw_77 (ci := 7) rfl (fun j hj => by rcases (show j = 0 ∨ j = 1 ∨ j = 2 ∨ j = 3 ∨ j = 4 ∨ j = 5 ∨ j = 6 by omega) with rfl | rfl | rfl | rfl | rfl | rfl | rfl <;> rfl) hcells hslots (fun x hx => ⟨va_up_ne _ _ hx, va_up_ne _ _ hx, va_up_ne _ _ hx⟩) ((ce_8 (by simp [va_up])).trans (by simp [va_up, va_rf, nI])) hdg kk
theorem nw_X8_94 (hC : Cx X p s m args meth c RX8 cc nL ret) (hcells : cells + 1 ≤ R.cells) (hslots : slots + 8 ≤ R.slots) (hdg : decode cc pc = .ok (.new 94, 3)) (kk : V X nL p l e R s m args below meth c Q (cells + 1) (slots + 8) (n + 1) (va_up K n (3, 0)) (va_up F n (fun _ => 0)) (va_up G n (fun _ => none)) lv (pc + 3) (.ref n :: st)) : V X nL p l e R s m args below meth c Q cells slots n K F G lv pc st := v_new hC (fs := [.int 0, .int 0, .int 0, .int 0, .int 0, .int 0, .int 0, .int 0]) inX5 tyX5 tyX5_ok aw_404 aw_960 aw_65 (ci := 2) rfl (fun j hj => by rcases (show j = 0 ∨ j = 1 ∨ j = 2 ∨ j = 3 ∨ j = 4 ∨ j = 5 ∨ j = 6 ∨ j = 7 by omega) with rfl | rfl | rfl | rfl | rfl | rfl | rfl | rfl <;> rfl) hcells hslots (fun x hx => ⟨va_up_ne _ _ hx, va_up_ne _ _ hx, va_up_ne _ _ hx⟩) ((ce_3 (by simp [va_up])).trans (by simp [va_up, va_rf, nI])) hdg kk
theorem nw_X8_80 (hC : Cx X p s m args meth c RX8 cc nL ret) (hcells : cells + 1 ≤ R.cells) (hslots : slots + 5 ≤ R.slots) (hdg : decode cc pc = .ok (.new 80, 3)) (kk : V X nL p l e R s m args below meth c Q (cells + 1) (slots + 5) (n + 1) (va_up K n (4, 0)) (va_up F n (fun _ => 0)) (va_up G n (fun _ => none)) lv (pc + 3) (.ref n :: st)) : V X nL p l e R s m args below meth c Q cells slots n K F G lv pc st := v_new hC (fs := [.int 0, .null, .int 0, .null, .int 0]) inX0 tyX0 tyX0_ok aw_376 aw_1086 aw_74 (ci := 3) rfl (fun j hj => by rcases (show j = 0 ∨ j = 1 ∨ j = 2 ∨ j = 3 ∨ j = 4 by omega) with rfl | rfl | rfl | rfl | rfl <;> rfl) hcells hslots (fun x hx => ⟨va_up_ne _ _ hx, va_up_ne _ _ hx, va_up_ne _ _ hx⟩) ((ce_4 (by simp [va_up])).trans (by simp [va_up, va_rf, nI])) hdg kk
theorem nw_X8_139 (hC : Cx X p s m args meth c RX8 cc nL ret) (hcells : cells + 1 ≤ R.cells) (hslots : slots + 5 ≤ R.slots) (hdg : decode cc pc = .ok (.new 139, 3)) (kk : V X nL p l e R s m args below meth c Q (cells + 1) (slots + 5) (n + 1) (va_up K n (5, 0)) (va_up F n (fun _ => 0)) (va_up G n (fun _ => none)) lv (pc + 3) (.ref n :: st)) : V X nL p l e R s m args below meth c Q cells slots n K F G lv pc st := v_new hC (fs := [.int 0, .null, .int 0, .int 0, .int 0]) inX4 tyX4 tyX4_ok aw_363 aw_1050 aw_70 (ci := 4) rfl (fun j hj => by rcases (show j = 0 ∨ j = 1 ∨ j = 2 ∨ j = 3 ∨ j = 4 by omega) with rfl | rfl | rfl | rfl | rfl <;> rfl) hcells hslots (fun x hx => ⟨va_up_ne _ _ hx, va_up_ne _ _ hx, va_up_ne _ _ hx⟩) ((ce_5 (by simp [va_up])).trans (by simp [va_up, va_rf, nI])) hdg kk
theorem nw_X8_366 (hC : Cx X p s m args meth c RX8 cc nL ret) (hcells : cells + 1 ≤ R.cells) (hslots : slots + 4 ≤ R.slots) (hdg : decode cc pc = .ok (.new 366, 3)) (kk : V X nL p l e R s m args below meth c Q (cells + 1) (slots + 4) (n + 1) (va_up K n (11, 0)) (va_up F n (fun _ => 0)) (va_up G n (fun _ => none)) lv (pc + 3) (.ref n :: st)) : V X nL p l e R s m args below meth c Q cells slots n K F G lv pc st := v_new hC (fs := [.null, .int 0, .int 0, .int 0]) inJ4 tyJ4 tyJ4_ok aw_480 aw_481 aw_80 (ci := 10) rfl (fun j hj => by rcases (show j = 0 ∨ j = 1 ∨ j = 2 ∨ j = 3 by omega) with rfl | rfl | rfl | rfl <;> rfl) hcells hslots (fun x hx => ⟨va_up_ne _ _ hx, va_up_ne _ _ hx, va_up_ne _ _ hx⟩) ((ce_11 (by simp [va_up])).trans (by simp [va_up, va_rf, nI])) hdg kk
theorem nw_L_9 (hC : Cx X p s m args meth c RL cc nL ret) (hcells : cells + 1 ≤ R.cells) (hslots : slots + 14 ≤ R.slots) (hdg : decode cc pc = .ok (.new 9, 3)) (kk : V X nL p l e R s m args below meth c Q (cells + 1) (slots + 14) (n + 1) (va_up K n (1, 0)) (va_up F n (fun _ => 0)) (va_up G n (fun _ => none)) lv (pc + 3) (.ref n :: st)) : V X nL p l e R s m args below meth c Q cells slots n K F G lv pc st := v_new hC (fs := [.null, .null, .null, .null, .null, .null, .null, .null, .null, .int 0, .int 0, .int 0, .int 0, .int 0]) inX8 tyX8 tyX8_ok aw_860 aw_192 aw_55 (ci := 0) rfl (fun j hj => by rcases (show j = 0 ∨ j = 1 ∨ j = 2 ∨ j = 3 ∨ j = 4 ∨ j = 5 ∨ j = 6 ∨ j = 7 ∨ j = 8 ∨ j = 9 ∨ j = 10 ∨ j = 11 ∨ j = 12 ∨ j = 13 by omega) with rfl | rfl | rfl | rfl | rfl | rfl | rfl | rfl | rfl | rfl | rfl | rfl | rfl | rfl <;> rfl) hcells hslots (fun x hx => ⟨va_up_ne _ _ hx, va_up_ne _ _ hx, va_up_ne _ _ hx⟩) ((ce_1 (by simp [va_up])).trans (by simp [va_up, va_rf, nI])) hdg kk
end PTY
end
