section PWE
/-- words that ride in the world -/
def Nwl : List Cond := [Cond.declares ⟨"java/lang/RuntimeException", "<init>", "(Ljava/lang/String;)V"⟩, Cond.declares ⟨"java/lang/Exception", "<init>", "(Ljava/lang/String;)V"⟩, Cond.declares ⟨"java/lang/Throwable", "<init>", "(Ljava/lang/String;)V"⟩, Cond.castable "java/lang/IllegalStateException" "java/lang/IllegalStateException", Cond.castable "java/lang/IndexOutOfBoundsException" "java/lang/IndexOutOfBoundsException", Cond.methodLinkNest RX8 30 yX1_init "Exportcover", Cond.arrayOver (.object "java/lang/Object"), Cond.methodLinkNest RX4 9 yX1_init "Exportcover", Cond.methodLinkNest RX0 11 yX1_init "Exportcover", Cond.castable RX8 "java/lang/Object", Cond.castable RJx4a65c "java/lang/Object", Cond.castable RX1 "java/lang/Object", Cond.castable RX5 "java/lang/Object", Cond.castable RX4 "java/lang/Object", Cond.castable RX0 "java/lang/Object", Cond.castable RX6 "java/lang/Object", Cond.castable RX7 "java/lang/Object", Cond.castable RX2 "java/lang/Object", Cond.castable RX3 "java/lang/Object", Cond.castable RJ4 "java/lang/Object", Cond.declares ⟨"java/lang/Object", "getClass", "()Ljava/lang/Class;"⟩]
theorem nw_102 : Cond.declares ⟨"java/lang/RuntimeException", "<init>", "(Ljava/lang/String;)V"⟩ ∈ Nwl := List.mem_of_getElem? (i := 0) rfl
theorem nw_104 : Cond.declares ⟨"java/lang/Exception", "<init>", "(Ljava/lang/String;)V"⟩ ∈ Nwl := List.mem_of_getElem? (i := 1) rfl
theorem nw_106 : Cond.declares ⟨"java/lang/Throwable", "<init>", "(Ljava/lang/String;)V"⟩ ∈ Nwl := List.mem_of_getElem? (i := 2) rfl
theorem nw_175 : Cond.castable "java/lang/IllegalStateException" "java/lang/IllegalStateException" ∈ Nwl := List.mem_of_getElem? (i := 3) rfl
theorem nw_281 : Cond.castable "java/lang/IndexOutOfBoundsException" "java/lang/IndexOutOfBoundsException" ∈ Nwl := List.mem_of_getElem? (i := 4) rfl
theorem nw_893 : Cond.methodLinkNest RX8 30 yX1_init "Exportcover" ∈ Nwl := List.mem_of_getElem? (i := 5) rfl
theorem nw_1042 : Cond.arrayOver (.object "java/lang/Object") ∈ Nwl := List.mem_of_getElem? (i := 6) rfl
theorem nw_1056 : Cond.methodLinkNest RX4 9 yX1_init "Exportcover" ∈ Nwl := List.mem_of_getElem? (i := 7) rfl
theorem nw_1092 : Cond.methodLinkNest RX0 11 yX1_init "Exportcover" ∈ Nwl := List.mem_of_getElem? (i := 8) rfl
theorem nw_1477 : Cond.castable RX8 "java/lang/Object" ∈ Nwl := List.mem_of_getElem? (i := 9) rfl
theorem nw_1478 : Cond.castable RJx4a65c "java/lang/Object" ∈ Nwl := List.mem_of_getElem? (i := 10) rfl
theorem nw_1479 : Cond.castable RX1 "java/lang/Object" ∈ Nwl := List.mem_of_getElem? (i := 11) rfl
theorem nw_1482 : Cond.castable RX5 "java/lang/Object" ∈ Nwl := List.mem_of_getElem? (i := 12) rfl
theorem nw_1483 : Cond.castable RX4 "java/lang/Object" ∈ Nwl := List.mem_of_getElem? (i := 13) rfl
theorem nw_1485 : Cond.castable RX0 "java/lang/Object" ∈ Nwl := List.mem_of_getElem? (i := 14) rfl
theorem nw_1486 : Cond.castable RX6 "java/lang/Object" ∈ Nwl := List.mem_of_getElem? (i := 15) rfl
theorem nw_1487 : Cond.castable RX7 "java/lang/Object" ∈ Nwl := List.mem_of_getElem? (i := 16) rfl
theorem nw_1488 : Cond.castable RX2 "java/lang/Object" ∈ Nwl := List.mem_of_getElem? (i := 17) rfl
theorem nw_1489 : Cond.castable RX3 "java/lang/Object" ∈ Nwl := List.mem_of_getElem? (i := 18) rfl
theorem nw_1490 : Cond.castable RJ4 "java/lang/Object" ∈ Nwl := List.mem_of_getElem? (i := 19) rfl
theorem nw_1497 : Cond.declares ⟨"java/lang/Object", "getClass", "()Ljava/lang/Class;"⟩ ∈ Nwl := List.mem_of_getElem? (i := 20) rfl
theorem nw_use {A : Array Value} {U : State} : ∀ w ∈ Nwl, va_Nw w U → w.before A U = true := by
  intro w hw
  simp only [Nwl, List.mem_cons, List.not_mem_nil, or_false] at hw
  rcases hw with rfl | rfl | rfl | rfl | rfl | rfl | rfl | rfl | rfl | rfl | rfl | rfl | rfl | rfl | rfl | rfl | rfl | rfl | rfl | rfl | rfl <;> intro hZ <;> first | exact va_Nw.use rfl hZ | exact va_AO.use hZ
theorem nw_of {A : Array Value} {U : State} : ∀ w ∈ Nwl, w.before A U = true → va_Nw w U := by
  intro w hw
  simp only [Nwl, List.mem_cons, List.not_mem_nil, or_false] at hw
  rcases hw with rfl | rfl | rfl | rfl | rfl | rfl | rfl | rfl | rfl | rfl | rfl | rfl | rfl | rfl | rfl | rfl | rfl | rfl | rfl | rfl | rfl <;> intro hZ <;> first | exact va_Nw.of rfl hZ | exact va_AO.of hZ
theorem nw_tbl : ∀ w ∈ Nwl, w ∈ lw_tbl := by
  intro w hw
  simp only [Nwl, List.mem_cons, List.not_mem_nil, or_false] at hw
  rcases hw with rfl | rfl | rfl | rfl | rfl | rfl | rfl | rfl | rfl | rfl | rfl | rfl | rfl | rfl | rfl | rfl | rfl | rfl | rfl | rfl | rfl
  · exact List.mem_of_getElem? (i := 102) (by decide +kernel)
  · exact List.mem_of_getElem? (i := 104) (by decide +kernel)
  · exact List.mem_of_getElem? (i := 106) (by decide +kernel)
  · exact List.mem_of_getElem? (i := 175) (by decide +kernel)
  · exact List.mem_of_getElem? (i := 281) (by decide +kernel)
  · exact List.mem_of_getElem? (i := 893) (by decide +kernel)
  · exact List.mem_of_getElem? (i := 1042) (by decide +kernel)
  · exact List.mem_of_getElem? (i := 1056) (by decide +kernel)
  · exact List.mem_of_getElem? (i := 1092) (by decide +kernel)
  · exact List.mem_of_getElem? (i := 1477) (by decide +kernel)
  · exact List.mem_of_getElem? (i := 1478) (by decide +kernel)
  · exact List.mem_of_getElem? (i := 1479) (by decide +kernel)
  · exact List.mem_of_getElem? (i := 1482) (by decide +kernel)
  · exact List.mem_of_getElem? (i := 1483) (by decide +kernel)
  · exact List.mem_of_getElem? (i := 1485) (by decide +kernel)
  · exact List.mem_of_getElem? (i := 1486) (by decide +kernel)
  · exact List.mem_of_getElem? (i := 1487) (by decide +kernel)
  · exact List.mem_of_getElem? (i := 1488) (by decide +kernel)
  · exact List.mem_of_getElem? (i := 1489) (by decide +kernel)
  · exact List.mem_of_getElem? (i := 1490) (by decide +kernel)
  · exact List.mem_of_getElem? (i := 1497) (by decide +kernel)
theorem al_r (ws : List Cond) (ps : List Nat) (hp : ws = ps.filterMap (fun i => lw_tbl[i]?)) (h : ws.all goodWord = true) : ∀ w ∈ ws, w ∈ Al := by
  intro w hw
  have h1 := List.all_eq_true.mp h w hw
  rw [hp] at hw
  obtain ⟨i, -, hi⟩ := List.mem_filterMap.mp hw
  exact al_in hi h1
theorem inX8 : ∀ w ∈ u_ws RX8 TX8 14, w ∈ Al := al_r _ [916, 918, 920, 922, 924, 926, 928, 930, 932, 934, 936, 938, 940, 942] (by decide +kernel) (by decide +kernel)
theorem inX1 : ∀ w ∈ u_ws RX1 TX1 1, w ∈ Al := al_r _ [899] (by decide +kernel) (by decide +kernel)
theorem inX5 : ∀ w ∈ u_ws RX5 TX5 8, w ∈ Al := al_r _ [980, 982, 984, 986, 988, 990, 992, 994] (by decide +kernel) (by decide +kernel)
theorem inX0 : ∀ w ∈ u_ws RX0 TX0 5, w ∈ Al := al_r _ [1105, 1107, 1109, 1111, 1113] (by decide +kernel) (by decide +kernel)
theorem inX4 : ∀ w ∈ u_ws RX4 TX4 5, w ∈ Al := al_r _ [1066, 1068, 1070, 1072, 1074] (by decide +kernel) (by decide +kernel)
theorem inX6 : ∀ w ∈ u_ws RX6 TX6 7, w ∈ Al := al_r _ [1169, 1171, 1173, 1175, 1177, 1179, 1181] (by decide +kernel) (by decide +kernel)
theorem inX7 : ∀ w ∈ u_ws RX7 TX7 16, w ∈ Al := al_r _ [1241, 1243, 1245, 1247, 1249, 1251, 1253, 1255, 1257, 1259, 1261, 1263, 1265, 1267, 1269, 1271] (by decide +kernel) (by decide +kernel)
theorem inX2 : ∀ w ∈ u_ws RX2 TX2 7, w ∈ Al := al_r _ [1362, 1364, 1366, 1368, 1370, 1372, 1374] (by decide +kernel) (by decide +kernel)
theorem inX3 : ∀ w ∈ u_ws RX3 TX3 4, w ∈ Al := al_r _ [1402, 1404, 1406, 1408] (by decide +kernel) (by decide +kernel)
theorem inJx4a65c : ∀ w ∈ u_ws RJx4a65c TJx4a65c 3, w ∈ Al := al_r _ [888, 884, 886] (by decide +kernel) (by decide +kernel)
theorem inJ4 : ∀ w ∈ u_ws RJ4 TJ4 4, w ∈ Al := al_r _ [503, 505, 507, 509] (by decide +kernel) (by decide +kernel)
end PWE
