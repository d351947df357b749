section
-- ===== PART A: goes FIRST, ahead of the names: the tables' words, and 'selects' of the private methods out of them =====
/-- a private method of a class that the tables say can be made, by its rows of tables_1 -/
def lw_okq (q : MethodName × Nat) : Prop := (q.1.cls ≠ "java/lang/invoke/MethodHandle" ∧ q.1.cls ≠ "java/lang/invoke/VarHandle") ∧ Cond.instantiable q.1.cls q.2 ∈ tables_1 ∧ Cond.privateMethod q.1 ∈ tables_1 ∧ Cond.instanceMethod q.1 ∈ tables_1
theorem lw_p0 : lw_okq (⟨"OssuaryVault$Desk", "placeOf", "(I)I"⟩, 5) := ⟨⟨by decide +kernel, by decide +kernel⟩, List.mem_of_getElem? (i := 59) (by decide +kernel), List.mem_of_getElem? (i := 291) (by decide +kernel), List.mem_of_getElem? (i := 292) (by decide +kernel)⟩
theorem lw_p1 : lw_okq (⟨"OssuaryVault$Desk", "placeFor", "(I)I"⟩, 5) := ⟨⟨by decide +kernel, by decide +kernel⟩, List.mem_of_getElem? (i := 59) (by decide +kernel), List.mem_of_getElem? (i := 295) (by decide +kernel), List.mem_of_getElem? (i := 296) (by decide +kernel)⟩
theorem lw_p2 : lw_okq (⟨"OssuaryVault$Volume", "headFits", "()Z"⟩, 4) := ⟨⟨by decide +kernel, by decide +kernel⟩, List.mem_of_getElem? (i := 130) (by decide +kernel), List.mem_of_getElem? (i := 344) (by decide +kernel), List.mem_of_getElem? (i := 345) (by decide +kernel)⟩
theorem lw_p3 : lw_okq (⟨"OssuaryVault$Volume", "rightCheck", "()I"⟩, 4) := ⟨⟨by decide +kernel, by decide +kernel⟩, List.mem_of_getElem? (i := 130) (by decide +kernel), List.mem_of_getElem? (i := 381) (by decide +kernel), List.mem_of_getElem? (i := 382) (by decide +kernel)⟩
theorem lw_p4 : lw_okq (⟨"OssuaryVault$Shelf", "seeWhole", "(I)V"⟩, 7) := ⟨⟨by decide +kernel, by decide +kernel⟩, List.mem_of_getElem? (i := 123) (by decide +kernel), List.mem_of_getElem? (i := 392) (by decide +kernel), List.mem_of_getElem? (i := 393) (by decide +kernel)⟩
theorem lw_p5 : lw_okq (⟨"OssuaryVault$Recovery", "choose", "(LOssuaryVault$Shelf;I)I"⟩, 3) := ⟨⟨by decide +kernel, by decide +kernel⟩, List.mem_of_getElem? (i := 178) (by decide +kernel), List.mem_of_getElem? (i := 439) (by decide +kernel), List.mem_of_getElem? (i := 440) (by decide +kernel)⟩
theorem lw_p6 : lw_okq (⟨"OssuaryVault$Recovery", "writeWeights", "(I)V"⟩, 3) := ⟨⟨by decide +kernel, by decide +kernel⟩, List.mem_of_getElem? (i := 178) (by decide +kernel), List.mem_of_getElem? (i := 447) (by decide +kernel), List.mem_of_getElem? (i := 448) (by decide +kernel)⟩
theorem lw_p7 : lw_okq (⟨"OssuaryVault$Recovery", "invert", "(I)V"⟩, 3) := ⟨⟨by decide +kernel, by decide +kernel⟩, List.mem_of_getElem? (i := 178) (by decide +kernel), List.mem_of_getElem? (i := 479) (by decide +kernel), List.mem_of_getElem? (i := 480) (by decide +kernel)⟩
theorem lw_p8 : lw_okq (⟨"OssuaryVault$Recovery", "scaleRow", "(II)V"⟩, 3) := ⟨⟨by decide +kernel, by decide +kernel⟩, List.mem_of_getElem? (i := 178) (by decide +kernel), List.mem_of_getElem? (i := 485) (by decide +kernel), List.mem_of_getElem? (i := 486) (by decide +kernel)⟩
theorem lw_p9 : lw_okq (⟨"OssuaryVault$Recovery", "workOut", "(LOssuaryVault$Shelf;IIILOssuaryVault$Bytes;)V"⟩, 3) := ⟨⟨by decide +kernel, by decide +kernel⟩, List.mem_of_getElem? (i := 178) (by decide +kernel), List.mem_of_getElem? (i := 504) (by decide +kernel), List.mem_of_getElem? (i := 505) (by decide +kernel)⟩
theorem lw_p10 : lw_okq (⟨"OssuaryVault$Reading", "indexStands", "()Z"⟩, 8) := ⟨⟨by decide +kernel, by decide +kernel⟩, List.mem_of_getElem? (i := 196) (by decide +kernel), List.mem_of_getElem? (i := 520) (by decide +kernel), List.mem_of_getElem? (i := 521) (by decide +kernel)⟩
theorem lw_p11 : lw_okq (⟨"OssuaryVault$Reading", "tailPlace", "()I"⟩, 8) := ⟨⟨by decide +kernel, by decide +kernel⟩, List.mem_of_getElem? (i := 196) (by decide +kernel), List.mem_of_getElem? (i := 524) (by decide +kernel), List.mem_of_getElem? (i := 525) (by decide +kernel)⟩
theorem lw_p12 : lw_okq (⟨"OssuaryVault$Reading", "takeIndexed", "()V"⟩, 8) := ⟨⟨by decide +kernel, by decide +kernel⟩, List.mem_of_getElem? (i := 196) (by decide +kernel), List.mem_of_getElem? (i := 536) (by decide +kernel), List.mem_of_getElem? (i := 537) (by decide +kernel)⟩
theorem lw_p13 : lw_okq (⟨"OssuaryVault$Reading", "lookForFiles", "()V"⟩, 8) := ⟨⟨by decide +kernel, by decide +kernel⟩, List.mem_of_getElem? (i := 196) (by decide +kernel), List.mem_of_getElem? (i := 541) (by decide +kernel), List.mem_of_getElem? (i := 542) (by decide +kernel)⟩
theorem lw_p14 : lw_okq (⟨"OssuaryVault$Reading", "liesAt", "(I)Z"⟩, 8) := ⟨⟨by decide +kernel, by decide +kernel⟩, List.mem_of_getElem? (i := 196) (by decide +kernel), List.mem_of_getElem? (i := 545) (by decide +kernel), List.mem_of_getElem? (i := 546) (by decide +kernel)⟩
theorem lw_p15 : lw_okq (⟨"OssuaryVault$Reading", "endOfFile", "(I)I"⟩, 8) := ⟨⟨by decide +kernel, by decide +kernel⟩, List.mem_of_getElem? (i := 196) (by decide +kernel), List.mem_of_getElem? (i := 549) (by decide +kernel), List.mem_of_getElem? (i := 550) (by decide +kernel)⟩
def lw_privs_1 : List (MethodName × Nat) := [(⟨"OssuaryVault$Desk", "placeOf", "(I)I"⟩, 5), (⟨"OssuaryVault$Desk", "placeFor", "(I)I"⟩, 5), (⟨"OssuaryVault$Volume", "headFits", "()Z"⟩, 4), (⟨"OssuaryVault$Volume", "rightCheck", "()I"⟩, 4), (⟨"OssuaryVault$Shelf", "seeWhole", "(I)V"⟩, 7), (⟨"OssuaryVault$Recovery", "choose", "(LOssuaryVault$Shelf;I)I"⟩, 3), (⟨"OssuaryVault$Recovery", "writeWeights", "(I)V"⟩, 3), (⟨"OssuaryVault$Recovery", "invert", "(I)V"⟩, 3), (⟨"OssuaryVault$Recovery", "scaleRow", "(II)V"⟩, 3), (⟨"OssuaryVault$Recovery", "workOut", "(LOssuaryVault$Shelf;IIILOssuaryVault$Bytes;)V"⟩, 3), (⟨"OssuaryVault$Reading", "indexStands", "()Z"⟩, 8), (⟨"OssuaryVault$Reading", "tailPlace", "()I"⟩, 8), (⟨"OssuaryVault$Reading", "takeIndexed", "()V"⟩, 8), (⟨"OssuaryVault$Reading", "lookForFiles", "()V"⟩, 8), (⟨"OssuaryVault$Reading", "liesAt", "(I)Z"⟩, 8), (⟨"OssuaryVault$Reading", "endOfFile", "(I)I"⟩, 8)]
theorem lw_r1 : ∀ q ∈ lw_privs_1, lw_okq q := List.forall_mem_cons.mpr ⟨lw_p0, List.forall_mem_cons.mpr ⟨lw_p1, List.forall_mem_cons.mpr ⟨lw_p2, List.forall_mem_cons.mpr ⟨lw_p3, List.forall_mem_cons.mpr ⟨lw_p4, List.forall_mem_cons.mpr ⟨lw_p5, List.forall_mem_cons.mpr ⟨lw_p6, List.forall_mem_cons.mpr ⟨lw_p7, List.forall_mem_cons.mpr ⟨lw_p8, List.forall_mem_cons.mpr ⟨lw_p9, List.forall_mem_cons.mpr ⟨lw_p10, List.forall_mem_cons.mpr ⟨lw_p11, List.forall_mem_cons.mpr ⟨lw_p12, List.forall_mem_cons.mpr ⟨lw_p13, List.forall_mem_cons.mpr ⟨lw_p14, List.forall_mem_cons.mpr ⟨lw_p15, fun _ h => absurd h List.not_mem_nil⟩⟩⟩⟩⟩⟩⟩⟩⟩⟩⟩⟩⟩⟩⟩⟩
theorem lw_p16 : lw_okq (⟨"OssuaryVault$Reading", "readsWell", "(LOssuaryVault$FoundFile;)Z"⟩, 8) := ⟨⟨by decide +kernel, by decide +kernel⟩, List.mem_of_getElem? (i := 196) (by decide +kernel), List.mem_of_getElem? (i := 557) (by decide +kernel), List.mem_of_getElem? (i := 558) (by decide +kernel)⟩
theorem lw_p17 : lw_okq (⟨"OssuaryVault$Reading", "takeContent", "(LOssuaryVault$FoundFile;)Z"⟩, 8) := ⟨⟨by decide +kernel, by decide +kernel⟩, List.mem_of_getElem? (i := 196) (by decide +kernel), List.mem_of_getElem? (i := 561) (by decide +kernel), List.mem_of_getElem? (i := 562) (by decide +kernel)⟩
theorem lw_p18 : lw_okq (⟨"OssuaryVault", "withDesk", "(J)J"⟩, 5) := ⟨⟨by decide +kernel, by decide +kernel⟩, List.mem_of_getElem? (i := 23) (by decide +kernel), List.mem_of_getElem? (i := 596) (by decide +kernel), List.mem_of_getElem? (i := 597) (by decide +kernel)⟩
theorem lw_p19 : lw_okq (⟨"OssuaryVault", "withShelf", "(J)J"⟩, 5) := ⟨⟨by decide +kernel, by decide +kernel⟩, List.mem_of_getElem? (i := 23) (by decide +kernel), List.mem_of_getElem? (i := 606) (by decide +kernel), List.mem_of_getElem? (i := 607) (by decide +kernel)⟩
theorem lw_p20 : lw_okq (⟨"OssuaryVault", "withReading", "(J)J"⟩, 5) := ⟨⟨by decide +kernel, by decide +kernel⟩, List.mem_of_getElem? (i := 23) (by decide +kernel), List.mem_of_getElem? (i := 617) (by decide +kernel), List.mem_of_getElem? (i := 618) (by decide +kernel)⟩
theorem lw_p21 : lw_okq (⟨"java/lang/Throwable", "fillInStackTrace", "(I)Ljava/lang/Throwable;"⟩, 6) := ⟨⟨by decide +kernel, by decide +kernel⟩, List.mem_of_getElem? (i := 679) (by decide +kernel), List.mem_of_getElem? (i := 677) (by decide +kernel), List.mem_of_getElem? (i := 678) (by decide +kernel)⟩
theorem lw_p22 : lw_okq (⟨"OssuaryVault", "deskFile", "(I)LOssuaryVault$DeskFile;"⟩, 5) := ⟨⟨by decide +kernel, by decide +kernel⟩, List.mem_of_getElem? (i := 23) (by decide +kernel), List.mem_of_getElem? (i := 856) (by decide +kernel), List.mem_of_getElem? (i := 857) (by decide +kernel)⟩
theorem lw_p23 : lw_okq (⟨"OssuaryVault$Desk", "writeIndex", "()V"⟩, 5) := ⟨⟨by decide +kernel, by decide +kernel⟩, List.mem_of_getElem? (i := 59) (by decide +kernel), List.mem_of_getElem? (i := 923) (by decide +kernel), List.mem_of_getElem? (i := 924) (by decide +kernel)⟩
theorem lw_p24 : lw_okq (⟨"OssuaryVault$Shelf", "form", "(LOssuaryVault$Volume;IIILOssuaryVault$Bytes;)V"⟩, 7) := ⟨⟨by decide +kernel, by decide +kernel⟩, List.mem_of_getElem? (i := 123) (by decide +kernel), List.mem_of_getElem? (i := 934) (by decide +kernel), List.mem_of_getElem? (i := 935) (by decide +kernel)⟩
theorem lw_p25 : lw_okq (⟨"OssuaryVault", "placeOnShelf", "(I)LOssuaryVault$Volume;"⟩, 5) := ⟨⟨by decide +kernel, by decide +kernel⟩, List.mem_of_getElem? (i := 23) (by decide +kernel), List.mem_of_getElem? (i := 979) (by decide +kernel), List.mem_of_getElem? (i := 980) (by decide +kernel)⟩
theorem lw_p26 : lw_okq (⟨"OssuaryVault", "volumeOnShelf", "(I)LOssuaryVault$Volume;"⟩, 5) := ⟨⟨by decide +kernel, by decide +kernel⟩, List.mem_of_getElem? (i := 23) (by decide +kernel), List.mem_of_getElem? (i := 991) (by decide +kernel), List.mem_of_getElem? (i := 992) (by decide +kernel)⟩
theorem lw_p27 : lw_okq (⟨"OssuaryVault", "requireOpen", "()V"⟩, 5) := ⟨⟨by decide +kernel, by decide +kernel⟩, List.mem_of_getElem? (i := 23) (by decide +kernel), List.mem_of_getElem? (i := 1088) (by decide +kernel), List.mem_of_getElem? (i := 1089) (by decide +kernel)⟩
theorem lw_p28 : lw_okq (⟨"OssuaryVault", "readFile", "(I)LOssuaryVault$FoundFile;"⟩, 5) := ⟨⟨by decide +kernel, by decide +kernel⟩, List.mem_of_getElem? (i := 23) (by decide +kernel), List.mem_of_getElem? (i := 1128) (by decide +kernel), List.mem_of_getElem? (i := 1129) (by decide +kernel)⟩
theorem lw_p29 : lw_okq (⟨"OssuaryVaultModel", "no", "(I)I"⟩, 25) := ⟨⟨by decide +kernel, by decide +kernel⟩, List.mem_of_getElem? (i := 1169) (by decide +kernel), List.mem_of_getElem? (i := 1269) (by decide +kernel), List.mem_of_getElem? (i := 1270) (by decide +kernel)⟩
theorem lw_p30 : lw_okq (⟨"OssuaryVaultModel", "placeOf", "(I)I"⟩, 25) := ⟨⟨by decide +kernel, by decide +kernel⟩, List.mem_of_getElem? (i := 1169) (by decide +kernel), List.mem_of_getElem? (i := 1309) (by decide +kernel), List.mem_of_getElem? (i := 1310) (by decide +kernel)⟩
theorem lw_p31 : lw_okq (⟨"OssuaryVaultModel", "put", "(I[II)V"⟩, 25) := ⟨⟨by decide +kernel, by decide +kernel⟩, List.mem_of_getElem? (i := 1169) (by decide +kernel), List.mem_of_getElem? (i := 1313) (by decide +kernel), List.mem_of_getElem? (i := 1314) (by decide +kernel)⟩
def lw_privs_2 : List (MethodName × Nat) := [(⟨"OssuaryVault$Reading", "readsWell", "(LOssuaryVault$FoundFile;)Z"⟩, 8), (⟨"OssuaryVault$Reading", "takeContent", "(LOssuaryVault$FoundFile;)Z"⟩, 8), (⟨"OssuaryVault", "withDesk", "(J)J"⟩, 5), (⟨"OssuaryVault", "withShelf", "(J)J"⟩, 5), (⟨"OssuaryVault", "withReading", "(J)J"⟩, 5), (⟨"java/lang/Throwable", "fillInStackTrace", "(I)Ljava/lang/Throwable;"⟩, 6), (⟨"OssuaryVault", "deskFile", "(I)LOssuaryVault$DeskFile;"⟩, 5), (⟨"OssuaryVault$Desk", "writeIndex", "()V"⟩, 5), (⟨"OssuaryVault$Shelf", "form", "(LOssuaryVault$Volume;IIILOssuaryVault$Bytes;)V"⟩, 7), (⟨"OssuaryVault", "placeOnShelf", "(I)LOssuaryVault$Volume;"⟩, 5), (⟨"OssuaryVault", "volumeOnShelf", "(I)LOssuaryVault$Volume;"⟩, 5), (⟨"OssuaryVault", "requireOpen", "()V"⟩, 5), (⟨"OssuaryVault", "readFile", "(I)LOssuaryVault$FoundFile;"⟩, 5), (⟨"OssuaryVaultModel", "no", "(I)I"⟩, 25), (⟨"OssuaryVaultModel", "placeOf", "(I)I"⟩, 25), (⟨"OssuaryVaultModel", "put", "(I[II)V"⟩, 25)]
theorem lw_r2 : ∀ q ∈ lw_privs_2, lw_okq q := List.forall_mem_cons.mpr ⟨lw_p16, List.forall_mem_cons.mpr ⟨lw_p17, List.forall_mem_cons.mpr ⟨lw_p18, List.forall_mem_cons.mpr ⟨lw_p19, List.forall_mem_cons.mpr ⟨lw_p20, List.forall_mem_cons.mpr ⟨lw_p21, List.forall_mem_cons.mpr ⟨lw_p22, List.forall_mem_cons.mpr ⟨lw_p23, List.forall_mem_cons.mpr ⟨lw_p24, List.forall_mem_cons.mpr ⟨lw_p25, List.forall_mem_cons.mpr ⟨lw_p26, List.forall_mem_cons.mpr ⟨lw_p27, List.forall_mem_cons.mpr ⟨lw_p28, List.forall_mem_cons.mpr ⟨lw_p29, List.forall_mem_cons.mpr ⟨lw_p30, List.forall_mem_cons.mpr ⟨lw_p31, fun _ h => absurd h List.not_mem_nil⟩⟩⟩⟩⟩⟩⟩⟩⟩⟩⟩⟩⟩⟩⟩⟩
theorem lw_p32 : lw_okq (⟨"OssuaryVaultModel", "move", "(II)V"⟩, 25) := ⟨⟨by decide +kernel, by decide +kernel⟩, List.mem_of_getElem? (i := 1169) (by decide +kernel), List.mem_of_getElem? (i := 1317) (by decide +kernel), List.mem_of_getElem? (i := 1318) (by decide +kernel)⟩
theorem lw_p33 : lw_okq (⟨"OssuaryVaultModel", "ok", "(I)I"⟩, 25) := ⟨⟨by decide +kernel, by decide +kernel⟩, List.mem_of_getElem? (i := 1169) (by decide +kernel), List.mem_of_getElem? (i := 1332) (by decide +kernel), List.mem_of_getElem? (i := 1333) (by decide +kernel)⟩
theorem lw_p34 : lw_okq (⟨"OssuaryVaultModel", "isFile", "(I)Z"⟩, 25) := ⟨⟨by decide +kernel, by decide +kernel⟩, List.mem_of_getElem? (i := 1169) (by decide +kernel), List.mem_of_getElem? (i := 1340) (by decide +kernel), List.mem_of_getElem? (i := 1341) (by decide +kernel)⟩
theorem lw_p35 : lw_okq (⟨"OssuaryVaultModel", "pack", "([II)I"⟩, 25) := ⟨⟨by decide +kernel, by decide +kernel⟩, List.mem_of_getElem? (i := 1169) (by decide +kernel), List.mem_of_getElem? (i := 1368) (by decide +kernel), List.mem_of_getElem? (i := 1369) (by decide +kernel)⟩
theorem lw_p36 : lw_okq (⟨"OssuaryVaultModel", "streamSize", "()I"⟩, 25) := ⟨⟨by decide +kernel, by decide +kernel⟩, List.mem_of_getElem? (i := 1169) (by decide +kernel), List.mem_of_getElem? (i := 1383) (by decide +kernel), List.mem_of_getElem? (i := 1384) (by decide +kernel)⟩
theorem lw_p37 : lw_okq (⟨"OssuaryVaultModel", "makeStream", "()[I"⟩, 25) := ⟨⟨by decide +kernel, by decide +kernel⟩, List.mem_of_getElem? (i := 1169) (by decide +kernel), List.mem_of_getElem? (i := 1392) (by decide +kernel), List.mem_of_getElem? (i := 1393) (by decide +kernel)⟩
theorem lw_p38 : lw_okq (⟨"OssuaryVaultModel", "putVolumes", "([III)I"⟩, 25) := ⟨⟨by decide +kernel, by decide +kernel⟩, List.mem_of_getElem? (i := 1169) (by decide +kernel), List.mem_of_getElem? (i := 1399) (by decide +kernel), List.mem_of_getElem? (i := 1400) (by decide +kernel)⟩
theorem lw_p39 : lw_okq (⟨"OssuaryVaultModel", "isAs", "(I[I)Z"⟩, 25) := ⟨⟨by decide +kernel, by decide +kernel⟩, List.mem_of_getElem? (i := 1169) (by decide +kernel), List.mem_of_getElem? (i := 1412) (by decide +kernel), List.mem_of_getElem? (i := 1413) (by decide +kernel)⟩
theorem lw_p40 : lw_okq (⟨"OssuaryVaultModel", "isByte", "(II)Z"⟩, 25) := ⟨⟨by decide +kernel, by decide +kernel⟩, List.mem_of_getElem? (i := 1169) (by decide +kernel), List.mem_of_getElem? (i := 1427) (by decide +kernel), List.mem_of_getElem? (i := 1428) (by decide +kernel)⟩
theorem lw_p41 : lw_okq (⟨"OssuaryVaultModel", "isVolume", "(I)Z"⟩, 25) := ⟨⟨by decide +kernel, by decide +kernel⟩, List.mem_of_getElem? (i := 1169) (by decide +kernel), List.mem_of_getElem? (i := 1431) (by decide +kernel), List.mem_of_getElem? (i := 1432) (by decide +kernel)⟩
theorem lw_p42 : lw_okq (⟨"OssuaryVaultModel", "isNot", "(I)Z"⟩, 25) := ⟨⟨by decide +kernel, by decide +kernel⟩, List.mem_of_getElem? (i := 1169) (by decide +kernel), List.mem_of_getElem? (i := 1451) (by decide +kernel), List.mem_of_getElem? (i := 1452) (by decide +kernel)⟩
theorem lw_p43 : lw_okq (⟨"OssuaryVaultModel", "isSoundNow", "(I)Z"⟩, 25) := ⟨⟨by decide +kernel, by decide +kernel⟩, List.mem_of_getElem? (i := 1169) (by decide +kernel), List.mem_of_getElem? (i := 1467) (by decide +kernel), List.mem_of_getElem? (i := 1468) (by decide +kernel)⟩
theorem lw_p44 : lw_okq (⟨"OssuaryVaultModel", "look", "()V"⟩, 25) := ⟨⟨by decide +kernel, by decide +kernel⟩, List.mem_of_getElem? (i := 1169) (by decide +kernel), List.mem_of_getElem? (i := 1478) (by decide +kernel), List.mem_of_getElem? (i := 1479) (by decide +kernel)⟩
theorem lw_p45 : lw_okq (⟨"OssuaryVaultModel", "spareNow", "()I"⟩, 25) := ⟨⟨by decide +kernel, by decide +kernel⟩, List.mem_of_getElem? (i := 1169) (by decide +kernel), List.mem_of_getElem? (i := 1494) (by decide +kernel), List.mem_of_getElem? (i := 1495) (by decide +kernel)⟩
theorem lw_p46 : lw_okq (⟨"OssuaryVaultModel", "placeOfNumber", "(I)I"⟩, 25) := ⟨⟨by decide +kernel, by decide +kernel⟩, List.mem_of_getElem? (i := 1169) (by decide +kernel), List.mem_of_getElem? (i := 1506) (by decide +kernel), List.mem_of_getElem? (i := 1507) (by decide +kernel)⟩
theorem lw_p47 : lw_okq (⟨"OssuaryVaultModel", "workOut", "([[IIII)I"⟩, 25) := ⟨⟨by decide +kernel, by decide +kernel⟩, List.mem_of_getElem? (i := 1169) (by decide +kernel), List.mem_of_getElem? (i := 1510) (by decide +kernel), List.mem_of_getElem? (i := 1511) (by decide +kernel)⟩
def lw_privs_3 : List (MethodName × Nat) := [(⟨"OssuaryVaultModel", "move", "(II)V"⟩, 25), (⟨"OssuaryVaultModel", "ok", "(I)I"⟩, 25), (⟨"OssuaryVaultModel", "isFile", "(I)Z"⟩, 25), (⟨"OssuaryVaultModel", "pack", "([II)I"⟩, 25), (⟨"OssuaryVaultModel", "streamSize", "()I"⟩, 25), (⟨"OssuaryVaultModel", "makeStream", "()[I"⟩, 25), (⟨"OssuaryVaultModel", "putVolumes", "([III)I"⟩, 25), (⟨"OssuaryVaultModel", "isAs", "(I[I)Z"⟩, 25), (⟨"OssuaryVaultModel", "isByte", "(II)Z"⟩, 25), (⟨"OssuaryVaultModel", "isVolume", "(I)Z"⟩, 25), (⟨"OssuaryVaultModel", "isNot", "(I)Z"⟩, 25), (⟨"OssuaryVaultModel", "isSoundNow", "(I)Z"⟩, 25), (⟨"OssuaryVaultModel", "look", "()V"⟩, 25), (⟨"OssuaryVaultModel", "spareNow", "()I"⟩, 25), (⟨"OssuaryVaultModel", "placeOfNumber", "(I)I"⟩, 25), (⟨"OssuaryVaultModel", "workOut", "([[IIII)I"⟩, 25)]
theorem lw_r3 : ∀ q ∈ lw_privs_3, lw_okq q := List.forall_mem_cons.mpr ⟨lw_p32, List.forall_mem_cons.mpr ⟨lw_p33, List.forall_mem_cons.mpr ⟨lw_p34, List.forall_mem_cons.mpr ⟨lw_p35, List.forall_mem_cons.mpr ⟨lw_p36, List.forall_mem_cons.mpr ⟨lw_p37, List.forall_mem_cons.mpr ⟨lw_p38, List.forall_mem_cons.mpr ⟨lw_p39, List.forall_mem_cons.mpr ⟨lw_p40, List.forall_mem_cons.mpr ⟨lw_p41, List.forall_mem_cons.mpr ⟨lw_p42, List.forall_mem_cons.mpr ⟨lw_p43, List.forall_mem_cons.mpr ⟨lw_p44, List.forall_mem_cons.mpr ⟨lw_p45, List.forall_mem_cons.mpr ⟨lw_p46, List.forall_mem_cons.mpr ⟨lw_p47, fun _ h => absurd h List.not_mem_nil⟩⟩⟩⟩⟩⟩⟩⟩⟩⟩⟩⟩⟩⟩⟩⟩
theorem lw_p48 : lw_okq (⟨"OssuaryVaultModel", "findFiles", "()V"⟩, 25) := ⟨⟨by decide +kernel, by decide +kernel⟩, List.mem_of_getElem? (i := 1169) (by decide +kernel), List.mem_of_getElem? (i := 1523) (by decide +kernel), List.mem_of_getElem? (i := 1524) (by decide +kernel)⟩
theorem lw_p49 : lw_okq (⟨"OssuaryVaultModel", "indexPlace", "()I"⟩, 25) := ⟨⟨by decide +kernel, by decide +kernel⟩, List.mem_of_getElem? (i := 1169) (by decide +kernel), List.mem_of_getElem? (i := 1527) (by decide +kernel), List.mem_of_getElem? (i := 1528) (by decide +kernel)⟩
theorem lw_p50 : lw_okq (⟨"OssuaryVaultModel", "add", "(III)V"⟩, 25) := ⟨⟨by decide +kernel, by decide +kernel⟩, List.mem_of_getElem? (i := 1169) (by decide +kernel), List.mem_of_getElem? (i := 1531) (by decide +kernel), List.mem_of_getElem? (i := 1532) (by decide +kernel)⟩
theorem lw_p51 : lw_okq (⟨"OssuaryVaultModel", "read", "(I)I"⟩, 25) := ⟨⟨by decide +kernel, by decide +kernel⟩, List.mem_of_getElem? (i := 1169) (by decide +kernel), List.mem_of_getElem? (i := 1535) (by decide +kernel), List.mem_of_getElem? (i := 1536) (by decide +kernel)⟩
theorem lw_p52 : lw_okq (⟨"OssuaryVaultModel", "recordSize", "(I)I"⟩, 25) := ⟨⟨by decide +kernel, by decide +kernel⟩, List.mem_of_getElem? (i := 1169) (by decide +kernel), List.mem_of_getElem? (i := 1539) (by decide +kernel), List.mem_of_getElem? (i := 1540) (by decide +kernel)⟩
theorem lw_p53 : lw_okq (⟨"OssuaryVaultModel", "unpack", "([IIIZ)I"⟩, 25) := ⟨⟨by decide +kernel, by decide +kernel⟩, List.mem_of_getElem? (i := 1169) (by decide +kernel), List.mem_of_getElem? (i := 1543) (by decide +kernel), List.mem_of_getElem? (i := 1544) (by decide +kernel)⟩
theorem lw_p54 : lw_okq (⟨"OssuaryVaultModel", "ofFound", "(I[I)I"⟩, 25) := ⟨⟨by decide +kernel, by decide +kernel⟩, List.mem_of_getElem? (i := 1169) (by decide +kernel), List.mem_of_getElem? (i := 1567) (by decide +kernel), List.mem_of_getElem? (i := 1568) (by decide +kernel)⟩
def lw_privs_4 : List (MethodName × Nat) := [(⟨"OssuaryVaultModel", "findFiles", "()V"⟩, 25), (⟨"OssuaryVaultModel", "indexPlace", "()I"⟩, 25), (⟨"OssuaryVaultModel", "add", "(III)V"⟩, 25), (⟨"OssuaryVaultModel", "read", "(I)I"⟩, 25), (⟨"OssuaryVaultModel", "recordSize", "(I)I"⟩, 25), (⟨"OssuaryVaultModel", "unpack", "([IIIZ)I"⟩, 25), (⟨"OssuaryVaultModel", "ofFound", "(I[I)I"⟩, 25)]
theorem lw_r4 : ∀ q ∈ lw_privs_4, lw_okq q := List.forall_mem_cons.mpr ⟨lw_p48, List.forall_mem_cons.mpr ⟨lw_p49, List.forall_mem_cons.mpr ⟨lw_p50, List.forall_mem_cons.mpr ⟨lw_p51, List.forall_mem_cons.mpr ⟨lw_p52, List.forall_mem_cons.mpr ⟨lw_p53, List.forall_mem_cons.mpr ⟨lw_p54, fun _ h => absurd h List.not_mem_nil⟩⟩⟩⟩⟩⟩⟩
def lw_privs : List (MethodName × Nat) := lw_privs_1 ++ (lw_privs_2 ++ (lw_privs_3 ++ (lw_privs_4)))
def lw_tbl : List Cond := k2_sels lw_privs ++ tables_1
theorem lw_privs_ok : ∀ q ∈ lw_privs, lw_okq q := by
  show ∀ q ∈ lw_privs_1 ++ (lw_privs_2 ++ (lw_privs_3 ++ (lw_privs_4))), lw_okq q
  exact List.forall_mem_append.mpr ⟨lw_r1, List.forall_mem_append.mpr ⟨lw_r2, List.forall_mem_append.mpr ⟨lw_r3, lw_r4⟩⟩⟩
/-- the streams that the claim lets the run draw from -/
abbrev lw_cs : List Choice := [Jvm.Choice.named "NaN.bits"]
theorem lw_bits : nanBits ∈ lw_cs := by first | decide | exact List.mem_cons_self | simp [lw_cs, nanBits]
-- ===== end of PART A; then your names; then what follows =====
end
section
/-! ===== BEGIN exceptions that leave a method, and their catching by the caller (launches without stack traces) ===== -/
section VXA
/-! The laws vx_back, vx_callV, vx_callS, vx_callSW, vx_throw0, vx_throwS follow proofs of the library, with one case more: JvmDerived/Free/Laws.lean (Back.of_free), Shelf42/LK1.lean (callV, callS), Shelf/KitTraced.lean (throwNew0V, throwNewS). -/
/-- where a method has thrown q: the class by its name, the cell, what was written, the world -/
def vx_T (XC : String → State → State → Prop) (st : State) (q : Addr) (t : State) (mc ms : Nat) (free : Addr → Prop) : Prop :=
  ∃ (E : String) (ce : Cell) (L : List Loc), XC E st t ∧ t.heap[q]? = some ce ∧ ce.vm = .none ∧ st.vm.findClass E = some ce.cls ∧ st.WarmedH t.vm ∧ st.sameButNew ({ t with vm := st.vm } : State) L mc ms ∧ ∀ z ∈ L, free z.base
def vx_Q (Qc : Array Value → State → Outcome → State → Prop) (XC : String → State → State → Prop) (mc ms : Nat) (free : Addr → Prop) : Array Value → State → Outcome → State → Prop := fun a st o t =>
  (Qc a st o t ∧ ∃ L, FrameEnd st o t L mc ms ∧ ∀ q ∈ L, free q.base) ∨ ∃ q, o = .threw q ∧ vx_T XC st q t mc ms free
/-- a callee that returns or throws -/
def vx_Met (l : Launch) (y : MethodName) (ws : List Cond) (rm : Room) (Pc : Array Value → State → Prop) (Qc : Array Value → State → Outcome → State → Prop) (XC : String → State → State → Prop) (mc ms : Nat) (free : Addr → Prop) : Prop :=
  MetFree l y (headSpec ws rm) Pc (fun _ _ _ _ _ => True) (vx_Q Qc XC mc ms free)
def vx_Post (XC : String → State → State → Prop) (mc ms : Nat) (free : Addr → Prop) : Pt → Array Value → Addr → Pt → Prop := fun A a q B =>
  ∃ (g : JFrame) (mk : MethodId) (t : State) (L : List Loc) (E : String) (ce : Cell), B.U.heap = t.heap ∧ B.U.vm = t.vm ∧ XC E (A.U.calling g mk a) t ∧ t.heap[q]? = some ce ∧ ce.vm = .none ∧ A.U.vm.findClass E = some ce.cls ∧ B.locs = A.locs ++ L ∧ (∀ z ∈ L, free z.base) ∧ B.cells = A.cells + mc ∧ B.slots = A.slots + ms
def vx_Back (l : Launch) (R : Room) (p : Program) (e : Env) (below : List Frame) (s : State) (sargs : Array Value) (y : MethodName) (len W9 : Nat)
    (Pre : Pt → Array Value → Prop) (Post : Pt → Array Value → Option Value → Pt → Prop) (PostX : Pt → Array Value → Addr → Pt → Prop) : Prop :=
  ∀ (m : MethodId) (meth : Method) (c : Code) (A : Pt) (g : JFrame) (ig : Instr) (mk : MethodId) (a : Array Value),
    Stand p l e R s m sargs below meth c A.U A.locs A.cells A.slots → g.method = m → g.locals.size = c.maxLocals → decode c.code g.pc = .ok (ig, len) →
    2 * g.monitorRoom + (g.stack.map fun v => v.category).sum ≤ W9 → A.U.methodNamed? y = some mk → Pre A a →
    (∃ (v : Option Value) (B : Pt), Stand p l e R s m sargs below meth c B.U B.locs B.cells B.slots ∧ Post A a v B ∧
      Steps p.tables e below (doInvoke e (A.U.setTop g) [] mk a).1 (B.U.setTop { g with pc := g.pc + len, stack := v.toList ++ g.stack })) ∨
    (∃ (q : Addr) (B : Pt), Stand p l e R s m sargs below meth c B.U B.locs B.cells B.slots ∧ PostX A a q B ∧
      Steps p.tables e below (doInvoke e (A.U.setTop g) [] mk a).1 ((B.U.setTop g).pushFrame (.throwing q)))
section Payer
variable {l : Launch} {R : Room} {p : Program} {e : Env} {below : List Frame} {s : State} {sargs : Array Value} {y : MethodName} {len W9 : Nat}
theorem vx_back {ws : List Cond} {rm : Room} {Pc : Array Value → State → Prop} {Qc : Array Value → State → Outcome → State → Prop} {XC : String → State → State → Prop} {mc ms : Nat} {free : Addr → Prop} {bytes : ByteArray} {maxL : Nat} {ret : Option FieldType}
    (hM : vx_Met l y ws rm Pc Qc XC mc ms free) (hblind : FrameBlind Pc) (hrc : rm.cells = mc) (hrs : rm.slots = ms)
    (hframes : rm.frames + 1 ≤ R.frames) (hlocals : W9 + (maxL + 11) + rm.locals ≤ R.locals)
    (hws : ∀ w ∈ ws, ∀ a' U, s.WarmedH U.vm → w.before a' U = true) (hcode : Cond.code y bytes maxL ret ∈ ws) (hinit : ∀ a' U, s.WarmedH U.vm → (Cond.initialized y.cls).before a' U = true) :
    vx_Back l R p e below s sargs y len W9 (PreOf R mc ms Pc) (PostOf Qc mc ms free) (vx_Post XC mc ms free) := by
  intro m meth c A g ig mk a X hg hsize hdg hW hn hp
  have h1 : (headSpec ws rm).pre.before a A.U = true := atoms_intro fun w hw => hws w hw _ _ X.warmed
  have h2 : (Cond.code y bytes maxL ret).before a A.U = true := hws _ hcode _ _ X.warmed
  have h3 : (Cond.initialized y.cls).before a A.U = true := hinit _ _ X.warmed
  have h4 : A.cells + (headSpec ws rm).room.cells ≤ R.cells := by rw [show (headSpec ws rm).room.cells = mc from hrc]; exact hp.1
  have h5 : A.slots + (headSpec ws rm).room.slots ≤ R.slots := by rw [show (headSpec ws rm).room.slots = ms from hrs]; exact hp.2.1
  have hPc : Pc a (A.U.calling g mk a) := hblind _ _ _ _ hp.2.2
  obtain ⟨U, Ls, c0, s0⟩ := A
  dsimp only [Pt.U, Pt.locs, Pt.cells, Pt.slots] at h1 h2 h3 h4 h5 X hn hPc ⊢
  obtain ⟨methY, cY, hmY, hcY, -, hlY, -, -, -, -⟩ := Cond.code_spec hn h2
  obtain ⟨kY, hkY, -⟩ := className_of_methodNamed hn
  have hinitY : kY.init = .initialized := Cond.initialized_spec (findClass_of_methodNamed hn) hkY h3
  have h : At U g.method c below := by rw [hg]; exact X.here
  have hlocals9 : W9 + (maxL + 11) + (headSpec ws rm).room.locals ≤ R.locals := hlocals
  have happ : (headSpec ws rm).appliesLoose y e.platform (U.calling g mk a) = true :=
    Spec.appliesLoose_calling (g := g) h hdg hn hkY hinitY
      (X.room_calling (g := g) (R' := (headSpec ws rm).room) hsize hmY hcY hframes (by rw [hlY]; omega) h4 h5) h1
  obtain ⟨mid, hmid⟩ := h.above
  have hfr : (U.setTop g).frames = (.java g :: mid) ++ below := by rw [State.frames_setTop' g h.top, hmid]; rfl
  obtain ⟨o, s₂, hsteps, -, hend, hq⟩ := Steps.callFree hM p X.admits X.cas X.clock (acts := []) hfr happ hPc trivial
  have hq' : vx_Q Qc XC mc ms free a (U.calling g mk a) o s₂ := hq
  rw [State.frames_setTop' g h.top] at hend
  obtain ⟨g₀, hg0⟩ := Option.isSome_iff_exists.mp h.top
  obtain ⟨r, hr⟩ := State.topJava?_eq_some.mp hg0
  have hr' : (({ U with heap := s₂.heap, slotsUsed := s₂.slotsUsed } : State).setVm s₂.vm).frames = .java g₀ :: r := hr
  rcases hq' with ⟨hqc, L, hfe, hL⟩ | ⟨q, rfl, E, ce, L, hx, hce, hcv, hcl, hW₂, hsm, hL⟩
  · obtain ⟨⟨v, rfl⟩, hW₂, e2, q2, q3, q4, q5, q6⟩ := id hfe
    have e3 : s₂ = ({ (U.calling g mk a).setFrames s₂.frames with heap := s₂.heap, slotsUsed := s₂.slotsUsed } : State).setVm s₂.vm := by
      have : s₂ = ({ s₂ with vm := (U.calling g mk a).vm } : State).setVm s₂.vm := rfl
      rw [e2] at this
      exact this
    obtain ⟨c₂, i₂, len₂, hc₂, hd₂, hf₂⟩ := hend
    have hW' : U.WarmedH s₂.vm := hW₂
    have hcc : c₂ = c := by
      have h1 : s₂.code? g.method = U.code? g.method := by
        rw [State.code?_eq, State.code?_eq, hW'.alike.method?]
      exact Option.some.inj (hc₂.symm.trans (h1.trans h.code))
    subst hcc
    have hlen : len₂ = len := by rw [hdg] at hd₂; cases hd₂; rfl
    subst hlen
    have hs₂ : s₂ = (({ U with heap := s₂.heap, slotsUsed := s₂.slotsUsed } : State).setVm s₂.vm).setTop { g with pc := g.pc + len₂, stack := v.toList ++ g.stack } := by
      refine e3.trans ?_
      rw [hf₂, State.calling_eq h.top, State.setFrames_setFrames, State.setTop_of_frames _ hr', hr]
      rfl
    have hsame : U.sameButNew ({ U with heap := s₂.heap, slotsUsed := s₂.slotsUsed } : State) L mc ms := by
      refine ⟨?_, q2, q3, q4, q5, q6⟩
      obtain ⟨t, ht, -⟩ := State.frames_cons hr
      show ({ U with heap := s₂.heap, slotsUsed := s₂.slotsUsed } : State) = { U.setFrames U.frames with heap := s₂.heap, slotsUsed := s₂.slotsUsed }
      rw [State.setFrames_self ht]
    subst hg
    refine Or.inl ⟨v, ⟨(({ U with heap := s₂.heap, slotsUsed := s₂.slotsUsed } : State).setVm s₂.vm), Ls ++ L, c0 + mc, s0 + ms⟩,
      ⟨X.admits, X.cas, X.clock, X.frames, X.room, X.hears, X.method, X.code, (X.here.setHeapUsed s₂.heap s₂.slotsUsed).setVm hW'.alike, X.tail, State.WarmedH.trans X.warmed hW', X.limits, X.bytes, X.same.trans (hsame.setVm s.vm)⟩,
      ⟨g, mk, s₂, L, rfl, rfl, hqc, rfl, hL, rfl, rfl⟩, ?_⟩
    show Steps p.tables e below _ ((({ U with heap := s₂.heap, slotsUsed := s₂.slotsUsed } : State).setVm s₂.vm).setTop { g with pc := g.pc + len₂, stack := v.toList ++ g.stack })
    rw [← hs₂]
    exact hsteps
  · obtain ⟨e2, q2, q3, q4, q5, q6⟩ := id hsm
    have e3 : s₂ = ({ (U.calling g mk a).setFrames s₂.frames with heap := s₂.heap, slotsUsed := s₂.slotsUsed } : State).setVm s₂.vm := by
      have : s₂ = ({ s₂ with vm := (U.calling g mk a).vm } : State).setVm s₂.vm := rfl
      rw [e2] at this
      exact this
    have hf₂ : s₂.frames = .throwing q :: .java g :: U.frames.tail := hend
    have hW' : U.WarmedH s₂.vm := hW₂
    have hs₂ : s₂ = ((({ U with heap := s₂.heap, slotsUsed := s₂.slotsUsed } : State).setVm s₂.vm).setTop g).pushFrame (.throwing q) := by
      refine e3.trans ?_
      rw [hf₂, State.calling_eq h.top, State.setFrames_setFrames, State.pushFrame, State.frames_setTop _ hr', State.setTop_of_frames _ hr', State.setFrames_setFrames, hr]
      rfl
    have hsame : U.sameButNew ({ U with heap := s₂.heap, slotsUsed := s₂.slotsUsed } : State) L mc ms := by
      refine ⟨?_, q2, q3, q4, q5, q6⟩
      obtain ⟨t, ht, -⟩ := State.frames_cons hr
      show ({ U with heap := s₂.heap, slotsUsed := s₂.slotsUsed } : State) = { U.setFrames U.frames with heap := s₂.heap, slotsUsed := s₂.slotsUsed }
      rw [State.setFrames_self ht]
    subst hg
    refine Or.inr ⟨q, ⟨(({ U with heap := s₂.heap, slotsUsed := s₂.slotsUsed } : State).setVm s₂.vm), Ls ++ L, c0 + mc, s0 + ms⟩,
      ⟨X.admits, X.cas, X.clock, X.frames, X.room, X.hears, X.method, X.code, (X.here.setHeapUsed s₂.heap s₂.slotsUsed).setVm hW'.alike, X.tail, State.WarmedH.trans X.warmed hW', X.limits, X.bytes, X.same.trans (hsame.setVm s.vm)⟩,
      ⟨g, mk, s₂, L, E, ce, rfl, rfl, hx, hce, hcv, hcl, rfl, hL, rfl, rfl⟩, ?_⟩
    show Steps p.tables e below _ (((({ U with heap := s₂.heap, slotsUsed := s₂.slotsUsed } : State).setVm s₂.vm).setTop g).pushFrame (.throwing q))
    rw [← hs₂]
    exact hsteps
end Payer
section Calls
variable {p : Program} {l : Launch} {e : Env} {R : Room} {s : State} {m : MethodId} {args : Array Value} {below : List Frame} {meth : Method} {c : Code} {T : State} {locs : List Loc} {cells slots : Nat}
theorem vx_callV (X : Stand p l e R s m args below meth c T locs cells slots) (hexec : p.tables.exec = Jvm.exec) {own C : String} {index : Nat} {y : MethodName} {bytes : ByteArray} {maxL : Nat} {ret : Option FieldType}
    (hown : s.vm.findClass own = some m.cls) (hlink : (Cond.methodLink own index y).before args s = true) (hinst : (Cond.instanceMethod y).before args s = true) (hsel : (Cond.selects C y y).before args s = true)
    (hcode : (Cond.code y bytes maxL ret).before args s = true) (hy : y.cls ≠ "java/lang/invoke/MethodHandle" ∧ y.cls ≠ "java/lang/invoke/VarHandle")
    {W9 : Nat} {Pre : Pt → Array Value → Prop} {Post : Pt → Array Value → Option Value → Pt → Prop} {PostX : Pt → Array Value → Addr → Pt → Prop} (hK : vx_Back l R p e below s args y 3 W9 Pre Post PostX)
    {b : Addr} {cellB : Cell} (hcell : T.heap[b]? = some cellB) (hobj : cellB.vm.isStatics = false) (hcls : s.vm.findClass C = some cellB.cls)
    {g : JFrame} (hg : g.method = m) (hsize : g.locals.size = c.maxLocals) {argsL rest : List Value} (hlen : ∀ sig, parseMethodDescriptor y.desc = some sig → argsL.length = sig.parameters.length)
    (hstack : g.stack = argsL.reverse ++ .ref b :: rest) (hW : 2 * g.monitorRoom + (rest.map fun v => v.category).sum ≤ W9) (hdg : decode c.code g.pc = .ok (.invokevirtual index, 3))
    (hpre : ∀ vm₁, s.WarmedH vm₁ → Pre ⟨T.setVm vm₁, locs, cells, slots⟩ (Value.ref b :: argsL).toArray) :
    (∃ (v : Option Value) (vm₁ : Vm) (B : Pt), s.WarmedH vm₁ ∧ Stand p l e R s m args below meth c B.U B.locs B.cells B.slots ∧ Post ⟨T.setVm vm₁, locs, cells, slots⟩ (Value.ref b :: argsL).toArray v B ∧
      ∀ target, Steps p.tables e below (B.U.setTop { g with pc := g.pc + 3, stack := v.toList ++ rest }) target → Steps p.tables e below (T.setTop g) target) ∨
    (∃ (q : Addr) (vm₁ : Vm) (B : Pt), s.WarmedH vm₁ ∧ Stand p l e R s m args below meth c B.U B.locs B.cells B.slots ∧ PostX ⟨T.setVm vm₁, locs, cells, slots⟩ (Value.ref b :: argsL).toArray q B ∧
      Steps p.tables e below (T.setTop g) ((B.U.setTop { g with stack := rest }).pushFrame (.throwing q))) := by
  obtain ⟨mk, methM, hnamed, hmethM, hstM, habM⟩ := Cond.instanceMethod_spec hinst
  obtain ⟨methM', cM, hmethM', -, -, -, -, -, -, hsigM⟩ := Cond.code_spec hnamed hcode
  cases hmethM.symm.trans hmethM'
  obtain ⟨c2, r2, m2, q1, q2, q3, q4, kP, hkP, hkPi⟩ := Cond.selects_spec hsel
  cases hcls.symm.trans q1
  cases (State.methodFound?_of_named hnamed hy).symm.trans q2
  cases hnamed.symm.trans q3
  have hselP : selectMethod e.platform s.vm cellB.cls mk = .method mk := by rw [Launch.admits_selectMethod X.admits]; exact q4
  obtain ⟨vm₁, X₁, hstep₁⟩ := X.invokevirtual hexec hown hlink hnamed hmethM hstM hkP hkPi hy (a := b) (cell := cellB) hcell
    (fun z h => by rw [h] at hobj; cases hobj) hselP hmethM habM hkP hkPi (g := g) hg (argsL := argsL) (rest := rest) (hlen _ hsigM) hstack hdg
  rcases hK m meth c ⟨T.setVm vm₁, locs, cells, slots⟩ { g with stack := rest } (.invokevirtual index) mk (Value.ref b :: argsL).toArray X₁ hg hsize hdg hW (X₁.named hnamed) (hpre vm₁ X₁.warmed) with ⟨v, B, X', hpost, hsteps⟩ | ⟨q, B, X', hpost, hsteps⟩
  · exact Or.inl ⟨v, vm₁, B, X₁.warmed, X', hpost, fun target h => hstep₁ _ fun acts => by rw [doInvoke_state]; exact hsteps.trans h⟩
  · exact Or.inr ⟨q, vm₁, B, X₁.warmed, X', hpost, hstep₁ _ fun acts => by rw [doInvoke_state]; exact hsteps⟩
theorem vx_callS (X : Stand p l e R s m args below meth c T locs cells slots) (hexec : p.tables.exec = Jvm.exec) {own : String} {index : Nat} {y : MethodName} {bytes : ByteArray} {maxL : Nat} {ret : Option FieldType}
    (hown : s.vm.findClass own = some m.cls) (hlink : (Cond.methodLink own index y).before args s = true) (hstat : (Cond.static y).before args s = true) (hinit : (Cond.initialized y.cls).before args s = true)
    (hcode : (Cond.code y bytes maxL ret).before args s = true) (hy : y.cls ≠ "java/lang/invoke/MethodHandle" ∧ y.cls ≠ "java/lang/invoke/VarHandle")
    {W9 : Nat} {Pre : Pt → Array Value → Prop} {Post : Pt → Array Value → Option Value → Pt → Prop} {PostX : Pt → Array Value → Addr → Pt → Prop} (hK : vx_Back l R p e below s args y 3 W9 Pre Post PostX)
    {g : JFrame} (hg : g.method = m) (hsize : g.locals.size = c.maxLocals) {argsL rest : List Value} (hlen : ∀ sig, parseMethodDescriptor y.desc = some sig → argsL.length = sig.parameters.length)
    (hstack : g.stack = argsL.reverse ++ rest) (hW : 2 * g.monitorRoom + (rest.map fun v => v.category).sum ≤ W9) (hdg : decode c.code g.pc = .ok (.invokestatic index, 3))
    (hpre : ∀ vm₁, s.WarmedH vm₁ → Pre ⟨T.setVm vm₁, locs, cells, slots⟩ argsL.toArray) :
    (∃ (v : Option Value) (vm₁ : Vm) (B : Pt), s.WarmedH vm₁ ∧ Stand p l e R s m args below meth c B.U B.locs B.cells B.slots ∧ Post ⟨T.setVm vm₁, locs, cells, slots⟩ argsL.toArray v B ∧
      ∀ target, Steps p.tables e below (B.U.setTop { g with pc := g.pc + 3, stack := v.toList ++ rest }) target → Steps p.tables e below (T.setTop g) target) ∨
    (∃ (q : Addr) (vm₁ : Vm) (B : Pt), s.WarmedH vm₁ ∧ Stand p l e R s m args below meth c B.U B.locs B.cells B.slots ∧ PostX ⟨T.setVm vm₁, locs, cells, slots⟩ argsL.toArray q B ∧
      Steps p.tables e below (T.setTop g) ((B.U.setTop { g with stack := rest }).pushFrame (.throwing q))) := by
  obtain ⟨mk, hnamed⟩ := Cond.code_named hcode
  obtain ⟨methM, cM, hmethM, -, -, -, -, -, -, hsigM⟩ := Cond.code_spec hnamed hcode
  have hstatic : methM.isStatic = true := Cond.static_spec hnamed hmethM hstat
  obtain ⟨kP, hkP, -⟩ := className_of_methodNamed hnamed
  have hinitP : kP.init = .initialized := Cond.initialized_spec (findClass_of_methodNamed hnamed) hkP hinit
  obtain ⟨vm₁, X₁, hstep₁⟩ := X.invokestatic hexec hown hlink hnamed hmethM hstatic hkP hinitP hy (g := g) hg (argsL := argsL) (rest := rest) (hlen _ hsigM) hstack hdg
  rcases hK m meth c ⟨T.setVm vm₁, locs, cells, slots⟩ { g with stack := rest } (.invokestatic index) mk argsL.toArray X₁ hg hsize hdg hW (X₁.named hnamed) (hpre vm₁ X₁.warmed) with ⟨v, B, X', hpost, hsteps⟩ | ⟨q, B, X', hpost, hsteps⟩
  · exact Or.inl ⟨v, vm₁, B, X₁.warmed, X', hpost, fun target h => hstep₁ _ fun acts => by rw [doInvoke_state]; exact hsteps.trans h⟩
  · exact Or.inr ⟨q, vm₁, B, X₁.warmed, X', hpost, hstep₁ _ fun acts => by rw [doInvoke_state]; exact hsteps⟩
end Calls
theorem vx_cls {s : State} {T : State} {vm₁ : Vm} {E : String} {k : ClassId} (hW : s.WarmedH vm₁) (h : (T.setVm vm₁).vm.findClass E = some k) : s.vm.findClass E = some k := by
  have h1 : vm₁.findClass E = some k := h
  rw [hW.alike.findClass] at h1
  exact h1
/-- the method's frame g, with q thrown over it -/
def vx_W (p : Program) (l : Launch) (e : Env) (R : Room) (s : State) (m : MethodId) (args : Array Value) (below : List Frame) (meth : Method) (c : Code) (H : Heap) (locs : List Loc) (cells slots : Nat) (Q : State → Prop) (g : JFrame) (q : Addr) : Prop :=
  ∀ T : State, T.heap = H → Stand p l e R s m args below meth c T locs cells slots → ∃ t, Steps p.tables e below ((T.setTop g).pushFrame (.throwing q)) t ∧ Q t
def vx_Run (p : Program) (l : Launch) (e : Env) (R : Room) (s : State) (m : MethodId) (args : Array Value) (below : List Frame) (meth : Method) (c : Code) (H : Heap) (locs : List Loc) (cells slots mc ms : Nat) (g : JFrame) (rest : List Value) (Qa : State → Outcome → State → Prop) (XC : String → State → State → Prop) (free : Addr → Prop) : Prop :=
  ∀ T : State, T.heap = H → Stand p l e R s m args below meth c T locs cells slots →
    (∃ (v : Option Value) (st₀ t T' : State) (L : List Loc), st₀.heap = H ∧ Stand p l e R s m args below meth c T' (locs ++ L) (cells + mc) (slots + ms) ∧ (∀ q ∈ L, free q.base) ∧ T'.heap = t.heap ∧ T'.vm = t.vm ∧ Qa st₀ (.returned v) t ∧
      Goes p e below T g T' { g with pc := g.pc + 3, stack := v.toList ++ rest }) ∨
    (∃ (q : Addr) (st₀ t T' : State) (L : List Loc) (E : String) (ce : Cell), st₀.heap = H ∧ Stand p l e R s m args below meth c T' (locs ++ L) (cells + mc) (slots + ms) ∧ (∀ z ∈ L, free z.base) ∧ T'.heap = t.heap ∧ T'.vm = t.vm ∧ XC E st₀ t ∧ t.heap[q]? = some ce ∧ ce.vm = .none ∧ s.vm.findClass E = some ce.cls ∧
      Steps p.tables e below (T.setTop g) ((T'.setTop { g with stack := rest }).pushFrame (.throwing q)))
def vx_X {S : Type} (px : S → Prop) (B : String → S → State → Prop) (A : Nat → Prop) : String → State → State → Prop := fun E st t => ∃ u : S, px u ∧ B E u t ∧ va_F A st t
section Runs
variable {p : Program} {l : Launch} {e : Env} {R : Room} {s : State} {m : MethodId} {args : Array Value} {below : List Frame} {meth : Method} {c : Code} {H : Heap} {locs : List Loc} {cells slots : Nat}
variable {y : MethodName} {bytes cc : ByteArray} {maxL nL mc ms n index : Nat} {ret : Option FieldType} {ws : List Cond} {rm : Room} {Pc : Array Value → State → Prop} {Qc : Array Value → State → Outcome → State → Prop} {XC : String → State → State → Prop} {free : Addr → Prop} {Ts : List Cond} {own C : String} {b : Addr} {As rest : List Value} {g : JFrame}
theorem vx_callBack (cb : CallB R s args own index y bytes maxL ret ws rm mc ms n) (hM : vx_Met l y ws rm Pc Qc XC mc ms free) (hbl : FrameBlind Pc) : vx_Back l R p e below s args y 3 8 (PreOf R mc ms Pc) (PostOf Qc mc ms free) (vx_Post XC mc ms free) := by
  obtain ⟨hrc, hrs, hfr, hlo, hws, hcw, -, hini, -⟩ := cb
  exact vx_back (bytes := bytes) (maxL := maxL) (ret := ret) hM hbl hrc hrs hfr hlo hws hcw (fun a' U hW => word_at hW (Or.inl (by first | rfl | simp [Cond.onTables, Cond.keeps, Cond.steady])) hini)
theorem vx_runV (S : CallFix p m c cc nL s args Ts own) (hM : vx_Met l y ws rm Pc Qc XC mc ms free) (cw : CallW R s args own C index y bytes maxL ret ws rm mc ms n) (hp : PreV s H C b Pc As)
    (hg : g.method = m) (hn : As.length = n) (hsize : g.locals.size = nL) (hstack : g.stack = As.reverse ++ .ref b :: rest) (hW : 2 * g.monitorRoom + (rest.map fun v => v.category).sum ≤ 8) (hdg : decode cc g.pc = .ok (.invokevirtual index, 3)) (hf : cells + mc ≤ R.cells ∧ slots + ms ≤ R.slots) :
    vx_Run p l e R s m args below meth c H locs cells slots mc ms g rest (Qc (Value.ref b :: As).toArray) XC free := by
  have hK : vx_Back l R p e below s args y 3 8 (PreOf R mc ms Pc) (PostOf Qc mc ms free) (vx_Post XC mc ms free) := vx_callBack cw.1 hM hp.1
  obtain ⟨⟨-, -, -, -, -, -, hcode, -, hy, hlen, hl⟩, hin, hse⟩ := cw
  obtain ⟨hx, hb, hml, ho, -⟩ := S
  obtain ⟨-, ⟨cellB, hcB, hoB, hclB⟩, hPc⟩ := hp
  intro T hT X
  rcases vx_callV X hx (C := C) (bytes := bytes) (maxL := maxL) (ret := ret) ho hl hin hse hcode hy hK (by rw [hT]; exact hcB) hoB hclB hg (hsize.trans hml.symm) (argsL := As) (rest := rest) (fun sig h => hn.trans (hlen sig h)) hstack hW (by rw [hb]; exact hdg)
    (fun vm₁ hW₁ => ⟨hf.1, hf.2, hPc (T.setVm vm₁) hT hW₁⟩) with ⟨v, vm₁, ⟨U', l2, c2, s2⟩, hW₁, X', ⟨g', mk, t, L, e1, e2, hq, h1, hL, h2, h3⟩, st⟩ | ⟨q, vm₁, ⟨U', l2, c2, s2⟩, hW₁, X', ⟨g', mk, t, L, E, ce, e1, e2, hq, hce, hcv, hcl, h1, hL, h2, h3⟩, st⟩
  · dsimp only [Pt.U, Pt.locs, Pt.cells, Pt.slots] at X' e1 e2 h1 h2 h3 st
    subst h1; subst h2; subst h3
    exact Or.inl ⟨v, (T.setVm vm₁).calling g' mk (Value.ref b :: As).toArray, t, U', L, hT, X', hL, e1, e2, hq, st⟩
  · dsimp only [Pt.U, Pt.locs, Pt.cells, Pt.slots] at X' e1 e2 h1 h2 h3 st hcl
    subst h1; subst h2; subst h3
    exact Or.inr ⟨q, (T.setVm vm₁).calling g' mk (Value.ref b :: As).toArray, t, U', L, E, ce, hT, X', hL, e1, e2, hq, hce, hcv, vx_cls hW₁ hcl, st⟩
theorem vx_runS (S : CallFix p m c cc nL s args Ts own) (hM : vx_Met l y ws rm Pc Qc XC mc ms free) (cw : CallB R s args own index y bytes maxL ret ws rm mc ms n ∧ (Cond.static y).before args s = true) (hp : PreS s H Pc As)
    (hg : g.method = m) (hn : As.length = n) (hsize : g.locals.size = nL) (hstack : g.stack = As.reverse ++ rest) (hW : 2 * g.monitorRoom + (rest.map fun v => v.category).sum ≤ 8) (hdg : decode cc g.pc = .ok (.invokestatic index, 3)) (hf : cells + mc ≤ R.cells ∧ slots + ms ≤ R.slots) :
    vx_Run p l e R s m args below meth c H locs cells slots mc ms g rest (Qc As.toArray) XC free := by
  have hK : vx_Back l R p e below s args y 3 8 (PreOf R mc ms Pc) (PostOf Qc mc ms free) (vx_Post XC mc ms free) := vx_callBack cw.1 hM hp.1
  obtain ⟨⟨-, -, -, -, -, -, hcode, hini, hy, hlen, hl⟩, hstt⟩ := cw
  obtain ⟨hx, hb, hml, ho, -⟩ := S
  intro T hT X
  rcases vx_callS X hx (bytes := bytes) (maxL := maxL) (ret := ret) ho hl hstt hini hcode hy hK hg (hsize.trans hml.symm) (argsL := As) (rest := rest) (fun sig h => hn.trans (hlen sig h)) hstack hW (by rw [hb]; exact hdg)
    (fun vm₁ hW₁ => ⟨hf.1, hf.2, hp.2 (T.setVm vm₁) hT hW₁⟩) with ⟨v, vm₁, ⟨U', l2, c2, s2⟩, hW₁, X', ⟨g', mk, t, L, e1, e2, hq, h1, hL, h2, h3⟩, st⟩ | ⟨q, vm₁, ⟨U', l2, c2, s2⟩, hW₁, X', ⟨g', mk, t, L, E, ce, e1, e2, hq, hce, hcv, hcl, h1, hL, h2, h3⟩, st⟩
  · dsimp only [Pt.U, Pt.locs, Pt.cells, Pt.slots] at X' e1 e2 h1 h2 h3 st
    subst h1; subst h2; subst h3
    exact Or.inl ⟨v, (T.setVm vm₁).calling g' mk As.toArray, t, U', L, hT, X', hL, e1, e2, hq, st⟩
  · dsimp only [Pt.U, Pt.locs, Pt.cells, Pt.slots] at X' e1 e2 h1 h2 h3 st hcl
    subst h1; subst h2; subst h3
    exact Or.inr ⟨q, (T.setVm vm₁).calling g' mk As.toArray, t, U', L, E, ce, hT, X', hL, e1, e2, hq, hce, hcv, vx_cls hW₁ hcl, st⟩
end Runs
section Rows
variable {p : Program} {l : Launch} {e : Env} {R : Room} {s : State} {m : MethodId} {args : Array Value} {below : List Frame} {meth : Method} {c : Code} {H : Heap} {locs : List Loc} {cells slots : Nat} {Q : State → Prop}
variable {mc ms : Nat} {free : Addr → Prop} {A0 A1 : Nat → Prop} {H0 : Heap} {a : Array Value} {pc : Nat} {ls : Array Slot} {st0 rest : List Value}
theorem vx_keep {st₀ t T' : State} {L : List Loc} (h0 : st₀.heap = H) (e1 : T'.heap = t.heap) (hS : va_S A0 H0 H locs) (hA : ∀ q, q < H.size → A1 q → A0 q) (hf : ∀ q, free q → A0 q) (hL : ∀ q ∈ L, free q.base) (hF : va_F A1 st₀ t) :
    H.size ≤ T'.heap.size ∧ (∀ q : Nat, q < H.size → ¬ A1 q → T'.heap[q]? = H[q]?) ∧ va_S A0 H0 T'.heap (locs ++ L) := by
  obtain ⟨hz, hk⟩ := hF
  rw [h0] at hz hk
  exact ⟨by rw [e1]; exact hz, fun q h1 h2 => by rw [e1]; exact hk q h1 h2,
    ⟨Nat.le_trans hS.1 (by rw [e1]; exact hz), fun q h1 h2 => by rw [e1, hk q (Nat.lt_of_lt_of_le h1 hS.1) (fun z => h2 (hA q (Nat.lt_of_lt_of_le h1 hS.1) z))]; exact hS.2.1 q h1 h2, fun q hq => by
      rcases List.mem_append.mp hq with h | h
      · exact hS.2.2 q h
      · exact hf _ (hL q h)⟩⟩
theorem vx_calli {S SX : Type} {post : Int32 → S → Prop} {px : SX → Prop} {B : S → State → Prop} {BX : String → SX → State → Prop} {AX : Nat → Prop} (hr : vx_Run p l e R s m args below meth c H locs cells slots mc ms (F0 m pc ls st0) rest (va_Qi post B A1 a) (vx_X px BX AX) free) (hS : va_S A0 H0 H locs) (hA : ∀ q, q < H.size → A1 q → A0 q) (hf : ∀ q, free q → A0 q) (hAX : ∀ q, q < H.size → AX q → A0 q)
    (kx : ∀ (E : String) (ce : Cell) (q9 : Addr) (u : SX) (t : State) (H1 : Heap) (locs1 : List Loc), t.heap = H1 → s.vm.Alike t.vm → px u → BX E u t → H.size ≤ H1.size → (∀ q : Nat, q < H.size → ¬ AX q → H1[q]? = H[q]?) → va_S A0 H0 H1 locs1 → H1[q9]? = some ce → ce.vm = .none → s.vm.findClass E = some ce.cls → vx_W p l e R s m args below meth c H1 locs1 (cells + mc) (slots + ms) Q (F0 m pc ls rest) q9)
    (kk : ∀ (r : Int32) (u : S) (t : State) (H1 : Heap) (locs1 : List Loc), t.heap = H1 → s.vm.Alike t.vm → post r u → B u t → H.size ≤ H1.size → (∀ q : Nat, q < H.size → ¬ A1 q → H1[q]? = H[q]?) → va_S A0 H0 H1 locs1 → W p l e R s m args below meth c H1 locs1 (cells + mc) (slots + ms) Q (F0 m (pc + 3) ls (.int r :: rest))) : W p l e R s m args below meth c H locs cells slots Q (F0 m pc ls st0) := by
  intro T hT X
  rcases hr T hT X with ⟨v, st₀, t, T', L, h0, X', hL, e1, e2, ⟨⟨r, u, hv, hp, hb⟩, hF⟩, st⟩ | ⟨q, st₀, t, T', L, E, ce, h0, X', hL, e1, e2, ⟨u, hp, hb, hF⟩, hce, hcv, hcl, st⟩
  · cases hv
    obtain ⟨k1, k2, k3⟩ := vx_keep h0 e1 hS hA hf hL hF
    obtain ⟨t2, a1, b1⟩ := kk r u t T'.heap (locs ++ L) e1.symm (by rw [← e2]; exact X'.warmed.alike) hp hb k1 k2 k3 T' rfl X'
    exact ⟨t2, st t2 a1, b1⟩
  · obtain ⟨k1, k2, k3⟩ := vx_keep h0 e1 hS hAX hf hL hF
    obtain ⟨t2, a1, b1⟩ := kx E ce q u t T'.heap (locs ++ L) e1.symm (by rw [← e2]; exact X'.warmed.alike) hp hb k1 k2 k3 (by rw [e1]; exact hce) hcv hcl T' rfl X'
    exact ⟨t2, st.trans a1, b1⟩
theorem vx_calll {S SX : Type} {post : Int64 → S → Prop} {px : SX → Prop} {B : S → State → Prop} {BX : String → SX → State → Prop} {AX : Nat → Prop} (hr : vx_Run p l e R s m args below meth c H locs cells slots mc ms (F0 m pc ls st0) rest (va_Ql post B A1 a) (vx_X px BX AX) free) (hS : va_S A0 H0 H locs) (hA : ∀ q, q < H.size → A1 q → A0 q) (hf : ∀ q, free q → A0 q) (hAX : ∀ q, q < H.size → AX q → A0 q)
    (kx : ∀ (E : String) (ce : Cell) (q9 : Addr) (u : SX) (t : State) (H1 : Heap) (locs1 : List Loc), t.heap = H1 → s.vm.Alike t.vm → px u → BX E u t → H.size ≤ H1.size → (∀ q : Nat, q < H.size → ¬ AX q → H1[q]? = H[q]?) → va_S A0 H0 H1 locs1 → H1[q9]? = some ce → ce.vm = .none → s.vm.findClass E = some ce.cls → vx_W p l e R s m args below meth c H1 locs1 (cells + mc) (slots + ms) Q (F0 m pc ls rest) q9)
    (kk : ∀ (r : Int64) (u : S) (t : State) (H1 : Heap) (locs1 : List Loc), t.heap = H1 → s.vm.Alike t.vm → post r u → B u t → H.size ≤ H1.size → (∀ q : Nat, q < H.size → ¬ A1 q → H1[q]? = H[q]?) → va_S A0 H0 H1 locs1 → W p l e R s m args below meth c H1 locs1 (cells + mc) (slots + ms) Q (F0 m (pc + 3) ls (.long r :: rest))) : W p l e R s m args below meth c H locs cells slots Q (F0 m pc ls st0) := by
  intro T hT X
  rcases hr T hT X with ⟨v, st₀, t, T', L, h0, X', hL, e1, e2, ⟨⟨r, u, hv, hp, hb⟩, hF⟩, st⟩ | ⟨q, st₀, t, T', L, E, ce, h0, X', hL, e1, e2, ⟨u, hp, hb, hF⟩, hce, hcv, hcl, st⟩
  · cases hv
    obtain ⟨k1, k2, k3⟩ := vx_keep h0 e1 hS hA hf hL hF
    obtain ⟨t2, a1, b1⟩ := kk r u t T'.heap (locs ++ L) e1.symm (by rw [← e2]; exact X'.warmed.alike) hp hb k1 k2 k3 T' rfl X'
    exact ⟨t2, st t2 a1, b1⟩
  · obtain ⟨k1, k2, k3⟩ := vx_keep h0 e1 hS hAX hf hL hF
    obtain ⟨t2, a1, b1⟩ := kx E ce q u t T'.heap (locs ++ L) e1.symm (by rw [← e2]; exact X'.warmed.alike) hp hb k1 k2 k3 (by rw [e1]; exact hce) hcv hcl T' rfl X'
    exact ⟨t2, st.trans a1, b1⟩
theorem vx_callf {S SX : Type} {post : UInt32 → S → Prop} {px : SX → Prop} {B : S → State → Prop} {BX : String → SX → State → Prop} {AX : Nat → Prop} (hr : vx_Run p l e R s m args below meth c H locs cells slots mc ms (F0 m pc ls st0) rest (va_Qf post B A1 a) (vx_X px BX AX) free) (hS : va_S A0 H0 H locs) (hA : ∀ q, q < H.size → A1 q → A0 q) (hf : ∀ q, free q → A0 q) (hAX : ∀ q, q < H.size → AX q → A0 q)
    (kx : ∀ (E : String) (ce : Cell) (q9 : Addr) (u : SX) (t : State) (H1 : Heap) (locs1 : List Loc), t.heap = H1 → s.vm.Alike t.vm → px u → BX E u t → H.size ≤ H1.size → (∀ q : Nat, q < H.size → ¬ AX q → H1[q]? = H[q]?) → va_S A0 H0 H1 locs1 → H1[q9]? = some ce → ce.vm = .none → s.vm.findClass E = some ce.cls → vx_W p l e R s m args below meth c H1 locs1 (cells + mc) (slots + ms) Q (F0 m pc ls rest) q9)
    (kk : ∀ (r : UInt32) (u : S) (t : State) (H1 : Heap) (locs1 : List Loc), t.heap = H1 → s.vm.Alike t.vm → post r u → B u t → H.size ≤ H1.size → (∀ q : Nat, q < H.size → ¬ A1 q → H1[q]? = H[q]?) → va_S A0 H0 H1 locs1 → W p l e R s m args below meth c H1 locs1 (cells + mc) (slots + ms) Q (F0 m (pc + 3) ls (.float r :: rest))) : W p l e R s m args below meth c H locs cells slots Q (F0 m pc ls st0) := by
  intro T hT X
  rcases hr T hT X with ⟨v, st₀, t, T', L, h0, X', hL, e1, e2, ⟨⟨r, u, hv, hp, hb⟩, hF⟩, st⟩ | ⟨q, st₀, t, T', L, E, ce, h0, X', hL, e1, e2, ⟨u, hp, hb, hF⟩, hce, hcv, hcl, st⟩
  · cases hv
    obtain ⟨k1, k2, k3⟩ := vx_keep h0 e1 hS hA hf hL hF
    obtain ⟨t2, a1, b1⟩ := kk r u t T'.heap (locs ++ L) e1.symm (by rw [← e2]; exact X'.warmed.alike) hp hb k1 k2 k3 T' rfl X'
    exact ⟨t2, st t2 a1, b1⟩
  · obtain ⟨k1, k2, k3⟩ := vx_keep h0 e1 hS hAX hf hL hF
    obtain ⟨t2, a1, b1⟩ := kx E ce q u t T'.heap (locs ++ L) e1.symm (by rw [← e2]; exact X'.warmed.alike) hp hb k1 k2 k3 (by rw [e1]; exact hce) hcv hcl T' rfl X'
    exact ⟨t2, st.trans a1, b1⟩
theorem vx_calld {S SX : Type} {post : UInt64 → S → Prop} {px : SX → Prop} {B : S → State → Prop} {BX : String → SX → State → Prop} {AX : Nat → Prop} (hr : vx_Run p l e R s m args below meth c H locs cells slots mc ms (F0 m pc ls st0) rest (va_Qd post B A1 a) (vx_X px BX AX) free) (hS : va_S A0 H0 H locs) (hA : ∀ q, q < H.size → A1 q → A0 q) (hf : ∀ q, free q → A0 q) (hAX : ∀ q, q < H.size → AX q → A0 q)
    (kx : ∀ (E : String) (ce : Cell) (q9 : Addr) (u : SX) (t : State) (H1 : Heap) (locs1 : List Loc), t.heap = H1 → s.vm.Alike t.vm → px u → BX E u t → H.size ≤ H1.size → (∀ q : Nat, q < H.size → ¬ AX q → H1[q]? = H[q]?) → va_S A0 H0 H1 locs1 → H1[q9]? = some ce → ce.vm = .none → s.vm.findClass E = some ce.cls → vx_W p l e R s m args below meth c H1 locs1 (cells + mc) (slots + ms) Q (F0 m pc ls rest) q9)
    (kk : ∀ (r : UInt64) (u : S) (t : State) (H1 : Heap) (locs1 : List Loc), t.heap = H1 → s.vm.Alike t.vm → post r u → B u t → H.size ≤ H1.size → (∀ q : Nat, q < H.size → ¬ A1 q → H1[q]? = H[q]?) → va_S A0 H0 H1 locs1 → W p l e R s m args below meth c H1 locs1 (cells + mc) (slots + ms) Q (F0 m (pc + 3) ls (.double r :: rest))) : W p l e R s m args below meth c H locs cells slots Q (F0 m pc ls st0) := by
  intro T hT X
  rcases hr T hT X with ⟨v, st₀, t, T', L, h0, X', hL, e1, e2, ⟨⟨r, u, hv, hp, hb⟩, hF⟩, st⟩ | ⟨q, st₀, t, T', L, E, ce, h0, X', hL, e1, e2, ⟨u, hp, hb, hF⟩, hce, hcv, hcl, st⟩
  · cases hv
    obtain ⟨k1, k2, k3⟩ := vx_keep h0 e1 hS hA hf hL hF
    obtain ⟨t2, a1, b1⟩ := kk r u t T'.heap (locs ++ L) e1.symm (by rw [← e2]; exact X'.warmed.alike) hp hb k1 k2 k3 T' rfl X'
    exact ⟨t2, st t2 a1, b1⟩
  · obtain ⟨k1, k2, k3⟩ := vx_keep h0 e1 hS hAX hf hL hF
    obtain ⟨t2, a1, b1⟩ := kx E ce q u t T'.heap (locs ++ L) e1.symm (by rw [← e2]; exact X'.warmed.alike) hp hb k1 k2 k3 (by rw [e1]; exact hce) hcv hcl T' rfl X'
    exact ⟨t2, st.trans a1, b1⟩
theorem vx_callv {S SX : Type} {post : S → Prop} {px : SX → Prop} {B : S → State → Prop} {BX : String → SX → State → Prop} {AX : Nat → Prop} (hr : vx_Run p l e R s m args below meth c H locs cells slots mc ms (F0 m pc ls st0) rest (va_Qv post B A1 a) (vx_X px BX AX) free) (hS : va_S A0 H0 H locs) (hA : ∀ q, q < H.size → A1 q → A0 q) (hf : ∀ q, free q → A0 q) (hAX : ∀ q, q < H.size → AX q → A0 q)
    (kx : ∀ (E : String) (ce : Cell) (q9 : Addr) (u : SX) (t : State) (H1 : Heap) (locs1 : List Loc), t.heap = H1 → s.vm.Alike t.vm → px u → BX E u t → H.size ≤ H1.size → (∀ q : Nat, q < H.size → ¬ AX q → H1[q]? = H[q]?) → va_S A0 H0 H1 locs1 → H1[q9]? = some ce → ce.vm = .none → s.vm.findClass E = some ce.cls → vx_W p l e R s m args below meth c H1 locs1 (cells + mc) (slots + ms) Q (F0 m pc ls rest) q9)
    (kk : ∀ (u : S) (t : State) (H1 : Heap) (locs1 : List Loc), t.heap = H1 → s.vm.Alike t.vm → post u → B u t → H.size ≤ H1.size → (∀ q : Nat, q < H.size → ¬ A1 q → H1[q]? = H[q]?) → va_S A0 H0 H1 locs1 → W p l e R s m args below meth c H1 locs1 (cells + mc) (slots + ms) Q (F0 m (pc + 3) ls (rest))) : W p l e R s m args below meth c H locs cells slots Q (F0 m pc ls st0) := by
  intro T hT X
  rcases hr T hT X with ⟨v, st₀, t, T', L, h0, X', hL, e1, e2, ⟨⟨u, hv, hp, hb⟩, hF⟩, st⟩ | ⟨q, st₀, t, T', L, E, ce, h0, X', hL, e1, e2, ⟨u, hp, hb, hF⟩, hce, hcv, hcl, st⟩
  · cases hv
    obtain ⟨k1, k2, k3⟩ := vx_keep h0 e1 hS hA hf hL hF
    obtain ⟨t2, a1, b1⟩ := kk u t T'.heap (locs ++ L) e1.symm (by rw [← e2]; exact X'.warmed.alike) hp hb k1 k2 k3 T' rfl X'
    exact ⟨t2, st t2 a1, b1⟩
  · obtain ⟨k1, k2, k3⟩ := vx_keep h0 e1 hS hAX hf hL hF
    obtain ⟨t2, a1, b1⟩ := kx E ce q u t T'.heap (locs ++ L) e1.symm (by rw [← e2]; exact X'.warmed.alike) hp hb k1 k2 k3 (by rw [e1]; exact hce) hcv hcl T' rfl X'
    exact ⟨t2, st.trans a1, b1⟩
/-- caught by the row x of this method's table; the rows ahead don't take it -/
theorem vx_catch {own name : String} {E : String} {ce : Cell} {q : Addr} (hown : s.vm.findClass own = some m.cls) (pre : List ExceptionTableEntry) (x : ExceptionTableEntry) (suf : List ExceptionTableEntry) (hsplit : c.exceptionTable.toList = pre ++ x :: suf)
    (hpass : ∀ z ∈ pre, covers z pc = false ∨ (z.catchType ≠ 0 ∧ ∃ nm : String, (Cond.classLink own z.catchType nm).before args s = true ∧ va_Nc E nm s)) (hx : covers x pc = true) (h0 : x.catchType ≠ 0)
    (hlink : (Cond.classLink own x.catchType name).before args s = true) (hcast : (Cond.castable E name).before args s = true) (hcell : H[q]? = some ce) (hv : ce.vm = .none) (hcl : s.vm.findClass E = some ce.cls)
    (kk : W p l e R s m args below meth c H locs cells slots Q (F0 m x.handlerPc ls [.ref q])) : vx_W p l e R s m args below meth c H locs cells slots Q (F0 m pc ls rest) q := by
  intro T hT X
  have hpl : e.platform.magicAccessors = ({} : Platform).magicAccessors := by rw [X.admits.platform]
  obtain ⟨c3, c4, hc3, hc4, hasg⟩ := Cond.castable_spec hcast
  cases Option.some.inj (hc3.symm.trans hcl)
  obtain ⟨c5, hc5, hcl5⟩ := Cond.classLink_spec hown hlink e.platform hpl
  cases Option.some.inj (hc4.symm.trans hc5)
  obtain ⟨vm', X', st⟩ := X.thenCaughtThrough q (g := F0 m pc ls rest) rfl (Steps.refl _) (by rw [hT]; exact hcell) (by rw [hv]; rfl) (by obtain ⟨k9, h9, -⟩ := Vm.findClass_spec hcl; exact ⟨k9, h9⟩) pre x suf hsplit
    (fun z hz => by
      rcases hpass z hz with h | ⟨hz0, nm, hl1, hn1⟩
      · exact Or.inl h
      · obtain ⟨c6, hc6, hcl6⟩ := Cond.classLink_spec hown hl1 e.platform hpl
        obtain ⟨a8, b8, h1, h2, h3⟩ := hn1
        cases Option.some.inj (h1.symm.trans hcl)
        cases Option.some.inj (h2.symm.trans hc6)
        exact Or.inr ⟨hz0, _, hcl6, h3⟩) hx (Or.inr ⟨h0, c4, hcl5, hasg⟩)
  obtain ⟨t, a1, b1⟩ := kk (T.setVm vm') hT X'
  exact ⟨t, st.trans a1, b1⟩
end Rows
section Ends
variable {p : Program} {l : Launch} {e : Env} {R : Room} {s : State} {m : MethodId} {args : Array Value} {below : List Frame} {meth : Method} {c : Code} {H : Heap} {locs : List Loc} {cells slots : Nat} {Q : State → Prop}
variable {mc ms : Nat} {free : Addr → Prop} {A0 A1 : Nat → Prop} {H0 : Heap} {a : Array Value} {ls : Array Slot} {st0 rest : List Value}
variable {Qc : Array Value → State → Outcome → State → Prop} {XC : String → State → State → Prop}
/-- what a body that may throw owes at its end -/
def vx_MQ (below : List Frame) (Qc : Array Value → State → Outcome → State → Prop) (XC : String → State → State → Prop) (a : Array Value) (s : State) (mc ms : Nat) (free : Addr → Prop) : State → Prop := fun t =>
  ∃ o, t.status = .running ∧ Ended t below o ∧ vx_Q Qc XC mc ms free a s o t
theorem vx_ret {g : JFrame} {mc ms : Nat} (k : W p l e R s m args below meth c H locs cells slots (MQ below Qc args s mc ms free) g) : W p l e R s m args below meth c H locs cells slots (vx_MQ below Qc XC args s mc ms free) g := by
  intro T hT X
  obtain ⟨t, a1, o, b1, b2, b3, b4⟩ := k T hT X
  exact ⟨t, a1, o, b1, b2, Or.inl ⟨b3, b4⟩⟩
/-- not caught here: it goes on to the caller -/
theorem vx_widen {g : JFrame} {q : Addr} {k n : Nat} (h1 : cells ≤ k) (h2 : slots ≤ n) (kk : vx_W p l e R s m args below meth c H locs k n Q g q) : vx_W p l e R s m args below meth c H locs cells slots Q g q := fun T hT X => kk T hT (stand_widen X h1 h2)
theorem vx_out {pc : Nat} {E : String} {ce : Cell} {q : Addr} {mc ms : Nat} (hout : ∀ x ∈ c.exceptionTable.toList, covers x pc = false) (hlocks : meth.locks = false) (hcell : H[q]? = some ce) (hv : ce.vm = .none) (hcl : s.vm.findClass E = some ce.cls)
    (hx : ∀ t : State, t.heap = H → s.vm.Alike t.vm → XC E s t) (hf : ∀ z ∈ locs, free z.base) (hc : cells ≤ mc) (hs : slots ≤ ms) :
    vx_W p l e R s m args below meth c H locs cells slots (vx_MQ below Qc XC args s mc ms free) (F0 m pc ls rest) q := by
  intro T hT X
  obtain ⟨st1, hrun, hend, hW, hsm⟩ := X.leaveThrown q (g := F0 m pc ls rest) rfl rfl rfl hout hlocks
  have hcell9 : (T.setFrames (.throwing q :: below)).heap[q]? = some ce := by
    show T.heap[q]? = some ce
    rw [hT]; exact hcell
  exact ⟨_, st1, .threw q, hrun, hend, Or.inr ⟨q, rfl, E, ce, locs, hx _ hT hW.alike, hcell9, hv, hcl, hW, hsm.mono hc hs, hf⟩⟩
theorem vx_frame {U : State} {k n : Nat} (h : s.sameButNew ({ U with vm := s.vm } : State) locs k n) : s.heap.size ≤ U.heap.size ∧ ∀ q : Nat, q < s.heap.size → (∀ z ∈ locs, z.base ≠ q) → U.heap[q]? = s.heap[q]? := by
  obtain ⟨-, h2, -, -, -, h6⟩ := h
  refine ⟨h2, fun q hq hz => ?_⟩
  obtain ⟨c9, e1, e2, e3, e4⟩ := h6 q _ (Array.getElem?_eq_getElem hq)
  have hs : c9.slots = (s.heap[q]).slots := Array.ext_getElem? fun i => e4 i fun hm => hz _ hm rfl
  have h9 : c9 = s.heap[q] := by
    rw [hs] at e2
    exact e2
  have e5 : U.heap[q]? = some c9 := e1
  rw [e5, h9, Array.getElem?_eq_getElem hq]
/-- the words of a throw but the four that speak of the heap -/
def vx_no (w : Cond) : Bool := decide (w ≠ .isRef (.static Bundle.tN "UNASSIGNED_STACK" Bundle.steD)) && decide (w ≠ .isRef (.static Bundle.tN "SUPPRESSED_SENTINEL" Bundle.listD)) && decide (w ≠ .laysStatic Bundle.tN "UNASSIGNED_STACK" Bundle.steD) && decide (w ≠ .laysStatic Bundle.tN "SUPPRESSED_SENTINEL" Bundle.listD)
def vx_at0 (own : String) (ic : Nat) (X : String) (names : List String) : List Cond := (Bundle.ownAtoms0 own ic X names).filter vx_no
def vx_atS (own : String) (ic : Nat) (X : String) (names : List String) : List Cond := (Bundle.ownAtoms own ic X names).filter vx_no
/-- a word that the tables alone decide, or a good one -/
def vx_ot (w : Cond) : Bool := w.onTables || goodWord w
theorem vx_ot_at {args a' : Array Value} {s U : State} {w : Cond} (hW : s.WarmedH U.vm) (hvm : s.vm = U.vm) (hg : vx_ot w = true) (h : w.before args s = true) : w.before a' U = true := by
  simp only [vx_ot, Bool.or_eq_true] at hg
  rcases hg with hg | hg
  · exact va_tabs hg hvm h
  · exact word_at hW (good_of_word hg) h
/-- a list's words: the good ones out of the method's own list, the others by premises of their own -/
theorem vx_hat {args : Array Value} {s : State} {L B : List Cond} (h1 : ∀ w ∈ L.filter goodWord, w.before args s = true) (h2 : ∀ w ∈ L.filter (fun w => !goodWord w), w ∈ B) (h3 : ∀ w ∈ B, w.before args s = true) : ∀ w ∈ L, w.before args s = true := by
  intro w hw
  by_cases g : goodWord w = true
  · exact h1 w (List.mem_filter.mpr ⟨hw, g⟩)
  · refine h3 w (h2 w (List.mem_filter.mpr ⟨hw, ?_⟩))
    show (!goodWord w) = true
    cases hgw : goodWord w
    · rfl
    · exact absurd hgw g
theorem vx_c {args : Array Value} {s : State} {w : Cond} {B : List Cond} (h : w.before args s = true) (t : ∀ w ∈ B, w.before args s = true) : ∀ w' ∈ w :: B, w'.before args s = true := fun w' h' => (List.mem_cons.mp h').elim (fun e => by rw [e]; exact h) (t w')
theorem vx_n {args : Array Value} {s : State} : ∀ w ∈ ([] : List Cond), w.before args s = true := fun _ h => nomatch h
theorem vx_own {args : Array Value} {s : State} {L : List Cond} (h1 : ∀ w ∈ L.filter vx_no, w.before args s = true)
    (hU : (Cond.isRef (.static Bundle.tN "UNASSIGNED_STACK" Bundle.steD)).before args s = true) (hN : (Cond.isRef (.static Bundle.tN "SUPPRESSED_SENTINEL" Bundle.listD)).before args s = true)
    (lU : (Cond.laysStatic Bundle.tN "UNASSIGNED_STACK" Bundle.steD).before args s = true) (lN : (Cond.laysStatic Bundle.tN "SUPPRESSED_SENTINEL" Bundle.listD).before args s = true) : ∀ w ∈ L, w.before args s = true := by
  intro w hw
  by_cases e1 : w = .isRef (.static Bundle.tN "UNASSIGNED_STACK" Bundle.steD)
  · rw [e1]; exact hU
  · by_cases e2 : w = .isRef (.static Bundle.tN "SUPPRESSED_SENTINEL" Bundle.listD)
    · rw [e2]; exact hN
    · by_cases e3 : w = .laysStatic Bundle.tN "UNASSIGNED_STACK" Bundle.steD
      · rw [e3]; exact lU
      · by_cases e4 : w = .laysStatic Bundle.tN "SUPPRESSED_SENTINEL" Bundle.listD
        · rw [e4]; exact lN
        · exact h1 w (List.mem_filter.mpr ⟨hw, by unfold vx_no; rw [decide_eq_true e1, decide_eq_true e2, decide_eq_true e3, decide_eq_true e4]; rfl⟩)
/-- where a static field lies, its class's statics cell in H -/
def vx_L (C n d : String) (A : Nat → Prop) (U : State) (H : Heap) : Prop := ∃ (c : ClassId) (k : Class) (i : Nat) (f : Field) (a : Nat) (cell : Cell), U.vm.findClass C = some c ∧ U.fieldFound? C n d = some (c, k, i, f) ∧ f.isStatic = true ∧ k.statics = some a ∧ H[a]? = some cell ∧ cell.vm.isStatics = true ∧ cell.cls = c ∧ f.slot < cell.slots.size ∧ k.staticTypes[f.slot]? = some f.type ∧ ¬ A a
theorem vx_L.moved {C n d : String} {A : Nat → Prop} {u U : State} {H : Heap} (hvm : u.vm.Alike U.vm) (h : vx_L C n d A u H) : vx_L C n d A U H := by
  obtain ⟨c, k, i, f, a, cell, h1, h2, h3, h4, h5, h6, h7, h8, h9, h10⟩ := h
  obtain ⟨k', hi', he⟩ := State.fieldFound?_setVm hvm h2
  exact ⟨c, k', i, f, a, cell, by rw [hvm.findClass]; exact h1, hi', h3, by rw [he]; exact h4, h5, h6, h7, h8, by rw [he]; exact h9, h10⟩
theorem vx_L.kept {C n d : String} {A : Nat → Prop} {U : State} {H H1 : Heap} (h : vx_L C n d A U H) (hq : ∀ a : Nat, a < H.size → ¬ A a → H1[a]? = H[a]?) : vx_L C n d A U H1 := by
  obtain ⟨c, k, i, f, a, cell, h1, h2, h3, h4, h5, h6, h7, h8, h9, h10⟩ := h
  exact ⟨c, k, i, f, a, cell, h1, h2, h3, h4, by rw [hq a (Array.getElem?_eq_some_iff.mp h5).1 h10]; exact h5, h6, h7, h8, h9, h10⟩
theorem vx_L.narrow {C n d : String} {A B : Nat → Prop} {U : State} {H : Heap} (h : vx_L C n d A U H) (hAB : ∀ q, B q → A q) : vx_L C n d B U H := by
  obtain ⟨c, k, i, f, a, cell, h1, h2, h3, h4, h5, h6, h7, h8, h9, h10⟩ := h
  exact ⟨c, k, i, f, a, cell, h1, h2, h3, h4, h5, h6, h7, h8, h9, fun z => h10 (hAB _ z)⟩
theorem vx_L.word {C n d : String} {A : Nat → Prop} {s : State} {args : Array Value} (h : vx_L C n d A s s.heap) : (Cond.laysStatic C n d).before args s = true := by
  obtain ⟨c, k, i, f, a, cell, h1, h2, h3, h4, h5, h6, h7, h8, h9, -⟩ := h
  show (Cond.laysStatic C n d).holds args s none s [] = true
  exact Cond.laysStatic_of h1 h2 h3 h4 h5 h6 h7 h8 h9
/-- .. and what it holds: null or some reference -/
def vx_Zq (C n d : String) (A : Nat → Prop) (U : State) (H : Heap) : Prop := va_Zq C n d A U H ∧ vx_L C n d A U H
theorem vx_Zq.moved {C n d : String} {A : Nat → Prop} {u U : State} {H : Heap} (hvm : u.vm.Alike U.vm) (h : vx_Zq C n d A u H) : vx_Zq C n d A U H := ⟨va_Zq.moved hvm h.1, vx_L.moved hvm h.2⟩
theorem vx_Zq.kept {C n d : String} {A : Nat → Prop} {U : State} {H H1 : Heap} (h : vx_Zq C n d A U H) (hq : ∀ a : Nat, a < H.size → ¬ A a → H1[a]? = H[a]?) : vx_Zq C n d A U H1 := ⟨va_Zq.kept h.1 hq, vx_L.kept h.2 hq⟩
theorem vx_Zq.narrow {C n d : String} {A B : Nat → Prop} {U : State} {H : Heap} (h : vx_Zq C n d A U H) (hAB : ∀ q, B q → A q) : vx_Zq C n d B U H := ⟨va_Zq.narrow h.1 hAB, vx_L.narrow h.2 hAB⟩
theorem vx_Zqof {args : Array Value} {s : State} {C n d : String} {A : Nat → Prop} (hl : (Cond.laysStatic C n d).before args s = true) (hini : (Cond.initialized C).before args s = true) (h : (Cond.isRef (.static C n d)).before args s = true) (hA : ∀ a : Nat, a < s.heap.size → ¬ A a) : vx_Zq C n d A s s.heap := by
  refine ⟨va_Zqof hl hini h hA, ?_⟩
  obtain ⟨c, k, i, f, a, cell, h1, h2, h3, h4, h5, h6, h7, h8, h9⟩ := Cond.laysStatic_spec hl
  exact ⟨c, k, i, f, a, cell, h1, h2, h3, h4, h5, h6, h7, h8, h9, hA a (Array.getElem?_eq_some_iff.mp h5).1⟩
theorem vx_isRef {C n d : String} {v : Value} {A : Nat → Prop} {s : State} {args : Array Value} (h : va_Z C n d v A s s.heap) (hv : v.isRef = true) : (Cond.isRef (.static C n d)).before args s = true := by
  obtain ⟨cf, kf, fi, f, a, cell, h1, h2, h3, h4, h5, h6, h7, -⟩ := h
  have he : (Term.static C n d).eval args s none [] s = some v := by
    simp [Term.eval, State.fieldNamed?, h1, h2, h4, h5, h6, h7]
  simp only [Cond.before, Cond.holds, Cond.value, he]
  cases v <;> simp_all [Value.isRef]
theorem vx_isRefq {C n d : String} {A : Nat → Prop} {s : State} {args : Array Value} (h : va_Zq C n d A s s.heap) : (Cond.isRef (.static C n d)).before args s = true := by
  rcases h with h | ⟨t, h⟩
  · exact vx_isRef h rfl
  · exact vx_isRef h rfl
/-- the same frame, seen from here: as if the method were called anew in this heap -/
theorem vx_rebase {T : State} (X : Stand p l e R s m args below meth c T locs cells slots) {R' : Room} (hf : R'.frames ≤ R.frames) (hl : R'.locals ≤ R.locals) (hc : cells + R'.cells ≤ R.cells) (hs : slots + R'.slots ≤ R.slots) :
    Stand p l e R' ((T.setVm s.vm).setFrames (.invoking m args :: below)) m args below meth c T [] 0 0 := by
  have htop : (T.setVm s.vm).topJava?.isSome := X.here.top
  have hF : ((T.setVm s.vm).setFrames (.invoking m args :: below)).frames = .invoking m args :: below := State.frames_setFrames _ (State.cur_lt_of_top htop)
  obtain ⟨g₀, hg0⟩ := Option.isSome_iff_exists.mp htop
  obtain ⟨r, hr⟩ := State.topJava?_eq_some.mp hg0
  have hl9 : e.platform.stackLimits (T.setVm s.vm).me = e.platform.stackLimits s.me := X.limits
  have hb9 : (T.setVm s.vm).me.stackBytes = s.me.stackBytes := X.bytes
  refine ⟨X.admits, X.cas, X.clock, hF, ?_, X.hears, X.method, X.code, X.here, X.tail, X.warmed, ?_, ?_, ?_⟩
  · have h := X.room
    have hU : ((T.setVm s.vm).setFrames (.invoking m args :: below)).localsInUse = s.localsInUse := by
      rw [State.localsInUse_invoking hF (meth := meth) (c := c) X.method X.code, State.localsInUse_invoking X.frames X.method X.code]
    simp only [State.hasRoom, Bool.and_eq_true, decide_eq_true_eq] at h ⊢
    obtain ⟨⟨⟨⟨h1, h2, h3, h4, h5, h6⟩, h7⟩, h8⟩, h9⟩ := h
    rw [X.frames, List.length_cons] at h2 h3
    have q1 := X.heapSize
    have q2 := X.used
    simp only [hF, hU, List.length_cons, State.stackLimits_setFrames, State.stackBytes_setFrames, hl9, hb9]
    refine ⟨⟨⟨⟨by omega, by omega, by omega, by omega, by omega, h6⟩, ?_⟩, ?_⟩, X.book⟩
    · show T.heap.size + R'.cells ≤ e.platform.maxCells
      omega
    · show T.slotsUsed + R'.slots ≤ e.platform.maxSlots
      omega
  · rw [State.stackLimits_setFrames]; rfl
  · rw [State.stackBytes_setFrames]; rfl
  · refine ⟨?_, Nat.le_refl _, Nat.le_refl _, ?_, ?_, fun a c9 h9 => ⟨c9, h9, rfl, rfl, fun _ _ => rfl⟩⟩
    · obtain ⟨t, ht, -⟩ := State.frames_cons hr
      show T.setVm s.vm = { ((T.setVm s.vm).setFrames (.invoking m args :: below)).setFrames (T.setVm s.vm).frames with heap := T.heap, slotsUsed := T.slotsUsed }
      rw [State.setFrames_setFrames, State.setFrames_self ht]
      rfl
    · show T.slotsUsed = T.slotsUsed + ((T.heap.toList.drop T.heap.size).map (·.slots.size)).sum
      rw [List.drop_eq_nil_of_le (Nat.le_of_eq Array.length_toList)]
      rfl
    · show ((T.heap.toList.drop T.heap.size).map (·.slots.size)).sum ≤ 0
      rw [List.drop_eq_nil_of_le (Nat.le_of_eq Array.length_toList)]
      exact Nat.le_refl _
/-- 'throw new E()': new; dup; invokespecial; athrow -/
theorem vx_throw0 {cc : ByteArray} {pc : Nat} (hexec : p.tables.exec = Jvm.exec) (hb : c.code = cc) (hl : l.stackTraces = false) {own cls : String} {names : List String} {ik ic mc ms : Nat} {A : Nat → Prop}
    (hown : s.vm.findClass own = some m.cls) (hcls : Bundle.fit cls = true) (hnames : ∀ n ∈ names, Bundle.fit n = true)
    (hk : (Cond.classLink own ik cls).before args s = true) (hini : (Cond.initialized cls).before args s = true) (hat : ∀ w ∈ vx_at0 own ic cls names, w.before args s = true)
    (hgood : ∀ w ∈ Cond.classLink own ik cls :: Cond.initialized cls :: vx_at0 own ic cls names, vx_ot w = true)
    (hU : vx_Zq Bundle.tN "UNASSIGNED_STACK" Bundle.steD A s s.heap) (hN : vx_Zq Bundle.tN "SUPPRESSED_SENTINEL" Bundle.listD A s s.heap) (hS : va_S A s.heap H locs) (hsize : ls.size = c.maxLocals)
    (d0 : decode cc pc = .ok (.new ik, 3)) (d3 : decode cc (pc + 3) = .ok (.dup, 1)) (d4 : decode cc (pc + 4) = .ok (.invokespecial ic, 3)) (d7 : decode cc (pc + 7) = .ok (.athrow, 1))
    (hout : ∀ x ∈ c.exceptionTable.toList, covers x (pc + 7) = false)
    (hRframes : names.length + 3 < R.frames) (hRlocals : (rest.map fun v => v.category).sum + (13 * (names.length + 1) + 42) ≤ R.locals) (hRcells : cells + 1 ≤ R.cells) (hRslots : slots + 6 ≤ R.slots) (hlocks : meth.locks = false)
    (hx : ∀ t : State, s.vm.Alike t.vm → H.size ≤ t.heap.size → (∀ q : Nat, q < H.size → t.heap[q]? = H[q]?) → XC cls s t)
    (hf : ∀ z ∈ locs, free z.base) (hc : cells + 1 ≤ mc) (hs : slots + 6 ≤ ms) :
    W p l e R s m args below meth c H locs cells slots (vx_MQ below Qc XC args s mc ms free) (F0 m pc ls rest) := by
  intro T hT X
  have htr : e.platform.stackTraces = false := (show e.platform.stackTraces = l.stackTraces by rw [X.admits.platform]).trans hl
  have Y := vx_rebase X (R' := { frames := R.frames, locals := R.locals, cells := 1, slots := 6 }) (Nat.le_refl _) (Nat.le_refl _) hRcells hRslots
  obtain ⟨s', hA⟩ : ∃ z, z = (T.setVm s.vm).setFrames (.invoking m args :: below) := ⟨_, rfl⟩
  rw [← hA] at Y
  have hvm : s'.vm = s.vm := by rw [hA]; rfl
  have hhp : s'.heap = H := by rw [hA]; exact hT
  have hW0 : s.WarmedH s'.vm := by rw [hvm]; exact State.WarmedH.refl s
  have hat' : ∀ w ∈ vx_at0 own ic cls names, w.before args s' = true := fun w hw => vx_ot_at hW0 hvm.symm (hgood w (List.mem_cons_of_mem _ (List.mem_cons_of_mem _ hw))) (hat w hw)
  have hk' : (Cond.classLink own ik cls).before args s' = true := vx_ot_at hW0 hvm.symm (hgood _ List.mem_cons_self) hk
  have hini' : (Cond.initialized cls).before args s' = true := vx_ot_at hW0 hvm.symm (hgood _ (List.mem_cons_of_mem _ List.mem_cons_self)) hini
  have hU' : vx_Zq Bundle.tN "UNASSIGNED_STACK" Bundle.steD A s' s'.heap := by rw [hhp]; exact vx_Zq.moved hW0.alike (hU.kept hS.2.1)
  have hN' : vx_Zq Bundle.tN "SUPPRESSED_SENTINEL" Bundle.listD A s' s'.heap := by rw [hhp]; exact vx_Zq.moved hW0.alike (hN.kept hS.2.1)
  have h : ∀ w ∈ Bundle.ownAtoms0 own ic cls names, w.before args s' = true := vx_own hat' (vx_isRefq hU'.1) (vx_isRefq hN'.1) hU'.2.word hN'.2.word
  have hown' : s'.vm.findClass own = some m.cls := by rw [hvm]; exact hown
  have hins : (Cond.instantiable cls 6).before args s' = true := h _ (by simp [Bundle.ownAtoms0])
  obtain ⟨vm₁, cX, kX, hfX, hkX, -, -, X₁, st1⟩ := Y.newCold hexec (own := own) (C := cls) (index := ik) (n := 6) hown' hk' hins hini'
    (g := F0 m pc ls rest) rfl (by rw [hb]; exact d0) (Nat.le_refl _) (Nat.le_refl _)
  generalize hT1 : (T.setVm vm₁).pushCell { cls := cX, slots := kX.instanceTypes.map defaultValue, vm := .none } = T1 at X₁ st1
  have hcat : (Value.ref T.heap.size).category = 1 := rfl
  have hcellA : T1.heap[T.heap.size]? = some (freshCell cX kX) := by rw [← hT1]; exact State.heap_pushCell_size _ _
  have d3' : decode c.code (pc + 3) = .ok (.dup, 1) := by rw [hb]; exact d3
  obtain ⟨U, hsteps, hrun, hend, hW, hsame, ce, hce, hO⟩ := X₁.ctorThrow0 hexec htr (own := own) (cls := cls) (names := names) (ic := ic) hown' hcls hnames h (fun x hx => nomatch hx) hfX hkX hcellA (by rw [hhp, hT]; exact Nat.le_refl _)
    (g := { method := m, pc := pc + 4, locals := ls, stack := .ref T.heap.size :: .ref T.heap.size :: rest, locked := none }) rfl hsize rfl rfl (rest := rest) rfl
    (by rw [hb]; exact d4) (by rw [hb]; exact d7) hout hRframes (by simp only [List.map_cons, List.sum_cons, hcat]; omega) hlocks
  obtain ⟨f1, f2⟩ := vx_frame hsame
  rw [hhp] at f1 f2
  have hWs : s.WarmedH U.vm := State.WarmedH.trans hW0 hW
  have hcl : s.vm.findClass cls = some ce.cls := by
    have h9 := hO.cls
    rw [hvm] at h9
    exact h9
  have hall : s.sameButNew ({ U with vm := s.vm } : State) locs mc ms := by
    subst hA
    obtain ⟨e1, e2⟩ := hsame
    rw [State.setFrames_setFrames] at e1
    have h2 : (T.setVm s.vm).sameButNew ({ U with vm := s.vm } : State) [] (0 + 1) (0 + 6) := ⟨e1, e2⟩
    have h3 := X.same.trans h2
    rw [List.append_nil] at h3
    exact h3.mono hc hs
  refine ⟨U, ?_, .threw T.heap.size, hrun, hend, Or.inr ⟨T.heap.size, rfl, cls, ce, locs, hx U hWs.alike f1 (fun q hq => f2 q hq (fun z hz => nomatch hz)), hce, hO.vm, hcl, hWs, hall, hf⟩⟩
  refine st1 _ ?_
  show Steps p.tables e below (T1.setTop { method := m, pc := pc + 3, locals := ls, stack := .ref T.heap.size :: rest, locked := none }) _
  jvm_step X₁.here [X₁.here.top, hexec, d3', Value.category]
  exact hsteps
/-- 'throw new E("text")': new; dup; ldc; invokespecial; athrow -/
theorem vx_throwS {cc : ByteArray} {pc : Nat} (hexec : p.tables.exec = Jvm.exec) (hb : c.code = cc) (hl : l.stackTraces = false) {own cls text : String} {names : List String} {ik is ic mc ms sa : Nat} {A : Nat → Prop}
    (hown : s.vm.findClass own = some m.cls) (hcls : Bundle.fit cls = true) (hnames : ∀ n ∈ names, Bundle.fit n = true)
    (hk : (Cond.classLink own ik cls).before args s = true) (hini : (Cond.initialized cls).before args s = true) (hstr : vk_R own is text sa s) (hat : ∀ w ∈ vx_atS own ic cls names, w.before args s = true)
    (hgood : ∀ w ∈ Cond.classLink own ik cls :: Cond.initialized cls :: vx_atS own ic cls names, vx_ot w = true)
    (hU : vx_Zq Bundle.tN "UNASSIGNED_STACK" Bundle.steD A s s.heap) (hN : vx_Zq Bundle.tN "SUPPRESSED_SENTINEL" Bundle.listD A s s.heap) (hS : va_S A s.heap H locs) (hsize : ls.size = c.maxLocals)
    (d0 : decode cc pc = .ok (.new ik, 3)) (d3 : decode cc (pc + 3) = .ok (.dup, 1)) (d4 : decode cc (pc + 4) = .ok (.ldc is, 2)) (d6 : decode cc (pc + 6) = .ok (.invokespecial ic, 3)) (d9 : decode cc (pc + 9) = .ok (.athrow, 1))
    (hout : ∀ x ∈ c.exceptionTable.toList, covers x (pc + 9) = false)
    (hRframes : names.length + 3 < R.frames) (hRlocals : (rest.map fun v => v.category).sum + (13 * (names.length + 1) + 43) ≤ R.locals) (hRcells : cells + 1 ≤ R.cells) (hRslots : slots + 6 ≤ R.slots) (hlocks : meth.locks = false)
    (hx : ∀ t : State, s.vm.Alike t.vm → H.size ≤ t.heap.size → (∀ q : Nat, q < H.size → t.heap[q]? = H[q]?) → XC cls s t)
    (hf : ∀ z ∈ locs, free z.base) (hc : cells + 1 ≤ mc) (hs : slots + 6 ≤ ms) :
    W p l e R s m args below meth c H locs cells slots (vx_MQ below Qc XC args s mc ms free) (F0 m pc ls rest) := by
  intro T hT X
  have htr : e.platform.stackTraces = false := (show e.platform.stackTraces = l.stackTraces by rw [X.admits.platform]).trans hl
  have Y := vx_rebase X (R' := { frames := R.frames, locals := R.locals, cells := 1, slots := 6 }) (Nat.le_refl _) (Nat.le_refl _) hRcells hRslots
  obtain ⟨s', hA⟩ : ∃ z, z = (T.setVm s.vm).setFrames (.invoking m args :: below) := ⟨_, rfl⟩
  rw [← hA] at Y
  have hvm : s'.vm = s.vm := by rw [hA]; rfl
  have hhp : s'.heap = H := by rw [hA]; exact hT
  have hW0 : s.WarmedH s'.vm := by rw [hvm]; exact State.WarmedH.refl s
  have hat' : ∀ w ∈ vx_atS own ic cls names, w.before args s' = true := fun w hw => vx_ot_at hW0 hvm.symm (hgood w (List.mem_cons_of_mem _ (List.mem_cons_of_mem _ hw))) (hat w hw)
  have hk' : (Cond.classLink own ik cls).before args s' = true := vx_ot_at hW0 hvm.symm (hgood _ List.mem_cons_self) hk
  have hini' : (Cond.initialized cls).before args s' = true := vx_ot_at hW0 hvm.symm (hgood _ (List.mem_cons_of_mem _ List.mem_cons_self)) hini
  have hU' : vx_Zq Bundle.tN "UNASSIGNED_STACK" Bundle.steD A s' s'.heap := by rw [hhp]; exact vx_Zq.moved hW0.alike (hU.kept hS.2.1)
  have hN' : vx_Zq Bundle.tN "SUPPRESSED_SENTINEL" Bundle.listD A s' s'.heap := by rw [hhp]; exact vx_Zq.moved hW0.alike (hN.kept hS.2.1)
  have h : ∀ w ∈ Bundle.ownAtoms own ic cls names, w.before args s' = true := vx_own hat' (vx_isRefq hU'.1) (vx_isRefq hN'.1) hU'.2.word hN'.2.word
  have hown' : s'.vm.findClass own = some m.cls := by rw [hvm]; exact hown
  have hins : (Cond.instantiable cls 6).before args s' = true := h _ (by simp [Bundle.ownAtoms])
  obtain ⟨vm₁, cX, kX, hfX, hkX, -, -, X₁, st1⟩ := Y.newCold hexec (own := own) (C := cls) (index := ik) (n := 6) hown' hk' hins hini'
    (g := F0 m pc ls rest) rfl (by rw [hb]; exact d0) (Nat.le_refl _) (Nat.le_refl _)
  generalize hT1 : (T.setVm vm₁).pushCell { cls := cX, slots := kX.instanceTypes.map defaultValue, vm := .none } = T1 at X₁ st1
  have hcat : (Value.ref T.heap.size).category = 1 := rfl
  have hcellA : T1.heap[T.heap.size]? = some (freshCell cX kX) := by rw [← hT1]; exact State.heap_pushCell_size _ _
  have d3' : decode c.code (pc + 3) = .ok (.dup, 1) := by rw [hb]; exact d3
  have d4' : decode c.code (pc + 4) = .ok (.ldc is, 2) := by rw [hb]; exact d4
  have hstr' : vk_R own is text sa s' := vk_R.warm hW0 hstr
  obtain ⟨U, hsteps, hrun, hend, hW, hsame, ce, hce, hO⟩ := X₁.ctorThrowS hexec htr (own := own) (cls := cls) (names := names) (ic := ic) hown' hcls hnames h (fun x hx => nomatch hx) hfX hkX hcellA (by rw [hhp, hT]; exact Nat.le_refl _) (msg := .ref sa) rfl
    (g := { method := m, pc := pc + 6, locals := ls, stack := .ref sa :: .ref T.heap.size :: .ref T.heap.size :: rest, locked := none }) rfl hsize rfl rfl (rest := rest) rfl
    (by rw [hb]; exact d6) (by rw [hb]; exact d9) hout hRframes (by simp only [List.map_cons, List.sum_cons, hcat]; omega) hlocks
  obtain ⟨f1, f2⟩ := vx_frame hsame
  rw [hhp] at f1 f2
  have hWs : s.WarmedH U.vm := State.WarmedH.trans hW0 hW
  have hcl : s.vm.findClass cls = some ce.cls := by
    have h9 := hO.cls
    rw [hvm] at h9
    exact h9
  have hall : s.sameButNew ({ U with vm := s.vm } : State) locs mc ms := by
    subst hA
    obtain ⟨e1, e2⟩ := hsame
    rw [State.setFrames_setFrames] at e1
    have h2 : (T.setVm s.vm).sameButNew ({ U with vm := s.vm } : State) [] (0 + 1) (0 + 6) := ⟨e1, e2⟩
    have h3 := X.same.trans h2
    rw [List.append_nil] at h3
    exact h3.mono hc hs
  refine ⟨U, ?_, .threw T.heap.size, hrun, hend, Or.inr ⟨T.heap.size, rfl, cls, ce, locs, hx U hWs.alike f1 (fun q hq => f2 q hq (fun z hz => nomatch hz)), hce, hO.vm, hcl, hWs, hall, hf⟩⟩
  refine st1 _ ?_
  show Steps p.tables e below (T1.setTop { method := m, pc := pc + 3, locals := ls, stack := .ref T.heap.size :: rest, locked := none }) _
  jvm_step X₁.here [X₁.here.top, hexec, d3', Value.category]
  exact X₁.ldcString hexec (own := own) (text := text) (index := is) (a := sa) hown' hstr'.1 hstr'.2
    (g := { method := m, pc := pc + 4, locals := ls, stack := .ref T.heap.size :: .ref T.heap.size :: rest, locked := none }) rfl d4' _ hsteps
/-- 'throw new E("text")', the text by a wide index -/
theorem vx_throwSW {cc : ByteArray} {pc : Nat} (hexec : p.tables.exec = Jvm.exec) (hb : c.code = cc) (hl : l.stackTraces = false) {own cls text : String} {names : List String} {ik is ic mc ms sa : Nat} {A : Nat → Prop}
    (hown : s.vm.findClass own = some m.cls) (hcls : Bundle.fit cls = true) (hnames : ∀ n ∈ names, Bundle.fit n = true)
    (hk : (Cond.classLink own ik cls).before args s = true) (hini : (Cond.initialized cls).before args s = true) (hstr : vk_R own is text sa s) (hat : ∀ w ∈ vx_atS own ic cls names, w.before args s = true)
    (hgood : ∀ w ∈ Cond.classLink own ik cls :: Cond.initialized cls :: vx_atS own ic cls names, vx_ot w = true)
    (hU : vx_Zq Bundle.tN "UNASSIGNED_STACK" Bundle.steD A s s.heap) (hN : vx_Zq Bundle.tN "SUPPRESSED_SENTINEL" Bundle.listD A s s.heap) (hS : va_S A s.heap H locs) (hsize : ls.size = c.maxLocals)
    (d0 : decode cc pc = .ok (.new ik, 3)) (d3 : decode cc (pc + 3) = .ok (.dup, 1)) (d4 : decode cc (pc + 4) = .ok (.ldc_w is, 3)) (d7 : decode cc (pc + 7) = .ok (.invokespecial ic, 3)) (d10 : decode cc (pc + 10) = .ok (.athrow, 1))
    (hout : ∀ x ∈ c.exceptionTable.toList, covers x (pc + 10) = false)
    (hRframes : names.length + 3 < R.frames) (hRlocals : (rest.map fun v => v.category).sum + (13 * (names.length + 1) + 43) ≤ R.locals) (hRcells : cells + 1 ≤ R.cells) (hRslots : slots + 6 ≤ R.slots) (hlocks : meth.locks = false)
    (hx : ∀ t : State, s.vm.Alike t.vm → H.size ≤ t.heap.size → (∀ q : Nat, q < H.size → t.heap[q]? = H[q]?) → XC cls s t)
    (hf : ∀ z ∈ locs, free z.base) (hc : cells + 1 ≤ mc) (hs : slots + 6 ≤ ms) :
    W p l e R s m args below meth c H locs cells slots (vx_MQ below Qc XC args s mc ms free) (F0 m pc ls rest) := by
  intro T hT X
  have htr : e.platform.stackTraces = false := (show e.platform.stackTraces = l.stackTraces by rw [X.admits.platform]).trans hl
  have Y := vx_rebase X (R' := { frames := R.frames, locals := R.locals, cells := 1, slots := 6 }) (Nat.le_refl _) (Nat.le_refl _) hRcells hRslots
  obtain ⟨s', hA⟩ : ∃ z, z = (T.setVm s.vm).setFrames (.invoking m args :: below) := ⟨_, rfl⟩
  rw [← hA] at Y
  have hvm : s'.vm = s.vm := by rw [hA]; rfl
  have hhp : s'.heap = H := by rw [hA]; exact hT
  have hW0 : s.WarmedH s'.vm := by rw [hvm]; exact State.WarmedH.refl s
  have hat' : ∀ w ∈ vx_atS own ic cls names, w.before args s' = true := fun w hw => vx_ot_at hW0 hvm.symm (hgood w (List.mem_cons_of_mem _ (List.mem_cons_of_mem _ hw))) (hat w hw)
  have hk' : (Cond.classLink own ik cls).before args s' = true := vx_ot_at hW0 hvm.symm (hgood _ List.mem_cons_self) hk
  have hini' : (Cond.initialized cls).before args s' = true := vx_ot_at hW0 hvm.symm (hgood _ (List.mem_cons_of_mem _ List.mem_cons_self)) hini
  have hU' : vx_Zq Bundle.tN "UNASSIGNED_STACK" Bundle.steD A s' s'.heap := by rw [hhp]; exact vx_Zq.moved hW0.alike (hU.kept hS.2.1)
  have hN' : vx_Zq Bundle.tN "SUPPRESSED_SENTINEL" Bundle.listD A s' s'.heap := by rw [hhp]; exact vx_Zq.moved hW0.alike (hN.kept hS.2.1)
  have h : ∀ w ∈ Bundle.ownAtoms own ic cls names, w.before args s' = true := vx_own hat' (vx_isRefq hU'.1) (vx_isRefq hN'.1) hU'.2.word hN'.2.word
  have hown' : s'.vm.findClass own = some m.cls := by rw [hvm]; exact hown
  have hins : (Cond.instantiable cls 6).before args s' = true := h _ (by simp [Bundle.ownAtoms])
  obtain ⟨vm₁, cX, kX, hfX, hkX, -, -, X₁, st1⟩ := Y.newCold hexec (own := own) (C := cls) (index := ik) (n := 6) hown' hk' hins hini'
    (g := F0 m pc ls rest) rfl (by rw [hb]; exact d0) (Nat.le_refl _) (Nat.le_refl _)
  generalize hT1 : (T.setVm vm₁).pushCell { cls := cX, slots := kX.instanceTypes.map defaultValue, vm := .none } = T1 at X₁ st1
  have hcat : (Value.ref T.heap.size).category = 1 := rfl
  have hcellA : T1.heap[T.heap.size]? = some (freshCell cX kX) := by rw [← hT1]; exact State.heap_pushCell_size _ _
  have d3' : decode c.code (pc + 3) = .ok (.dup, 1) := by rw [hb]; exact d3
  have d4' : decode c.code (pc + 4) = .ok (.ldc_w is, 3) := by rw [hb]; exact d4
  have hstr' : vk_R own is text sa s' := vk_R.warm hW0 hstr
  obtain ⟨U, hsteps, hrun, hend, hW, hsame, ce, hce, hO⟩ := X₁.ctorThrowS hexec htr (own := own) (cls := cls) (names := names) (ic := ic) hown' hcls hnames h (fun x hx => nomatch hx) hfX hkX hcellA (by rw [hhp, hT]; exact Nat.le_refl _) (msg := .ref sa) rfl
    (g := { method := m, pc := pc + 7, locals := ls, stack := .ref sa :: .ref T.heap.size :: .ref T.heap.size :: rest, locked := none }) rfl hsize rfl rfl (rest := rest) rfl
    (by rw [hb]; exact d7) (by rw [hb]; exact d10) hout hRframes (by simp only [List.map_cons, List.sum_cons, hcat]; omega) hlocks
  obtain ⟨f1, f2⟩ := vx_frame hsame
  rw [hhp] at f1 f2
  have hWs : s.WarmedH U.vm := State.WarmedH.trans hW0 hW
  have hcl : s.vm.findClass cls = some ce.cls := by
    have h9 := hO.cls
    rw [hvm] at h9
    exact h9
  have hall : s.sameButNew ({ U with vm := s.vm } : State) locs mc ms := by
    subst hA
    obtain ⟨e1, e2⟩ := hsame
    rw [State.setFrames_setFrames] at e1
    have h2 : (T.setVm s.vm).sameButNew ({ U with vm := s.vm } : State) [] (0 + 1) (0 + 6) := ⟨e1, e2⟩
    have h3 := X.same.trans h2
    rw [List.append_nil] at h3
    exact h3.mono hc hs
  refine ⟨U, ?_, .threw T.heap.size, hrun, hend, Or.inr ⟨T.heap.size, rfl, cls, ce, locs, hx U hWs.alike f1 (fun q hq => f2 q hq (fun z hz => nomatch hz)), hce, hO.vm, hcl, hWs, hall, hf⟩⟩
  refine st1 _ ?_
  show Steps p.tables e below (T1.setTop { method := m, pc := pc + 3, locals := ls, stack := .ref T.heap.size :: rest, locked := none }) _
  jvm_step X₁.here [X₁.here.top, hexec, d3', Value.category]
  exact X₁.ldcStringW hexec (own := own) (text := text) (index := is) (a := sa) hown' hstr'.1 hstr'.2
    (g := { method := m, pc := pc + 4, locals := ls, stack := .ref T.heap.size :: .ref T.heap.size :: rest, locked := none }) rfl d4' _ hsteps
end Ends
section Bodies
variable {l : Launch}
theorem vx_ofW {y : MethodName} {ws ws' : List Cond} {rm : Room} {Pc : Array Value → State → Prop} {Qc : Array Value → State → Outcome → State → Prop} {XC : String → State → State → Prop} {mc ms : Nat} {free : Addr → Prop} {cc : ByteArray} {maxL : Nat} {ret : Option FieldType}
    (hy : plainName y.cls = true) (hw : ws = Cond.code y cc maxL ret :: ws')
    (body : ∀ p e s m args below meth c s₁, BodyLoose p l y (headSpec ws rm) cc maxL ret e s m args below meth c s₁ → c.maxLocals = maxL → (∀ x ∈ c.exceptionTable.toList, False) → Pc args s →
      W p l e (headSpec ws rm).room s m args below meth c s.heap [] 0 0 (vx_MQ below Qc XC args s mc ms free) (entryFrame m args maxL)) : vx_Met l y ws rm Pc Qc XC mc ms free := by
  refine MetFree.of_bodyS (code := cc) (maxLocals := maxL) (ret := ret) hy ?_ ?_
  · intro args s m h hn
    obtain ⟨meth, c, h1, h2, h3, h4, h5, h6, -, -⟩ := Cond.code_spec hn (atoms_spec (ws := ws) h _ (by rw [hw]; exact List.mem_cons_self))
    exact ⟨meth, c, h1, h2, h3, h4, h5, h6⟩
  · intro p e s m args below meth c s₁ B hml hP _
    have hh0 : s₁.heap = s.heap := by rw [B.state]; rfl
    have ht : ∀ x ∈ c.exceptionTable.toList, False := by
      obtain ⟨meth9, c9, h1, h2, -, -, -, -, h7, -⟩ := Cond.code_spec B.named (atoms_spec (ws := ws) B.pre _ (by rw [hw]; exact List.mem_cons_self))
      cases Option.some.inj (h1.symm.trans B.method)
      cases Option.some.inj (h2.symm.trans (Stand.of_body B).code)
      intro x hx
      rw [Array.isEmpty_iff.mp h7] at hx
      cases hx
    obtain ⟨t, a1, o, b1, b2, b3⟩ := body p e s m args below meth c s₁ B hml ht hP s₁ hh0 (Stand.of_body B)
    exact ⟨t, o, a1, b1, b2, b3⟩
/-- the table of a body with handlers -/
theorem vx_table {p : Program} {x y : MethodName} {S : Spec} {cc bytes : ByteArray} {maxL maxL' : Nat} {ret ret' : Option FieldType} {e : Env} {s s₁ : State} {m : MethodId} {args : Array Value} {below : List Frame} {meth : Method} {c : Code} {hh : List (Nat × Nat × Nat × Nat)}
    (B : BodyLoose p l y S cc maxL ret e s m args below meth c s₁) (h : (Cond.codeWith y bytes maxL' ret' hh).before args s = true) : c.exceptionTable.toList = tableOf hh := by
  obtain ⟨m9, meth9, c9, hn9, h1, h2, -, -, h6, -⟩ := Cond.codeWith_spec h
  cases Option.some.inj (hn9.symm.trans B.named)
  cases Option.some.inj (h1.symm.trans B.method)
  cases Option.some.inj (h2.symm.trans (Stand.of_body B).code)
  rw [← h6, table_eq]
end Bodies
end VXA
/-! ===== END ===== -/
/-! ===== BEGIN a static call of a method with an exception table ===== -/
section VXS
variable {p : Program} {l : Launch} {e : Env} {R : Room} {s : State} {m : MethodId} {args : Array Value} {below : List Frame} {meth : Method} {c : Code} {T : State} {H : Heap} {locs : List Loc} {cells slots : Nat}
abbrev vx_CSW (R : Room) (s : State) (args : Array Value) (own : String) (index : Nat) (y : MethodName) (bytes : ByteArray) (maxL : Nat) (ret : Option FieldType) (hh : List (Nat × Nat × Nat × Nat)) (ws : List Cond) (rm : Room) (mc ms n : Nat) : Prop :=
  (rm.cells = mc ∧ rm.slots = ms ∧ rm.frames + 1 ≤ R.frames ∧ 8 + (maxL + 11) + rm.locals ≤ R.locals ∧ (∀ w ∈ ws, ∀ (a' : Array Value) (U : State), s.WarmedH U.vm → w.before a' U = true) ∧ Cond.codeWith y bytes maxL ret hh ∈ ws) ∧
  (Cond.codeWith y bytes maxL ret hh).before args s = true ∧ (Cond.initialized y.cls).before args s = true ∧ (y.cls ≠ "java/lang/invoke/MethodHandle" ∧ y.cls ≠ "java/lang/invoke/VarHandle") ∧
  (∀ sig, parseMethodDescriptor y.desc = some sig → n = sig.parameters.length) ∧ (Cond.methodLink own index y).before args s = true ∧ (Cond.static y).before args s = true
theorem vx_cwSW {own : String} {index maxL mc ms : Nat} {y : MethodName} {bytes : ByteArray} {ret : Option FieldType} {hh : List (Nat × Nat × Nat × Nat)} {Ts ws ws' : List Cond} {rm : Room} (n : Nat) (ht : ∀ w ∈ Ts, w.before args s = true) (hT : GoodIn Ts (va_wsS own index y ws)) (hw : ws = Cond.codeWith y bytes maxL ret hh :: ws') (hrc : rm.cells = mc) (hrs : rm.slots = ms)
    (hd : y.cls ≠ "java/lang/invoke/MethodHandle" ∧ y.cls ≠ "java/lang/invoke/VarHandle" ∧ (parseMethodDescriptor y.desc).map (fun d => d.parameters.length) = some n) (hR : rm.frames + 1 ≤ R.frames ∧ 8 + (maxL + 11) + rm.locals ≤ R.locals) :
    vx_CSW R s args own index y bytes maxL ret hh ws rm mc ms n := by
  have ok : ∀ w ∈ va_wsS own index y ws, w.before args s = true := fun w h => ht w (hT w h).1
  have hG : GoodIn Ts ws := fun w h => hT w (by unfold va_wsS; exact List.mem_append_right _ h)
  have hc : Cond.codeWith y bytes maxL ret hh ∈ ws := by rw [hw]; exact List.mem_cons_self
  refine ⟨⟨hrc, hrs, hR.1, hR.2, pay_in ht hG, hc⟩, ht _ (hG _ hc).1, ok _ (by simp [va_wsS]), ⟨hd.1, hd.2.1⟩, fun sig h => ?_, ok _ (by simp [va_wsS]), ok _ (by simp [va_wsS])⟩
  have h2 := hd.2.2
  rw [h] at h2
  exact (Option.some.inj h2).symm
theorem vx_callSW (X : Stand p l e R s m args below meth c T locs cells slots) (hexec : p.tables.exec = Jvm.exec) {own : String} {index : Nat} {y : MethodName} {bytes : ByteArray} {maxL : Nat} {ret : Option FieldType} {hh : List (Nat × Nat × Nat × Nat)}
    (hown : s.vm.findClass own = some m.cls) (hlink : (Cond.methodLink own index y).before args s = true) (hstat : (Cond.static y).before args s = true) (hinit : (Cond.initialized y.cls).before args s = true)
    (hcode : (Cond.codeWith y bytes maxL ret hh).before args s = true) (hy : y.cls ≠ "java/lang/invoke/MethodHandle" ∧ y.cls ≠ "java/lang/invoke/VarHandle")
    {W9 : Nat} {Pre : Pt → Array Value → Prop} {Post : Pt → Array Value → Option Value → Pt → Prop} (hK : Back l R p e below s args y 3 W9 Pre Post)
    {g : JFrame} (hg : g.method = m) (hsize : g.locals.size = c.maxLocals) {argsL rest : List Value} (hlen : ∀ sig, parseMethodDescriptor y.desc = some sig → argsL.length = sig.parameters.length)
    (hstack : g.stack = argsL.reverse ++ rest) (hW : 2 * g.monitorRoom + (rest.map fun v => v.category).sum ≤ W9) (hdg : decode c.code g.pc = .ok (.invokestatic index, 3))
    (hpre : ∀ vm₁, s.WarmedH vm₁ → Pre ⟨T.setVm vm₁, locs, cells, slots⟩ argsL.toArray) :
    ∃ (v : Option Value) (vm₁ : Vm) (B : Pt), s.WarmedH vm₁ ∧ Stand p l e R s m args below meth c B.U B.locs B.cells B.slots ∧ Post ⟨T.setVm vm₁, locs, cells, slots⟩ argsL.toArray v B ∧
      ∀ target, Steps p.tables e below (B.U.setTop { g with pc := g.pc + 3, stack := v.toList ++ rest }) target → Steps p.tables e below (T.setTop g) target := by
  obtain ⟨mk, methM, cM, hnamed, hmethM, -, -, -, -, -, -, hsigM⟩ := Cond.codeWith_spec hcode
  have hstatic : methM.isStatic = true := Cond.static_spec hnamed hmethM hstat
  obtain ⟨kP, hkP, -⟩ := className_of_methodNamed hnamed
  have hinitP : kP.init = .initialized := Cond.initialized_spec (findClass_of_methodNamed hnamed) hkP hinit
  obtain ⟨vm₁, X₁, hstep₁⟩ := X.invokestatic hexec hown hlink hnamed hmethM hstatic hkP hinitP hy (g := g) hg (argsL := argsL) (rest := rest) (hlen _ hsigM) hstack hdg
  obtain ⟨v, B, X', hpost, hsteps⟩ := hK m meth c ⟨T.setVm vm₁, locs, cells, slots⟩ { g with stack := rest } (.invokestatic index) mk argsL.toArray X₁ hg hsize hdg hW (X₁.named hnamed) (hpre vm₁ X₁.warmed)
  exact ⟨v, vm₁, B, X₁.warmed, X', hpost, fun target h => hstep₁ _ fun acts => by rw [doInvoke_state]; exact hsteps.trans h⟩
theorem vx_runSW {y : MethodName} {bytes cc : ByteArray} {maxL nL mc ms n index : Nat} {ret : Option FieldType} {hh : List (Nat × Nat × Nat × Nat)} {ws : List Cond} {rm : Room} {Pc : Array Value → State → Prop} {Qc : Array Value → State → Outcome → State → Prop} {free : Addr → Prop} {Ts : List Cond} {own : String} {As rest : List Value} {g : JFrame}
    (S : CallFix p m c cc nL s args Ts own) (hM : Met l y ws rm Pc Qc mc ms free) (cw : vx_CSW R s args own index y bytes maxL ret hh ws rm mc ms n) (hp : PreS s H Pc As)
    (hg : g.method = m) (hn : As.length = n) (hsize : g.locals.size = nL) (hstack : g.stack = As.reverse ++ rest) (hW : 2 * g.monitorRoom + (rest.map fun v => v.category).sum ≤ 8) (hdg : decode cc g.pc = .ok (.invokestatic index, 3)) (hf : cells + mc ≤ R.cells ∧ slots + ms ≤ R.slots) :
    va_Run p l e R s m args below meth c H locs cells slots mc ms g rest (Qc As.toArray) (free) := by
  obtain ⟨⟨hrc, hrs, hfr, hlo, hws, hcw⟩, hcode, hini, hy, hlen, hl, hstt⟩ := cw
  have hK : Back l R p e below s args y 3 8 (PreOf R mc ms Pc) (PostOf Qc mc ms free) := va_backW (hh := hh) (bytes := bytes) (maxL := maxL) (ret := ret) hM hp.1 hrc hrs hfr hlo hws hcw (fun a' U hW => word_at hW (Or.inl (by first | rfl | simp [Cond.onTables, Cond.keeps, Cond.steady])) hini)
  obtain ⟨hx, hb, hml, ho, -⟩ := S
  intro T hT X
  obtain ⟨v, vm₁, ⟨U', l2, c2, s2⟩, hW₁, X', ⟨g', mk, t, L, e1, e2, hq, h1, hL, h2, h3⟩, st⟩ := vx_callSW X hx (hh := hh) (bytes := bytes) (maxL := maxL) (ret := ret) ho hl hstt hini hcode hy hK hg (hsize.trans hml.symm) (argsL := As) (rest := rest) (fun sig h => hn.trans (hlen sig h)) hstack hW (by rw [hb]; exact hdg)
    (fun vm₁ hW₁ => ⟨hf.1, hf.2, hp.2 (T.setVm vm₁) hT hW₁⟩)
  dsimp only [Pt.U, Pt.locs, Pt.cells, Pt.slots] at X' e1 e2 h1 h2 h3 st
  subst h1; subst h2; subst h3
  exact ⟨v, (T.setVm vm₁).calling g' mk As.toArray, t, U', L, hT, X', hL, e1, e2, hq, st⟩
/-- not caught here, past rows that name other classes: it goes on to the caller -/
theorem vx_outP {p : Program} {l : Launch} {e : Env} {R : Room} {s : State} {m : MethodId} {args : Array Value} {below : List Frame} {meth : Method} {c : Code} {H : Heap} {locs : List Loc} {cells slots : Nat} {free : Addr → Prop} {ls : Array Slot} {rest : List Value} {Qc : Array Value → State → Outcome → State → Prop} {XC : String → State → State → Prop}
    {pc : Nat} {own E : String} {ce : Cell} {q : Addr} {mc ms : Nat} (hown : s.vm.findClass own = some m.cls) (hlocks : meth.locks = false)
    (hpass : ∀ z ∈ c.exceptionTable.toList, covers z pc = false ∨ (z.catchType ≠ 0 ∧ ∃ nm : String, (Cond.classLink own z.catchType nm).before args s = true ∧ va_Nc E nm s)) (hcell : H[q]? = some ce) (hv : ce.vm = .none) (hcl : s.vm.findClass E = some ce.cls)
    (hx : ∀ t : State, t.heap = H → s.vm.Alike t.vm → XC E s t) (hf : ∀ z ∈ locs, free z.base) (hc : cells ≤ mc) (hs : slots ≤ ms) :
    vx_W p l e R s m args below meth c H locs cells slots (vx_MQ below Qc XC args s mc ms free) (F0 m pc ls rest) q := by
  intro T hT X
  have hpl : e.platform.magicAccessors = ({} : Platform).magicAccessors := by rw [X.admits.platform]
  obtain ⟨vm', hW', X', st⟩ := X.outThrough hlocks q (g := F0 m pc ls rest) rfl rfl rfl (cell := ce) (by rw [hT]; exact hcell) (by rw [hv]; rfl)
    (by obtain ⟨k9, h9, -⟩ := Vm.findClass_spec hcl; exact ⟨k9, h9⟩) (fun z hz => by
      rcases hpass z hz with h | ⟨hz0, nm, hl1, hn1⟩
      · exact Or.inl h
      · obtain ⟨c6, hc6, hcl6⟩ := Cond.classLink_spec hown hl1 e.platform hpl
        obtain ⟨a8, b8, h1, h2, h3⟩ := hn1
        cases Option.some.inj (h1.symm.trans hcl)
        cases Option.some.inj (h2.symm.trans hc6)
        exact Or.inr ⟨hz0, _, hcl6, h3⟩)
  obtain ⟨g₀, hfr⟩ := X'.frames_eq
  have hcell9 : ((T.setVm vm').setFrames (.throwing q :: below)).heap[q]? = some ce := by
    show T.heap[q]? = some ce
    rw [hT]; exact hcell
  have hend : Ended ((T.setVm vm').setFrames (.throwing q :: below)) below (.threw q) := State.frames_setFrames _ (State.cur_lt_of_frames hfr)
  refine ⟨(T.setVm vm').setFrames (.throwing q :: below), ?_, .threw q, X'.here.running, hend, Or.inr ⟨q, rfl, E, ce, locs, hx _ hT (X'.ends _).1.alike, hcell9, hv, hcl, (X'.ends _).1, (X'.ends _).2.mono hc hs, hf⟩⟩
  rw [X.pushThrowing_eq]
  exact st
/-- a thing of a world lies in the heap -/
theorem vx_lt {D : va_G} {cl : List vw_C} {ws : va_W} {H1 : Heap} (h : va_P D cl ws H1) {k : Nat} {q : Nat × va_E} (hk : ws[k]? = some q) : q.1 < H1.size := (h k q hk).lt
end VXS
/-! ===== END ===== -/
/-! ===== BEGIN methods with a table of their own: called by a name, returning or throwing ===== -/
section VXH
/-! vx_backW, vx_callVX, vx_callSX, vx_callVW, vx_runVW, vx_runVX, vx_runSX, vx_ofWH follow the same proofs as their sisters above (Free/Laws.lean, Shelf42/LK1.lean); vx_outP calls Shelf42/NT130.lean (outThrough). -/
section
variable {l : Launch} {R : Room} {p : Program} {e : Env} {below : List Frame} {s : State} {sargs : Array Value} {y : MethodName} {len W9 : Nat}
theorem vx_backW {ws : List Cond} {rm : Room} {Pc : Array Value → State → Prop} {Qc : Array Value → State → Outcome → State → Prop} {XC : String → State → State → Prop} {mc ms : Nat} {free : Addr → Prop} {bytes : ByteArray} {maxL : Nat} {ret : Option FieldType} {hh : List (Nat × Nat × Nat × Nat)}
    (hM : vx_Met l y ws rm Pc Qc XC mc ms free) (hblind : FrameBlind Pc) (hrc : rm.cells = mc) (hrs : rm.slots = ms)
    (hframes : rm.frames + 1 ≤ R.frames) (hlocals : W9 + (maxL + 11) + rm.locals ≤ R.locals)
    (hws : ∀ w ∈ ws, ∀ a' U, s.WarmedH U.vm → w.before a' U = true) (hcode : Cond.codeWith y bytes maxL ret hh ∈ ws) (hinit : ∀ a' U, s.WarmedH U.vm → (Cond.initialized y.cls).before a' U = true) :
    vx_Back l R p e below s sargs y len W9 (PreOf R mc ms Pc) (PostOf Qc mc ms free) (vx_Post XC mc ms free) := by
  intro m meth c A g ig mk a X hg hsize hdg hW hn hp
  have h1 : (headSpec ws rm).pre.before a A.U = true := atoms_intro fun w hw => hws w hw _ _ X.warmed
  have h2 : (Cond.codeWith y bytes maxL ret hh).before a A.U = true := hws _ hcode _ _ X.warmed
  have h3 : (Cond.initialized y.cls).before a A.U = true := hinit _ _ X.warmed
  have h4 : A.cells + (headSpec ws rm).room.cells ≤ R.cells := by rw [show (headSpec ws rm).room.cells = mc from hrc]; exact hp.1
  have h5 : A.slots + (headSpec ws rm).room.slots ≤ R.slots := by rw [show (headSpec ws rm).room.slots = ms from hrs]; exact hp.2.1
  have hPc : Pc a (A.U.calling g mk a) := hblind _ _ _ _ hp.2.2
  obtain ⟨U, Ls, c0, s0⟩ := A
  dsimp only [Pt.U, Pt.locs, Pt.cells, Pt.slots] at h1 h2 h3 h4 h5 X hn hPc ⊢
  obtain ⟨m9, methY, cY, hn9, hmY, hcY, -, hlY, -⟩ := Cond.codeWith_spec h2
  cases Option.some.inj (hn9.symm.trans hn)
  obtain ⟨kY, hkY, -⟩ := className_of_methodNamed hn
  have hinitY : kY.init = .initialized := Cond.initialized_spec (findClass_of_methodNamed hn) hkY h3
  have h : At U g.method c below := by rw [hg]; exact X.here
  have hlocals9 : W9 + (maxL + 11) + (headSpec ws rm).room.locals ≤ R.locals := hlocals
  have happ : (headSpec ws rm).appliesLoose y e.platform (U.calling g mk a) = true :=
    Spec.appliesLoose_calling (g := g) h hdg hn hkY hinitY
      (X.room_calling (g := g) (R' := (headSpec ws rm).room) hsize hmY hcY hframes (by rw [hlY]; omega) h4 h5) h1
  obtain ⟨mid, hmid⟩ := h.above
  have hfr : (U.setTop g).frames = (.java g :: mid) ++ below := by rw [State.frames_setTop' g h.top, hmid]; rfl
  obtain ⟨o, s₂, hsteps, -, hend, hq⟩ := Steps.callFree hM p X.admits X.cas X.clock (acts := []) hfr happ hPc trivial
  have hq' : vx_Q Qc XC mc ms free a (U.calling g mk a) o s₂ := hq
  rw [State.frames_setTop' g h.top] at hend
  obtain ⟨g₀, hg0⟩ := Option.isSome_iff_exists.mp h.top
  obtain ⟨r, hr⟩ := State.topJava?_eq_some.mp hg0
  have hr' : (({ U with heap := s₂.heap, slotsUsed := s₂.slotsUsed } : State).setVm s₂.vm).frames = .java g₀ :: r := hr
  rcases hq' with ⟨hqc, L, hfe, hL⟩ | ⟨q, rfl, E, ce, L, hx, hce, hcv, hcl, hW₂, hsm, hL⟩
  · obtain ⟨⟨v, rfl⟩, hW₂, e2, q2, q3, q4, q5, q6⟩ := id hfe
    have e3 : s₂ = ({ (U.calling g mk a).setFrames s₂.frames with heap := s₂.heap, slotsUsed := s₂.slotsUsed } : State).setVm s₂.vm := by
      have : s₂ = ({ s₂ with vm := (U.calling g mk a).vm } : State).setVm s₂.vm := rfl
      rw [e2] at this
      exact this
    obtain ⟨c₂, i₂, len₂, hc₂, hd₂, hf₂⟩ := hend
    have hW' : U.WarmedH s₂.vm := hW₂
    have hcc : c₂ = c := by
      have h1 : s₂.code? g.method = U.code? g.method := by
        rw [State.code?_eq, State.code?_eq, hW'.alike.method?]
      exact Option.some.inj (hc₂.symm.trans (h1.trans h.code))
    subst hcc
    have hlen : len₂ = len := by rw [hdg] at hd₂; cases hd₂; rfl
    subst hlen
    have hs₂ : s₂ = (({ U with heap := s₂.heap, slotsUsed := s₂.slotsUsed } : State).setVm s₂.vm).setTop { g with pc := g.pc + len₂, stack := v.toList ++ g.stack } := by
      refine e3.trans ?_
      rw [hf₂, State.calling_eq h.top, State.setFrames_setFrames, State.setTop_of_frames _ hr', hr]
      rfl
    have hsame : U.sameButNew ({ U with heap := s₂.heap, slotsUsed := s₂.slotsUsed } : State) L mc ms := by
      refine ⟨?_, q2, q3, q4, q5, q6⟩
      obtain ⟨t, ht, -⟩ := State.frames_cons hr
      show ({ U with heap := s₂.heap, slotsUsed := s₂.slotsUsed } : State) = { U.setFrames U.frames with heap := s₂.heap, slotsUsed := s₂.slotsUsed }
      rw [State.setFrames_self ht]
    subst hg
    refine Or.inl ⟨v, ⟨(({ U with heap := s₂.heap, slotsUsed := s₂.slotsUsed } : State).setVm s₂.vm), Ls ++ L, c0 + mc, s0 + ms⟩,
      ⟨X.admits, X.cas, X.clock, X.frames, X.room, X.hears, X.method, X.code, (X.here.setHeapUsed s₂.heap s₂.slotsUsed).setVm hW'.alike, X.tail, State.WarmedH.trans X.warmed hW', X.limits, X.bytes, X.same.trans (hsame.setVm s.vm)⟩,
      ⟨g, mk, s₂, L, rfl, rfl, hqc, rfl, hL, rfl, rfl⟩, ?_⟩
    show Steps p.tables e below _ ((({ U with heap := s₂.heap, slotsUsed := s₂.slotsUsed } : State).setVm s₂.vm).setTop { g with pc := g.pc + len₂, stack := v.toList ++ g.stack })
    rw [← hs₂]
    exact hsteps
  · obtain ⟨e2, q2, q3, q4, q5, q6⟩ := id hsm
    have e3 : s₂ = ({ (U.calling g mk a).setFrames s₂.frames with heap := s₂.heap, slotsUsed := s₂.slotsUsed } : State).setVm s₂.vm := by
      have : s₂ = ({ s₂ with vm := (U.calling g mk a).vm } : State).setVm s₂.vm := rfl
      rw [e2] at this
      exact this
    have hf₂ : s₂.frames = .throwing q :: .java g :: U.frames.tail := hend
    have hW' : U.WarmedH s₂.vm := hW₂
    have hs₂ : s₂ = ((({ U with heap := s₂.heap, slotsUsed := s₂.slotsUsed } : State).setVm s₂.vm).setTop g).pushFrame (.throwing q) := by
      refine e3.trans ?_
      rw [hf₂, State.calling_eq h.top, State.setFrames_setFrames, State.pushFrame, State.frames_setTop _ hr', State.setTop_of_frames _ hr', State.setFrames_setFrames, hr]
      rfl
    have hsame : U.sameButNew ({ U with heap := s₂.heap, slotsUsed := s₂.slotsUsed } : State) L mc ms := by
      refine ⟨?_, q2, q3, q4, q5, q6⟩
      obtain ⟨t, ht, -⟩ := State.frames_cons hr
      show ({ U with heap := s₂.heap, slotsUsed := s₂.slotsUsed } : State) = { U.setFrames U.frames with heap := s₂.heap, slotsUsed := s₂.slotsUsed }
      rw [State.setFrames_self ht]
    subst hg
    refine Or.inr ⟨q, ⟨(({ U with heap := s₂.heap, slotsUsed := s₂.slotsUsed } : State).setVm s₂.vm), Ls ++ L, c0 + mc, s0 + ms⟩,
      ⟨X.admits, X.cas, X.clock, X.frames, X.room, X.hears, X.method, X.code, (X.here.setHeapUsed s₂.heap s₂.slotsUsed).setVm hW'.alike, X.tail, State.WarmedH.trans X.warmed hW', X.limits, X.bytes, X.same.trans (hsame.setVm s.vm)⟩,
      ⟨g, mk, s₂, L, E, ce, rfl, rfl, hx, hce, hcv, hcl, rfl, hL, rfl, rfl⟩, ?_⟩
    show Steps p.tables e below _ (((({ U with heap := s₂.heap, slotsUsed := s₂.slotsUsed } : State).setVm s₂.vm).setTop g).pushFrame (.throwing q))
    rw [← hs₂]
    exact hsteps
end
variable {p : Program} {l : Launch} {e : Env} {R : Room} {s : State} {m : MethodId} {args : Array Value} {below : List Frame} {meth : Method} {c : Code} {T : State} {H : Heap} {locs : List Loc} {cells slots : Nat}
theorem vx_callVX (X : Stand p l e R s m args below meth c T locs cells slots) (hexec : p.tables.exec = Jvm.exec) {own C : String} {index : Nat} {y : MethodName} {bytes : ByteArray} {maxL : Nat} {ret : Option FieldType} {hh : List (Nat × Nat × Nat × Nat)}
    (hown : s.vm.findClass own = some m.cls) (hlink : (Cond.methodLink own index y).before args s = true) (hinst : (Cond.instanceMethod y).before args s = true) (hsel : (Cond.selects C y y).before args s = true)
    (hcode : (Cond.codeWith y bytes maxL ret hh).before args s = true) (hy : y.cls ≠ "java/lang/invoke/MethodHandle" ∧ y.cls ≠ "java/lang/invoke/VarHandle")
    {W9 : Nat} {Pre : Pt → Array Value → Prop} {Post : Pt → Array Value → Option Value → Pt → Prop} {PostX : Pt → Array Value → Addr → Pt → Prop} (hK : vx_Back l R p e below s args y 3 W9 Pre Post PostX)
    {b : Addr} {cellB : Cell} (hcell : T.heap[b]? = some cellB) (hobj : cellB.vm.isStatics = false) (hcls : s.vm.findClass C = some cellB.cls)
    {g : JFrame} (hg : g.method = m) (hsize : g.locals.size = c.maxLocals) {argsL rest : List Value} (hlen : ∀ sig, parseMethodDescriptor y.desc = some sig → argsL.length = sig.parameters.length)
    (hstack : g.stack = argsL.reverse ++ .ref b :: rest) (hW : 2 * g.monitorRoom + (rest.map fun v => v.category).sum ≤ W9) (hdg : decode c.code g.pc = .ok (.invokevirtual index, 3))
    (hpre : ∀ vm₁, s.WarmedH vm₁ → Pre ⟨T.setVm vm₁, locs, cells, slots⟩ (Value.ref b :: argsL).toArray) :
    (∃ (v : Option Value) (vm₁ : Vm) (B : Pt), s.WarmedH vm₁ ∧ Stand p l e R s m args below meth c B.U B.locs B.cells B.slots ∧ Post ⟨T.setVm vm₁, locs, cells, slots⟩ (Value.ref b :: argsL).toArray v B ∧
      ∀ target, Steps p.tables e below (B.U.setTop { g with pc := g.pc + 3, stack := v.toList ++ rest }) target → Steps p.tables e below (T.setTop g) target) ∨
    (∃ (q : Addr) (vm₁ : Vm) (B : Pt), s.WarmedH vm₁ ∧ Stand p l e R s m args below meth c B.U B.locs B.cells B.slots ∧ PostX ⟨T.setVm vm₁, locs, cells, slots⟩ (Value.ref b :: argsL).toArray q B ∧
      Steps p.tables e below (T.setTop g) ((B.U.setTop { g with stack := rest }).pushFrame (.throwing q))) := by
  obtain ⟨mk, methM, hnamed, hmethM, hstM, habM⟩ := Cond.instanceMethod_spec hinst
  obtain ⟨m8, methM', cM, hn8, hmethM', -, -, -, -, -, -, hsigM⟩ := Cond.codeWith_spec hcode
  cases Option.some.inj (hn8.symm.trans hnamed)
  cases hmethM.symm.trans hmethM'
  obtain ⟨c2, r2, m2, q1, q2, q3, q4, kP, hkP, hkPi⟩ := Cond.selects_spec hsel
  cases hcls.symm.trans q1
  cases (State.methodFound?_of_named hnamed hy).symm.trans q2
  cases hnamed.symm.trans q3
  have hselP : selectMethod e.platform s.vm cellB.cls mk = .method mk := by rw [Launch.admits_selectMethod X.admits]; exact q4
  obtain ⟨vm₁, X₁, hstep₁⟩ := X.invokevirtual hexec hown hlink hnamed hmethM hstM hkP hkPi hy (a := b) (cell := cellB) hcell
    (fun z h => by rw [h] at hobj; cases hobj) hselP hmethM habM hkP hkPi (g := g) hg (argsL := argsL) (rest := rest) (hlen _ hsigM) hstack hdg
  rcases hK m meth c ⟨T.setVm vm₁, locs, cells, slots⟩ { g with stack := rest } (.invokevirtual index) mk (Value.ref b :: argsL).toArray X₁ hg hsize hdg hW (X₁.named hnamed) (hpre vm₁ X₁.warmed) with ⟨v, B, X', hpost, hsteps⟩ | ⟨q, B, X', hpost, hsteps⟩
  · exact Or.inl ⟨v, vm₁, B, X₁.warmed, X', hpost, fun target h => hstep₁ _ fun acts => by rw [doInvoke_state]; exact hsteps.trans h⟩
  · exact Or.inr ⟨q, vm₁, B, X₁.warmed, X', hpost, hstep₁ _ fun acts => by rw [doInvoke_state]; exact hsteps⟩
theorem vx_callSX (X : Stand p l e R s m args below meth c T locs cells slots) (hexec : p.tables.exec = Jvm.exec) {own : String} {index : Nat} {y : MethodName} {bytes : ByteArray} {maxL : Nat} {ret : Option FieldType} {hh : List (Nat × Nat × Nat × Nat)}
    (hown : s.vm.findClass own = some m.cls) (hlink : (Cond.methodLink own index y).before args s = true) (hstat : (Cond.static y).before args s = true) (hinit : (Cond.initialized y.cls).before args s = true)
    (hcode : (Cond.codeWith y bytes maxL ret hh).before args s = true) (hy : y.cls ≠ "java/lang/invoke/MethodHandle" ∧ y.cls ≠ "java/lang/invoke/VarHandle")
    {W9 : Nat} {Pre : Pt → Array Value → Prop} {Post : Pt → Array Value → Option Value → Pt → Prop} {PostX : Pt → Array Value → Addr → Pt → Prop} (hK : vx_Back l R p e below s args y 3 W9 Pre Post PostX)
    {g : JFrame} (hg : g.method = m) (hsize : g.locals.size = c.maxLocals) {argsL rest : List Value} (hlen : ∀ sig, parseMethodDescriptor y.desc = some sig → argsL.length = sig.parameters.length)
    (hstack : g.stack = argsL.reverse ++ rest) (hW : 2 * g.monitorRoom + (rest.map fun v => v.category).sum ≤ W9) (hdg : decode c.code g.pc = .ok (.invokestatic index, 3))
    (hpre : ∀ vm₁, s.WarmedH vm₁ → Pre ⟨T.setVm vm₁, locs, cells, slots⟩ argsL.toArray) :
    (∃ (v : Option Value) (vm₁ : Vm) (B : Pt), s.WarmedH vm₁ ∧ Stand p l e R s m args below meth c B.U B.locs B.cells B.slots ∧ Post ⟨T.setVm vm₁, locs, cells, slots⟩ argsL.toArray v B ∧
      ∀ target, Steps p.tables e below (B.U.setTop { g with pc := g.pc + 3, stack := v.toList ++ rest }) target → Steps p.tables e below (T.setTop g) target) ∨
    (∃ (q : Addr) (vm₁ : Vm) (B : Pt), s.WarmedH vm₁ ∧ Stand p l e R s m args below meth c B.U B.locs B.cells B.slots ∧ PostX ⟨T.setVm vm₁, locs, cells, slots⟩ argsL.toArray q B ∧
      Steps p.tables e below (T.setTop g) ((B.U.setTop { g with stack := rest }).pushFrame (.throwing q))) := by
  obtain ⟨mk, methM, cM, hnamed, hmethM, -, -, -, -, -, -, hsigM⟩ := Cond.codeWith_spec hcode
  have hstatic : methM.isStatic = true := Cond.static_spec hnamed hmethM hstat
  obtain ⟨kP, hkP, -⟩ := className_of_methodNamed hnamed
  have hinitP : kP.init = .initialized := Cond.initialized_spec (findClass_of_methodNamed hnamed) hkP hinit
  obtain ⟨vm₁, X₁, hstep₁⟩ := X.invokestatic hexec hown hlink hnamed hmethM hstatic hkP hinitP hy (g := g) hg (argsL := argsL) (rest := rest) (hlen _ hsigM) hstack hdg
  rcases hK m meth c ⟨T.setVm vm₁, locs, cells, slots⟩ { g with stack := rest } (.invokestatic index) mk argsL.toArray X₁ hg hsize hdg hW (X₁.named hnamed) (hpre vm₁ X₁.warmed) with ⟨v, B, X', hpost, hsteps⟩ | ⟨q, B, X', hpost, hsteps⟩
  · exact Or.inl ⟨v, vm₁, B, X₁.warmed, X', hpost, fun target h => hstep₁ _ fun acts => by rw [doInvoke_state]; exact hsteps.trans h⟩
  · exact Or.inr ⟨q, vm₁, B, X₁.warmed, X', hpost, hstep₁ _ fun acts => by rw [doInvoke_state]; exact hsteps⟩
theorem vx_callVW (X : Stand p l e R s m args below meth c T locs cells slots) (hexec : p.tables.exec = Jvm.exec) {own C : String} {index : Nat} {y : MethodName} {bytes : ByteArray} {maxL : Nat} {ret : Option FieldType} {hh : List (Nat × Nat × Nat × Nat)}
    (hown : s.vm.findClass own = some m.cls) (hlink : (Cond.methodLink own index y).before args s = true) (hinst : (Cond.instanceMethod y).before args s = true) (hsel : (Cond.selects C y y).before args s = true)
    (hcode : (Cond.codeWith y bytes maxL ret hh).before args s = true) (hy : y.cls ≠ "java/lang/invoke/MethodHandle" ∧ y.cls ≠ "java/lang/invoke/VarHandle")
    {W9 : Nat} {Pre : Pt → Array Value → Prop} {Post : Pt → Array Value → Option Value → Pt → Prop} (hK : Back l R p e below s args y 3 W9 Pre Post)
    {b : Addr} {cellB : Cell} (hcell : T.heap[b]? = some cellB) (hobj : cellB.vm.isStatics = false) (hcls : s.vm.findClass C = some cellB.cls)
    {g : JFrame} (hg : g.method = m) (hsize : g.locals.size = c.maxLocals) {argsL rest : List Value} (hlen : ∀ sig, parseMethodDescriptor y.desc = some sig → argsL.length = sig.parameters.length)
    (hstack : g.stack = argsL.reverse ++ .ref b :: rest) (hW : 2 * g.monitorRoom + (rest.map fun v => v.category).sum ≤ W9) (hdg : decode c.code g.pc = .ok (.invokevirtual index, 3))
    (hpre : ∀ vm₁, s.WarmedH vm₁ → Pre ⟨T.setVm vm₁, locs, cells, slots⟩ (Value.ref b :: argsL).toArray) :
    ∃ (v : Option Value) (vm₁ : Vm) (B : Pt), s.WarmedH vm₁ ∧ Stand p l e R s m args below meth c B.U B.locs B.cells B.slots ∧ Post ⟨T.setVm vm₁, locs, cells, slots⟩ (Value.ref b :: argsL).toArray v B ∧
      ∀ target, Steps p.tables e below (B.U.setTop { g with pc := g.pc + 3, stack := v.toList ++ rest }) target → Steps p.tables e below (T.setTop g) target := by
  obtain ⟨mk, methM, hnamed, hmethM, hstM, habM⟩ := Cond.instanceMethod_spec hinst
  obtain ⟨m8, methM', cM, hn8, hmethM', -, -, -, -, -, -, hsigM⟩ := Cond.codeWith_spec hcode
  cases Option.some.inj (hn8.symm.trans hnamed)
  cases hmethM.symm.trans hmethM'
  obtain ⟨c2, r2, m2, q1, q2, q3, q4, kP, hkP, hkPi⟩ := Cond.selects_spec hsel
  cases hcls.symm.trans q1
  cases (State.methodFound?_of_named hnamed hy).symm.trans q2
  cases hnamed.symm.trans q3
  have hselP : selectMethod e.platform s.vm cellB.cls mk = .method mk := by rw [Launch.admits_selectMethod X.admits]; exact q4
  obtain ⟨vm₁, X₁, hstep₁⟩ := X.invokevirtual hexec hown hlink hnamed hmethM hstM hkP hkPi hy (a := b) (cell := cellB) hcell
    (fun z h => by rw [h] at hobj; cases hobj) hselP hmethM habM hkP hkPi (g := g) hg (argsL := argsL) (rest := rest) (hlen _ hsigM) hstack hdg
  obtain ⟨v, B, X', hpost, hsteps⟩ := hK m meth c ⟨T.setVm vm₁, locs, cells, slots⟩ { g with stack := rest } (.invokevirtual index) mk (Value.ref b :: argsL).toArray X₁ hg hsize hdg hW (X₁.named hnamed) (hpre vm₁ X₁.warmed)
  exact ⟨v, vm₁, B, X₁.warmed, X', hpost, fun target h => hstep₁ _ fun acts => by rw [doInvoke_state]; exact hsteps.trans h⟩
abbrev vx_CVW (R : Room) (s : State) (args : Array Value) (own C : String) (index : Nat) (y : MethodName) (bytes : ByteArray) (maxL : Nat) (ret : Option FieldType) (hh : List (Nat × Nat × Nat × Nat)) (ws : List Cond) (rm : Room) (mc ms n : Nat) : Prop :=
  (rm.cells = mc ∧ rm.slots = ms ∧ rm.frames + 1 ≤ R.frames ∧ 8 + (maxL + 11) + rm.locals ≤ R.locals ∧ (∀ w ∈ ws, ∀ (a' : Array Value) (U : State), s.WarmedH U.vm → w.before a' U = true) ∧ Cond.codeWith y bytes maxL ret hh ∈ ws) ∧
  (Cond.codeWith y bytes maxL ret hh).before args s = true ∧ (Cond.initialized y.cls).before args s = true ∧ (y.cls ≠ "java/lang/invoke/MethodHandle" ∧ y.cls ≠ "java/lang/invoke/VarHandle") ∧
  (∀ sig, parseMethodDescriptor y.desc = some sig → n = sig.parameters.length) ∧ (Cond.methodLink own index y).before args s = true ∧ (Cond.instanceMethod y).before args s = true ∧ (Cond.selects C y y).before args s = true
theorem vx_cwVW {own C : String} {index maxL mc ms : Nat} {y : MethodName} {bytes : ByteArray} {ret : Option FieldType} {hh : List (Nat × Nat × Nat × Nat)} {Ts ws ws' : List Cond} {rm : Room} (n : Nat) (ht : ∀ w ∈ Ts, w.before args s = true) (hT : GoodIn Ts (wsV own index C y ws)) (hw : ws = Cond.codeWith y bytes maxL ret hh :: ws') (hrc : rm.cells = mc) (hrs : rm.slots = ms)
    (hd : y.cls = C ∧ y.cls ≠ "java/lang/invoke/MethodHandle" ∧ y.cls ≠ "java/lang/invoke/VarHandle" ∧ (parseMethodDescriptor y.desc).map (fun d => d.parameters.length) = some n) (hR : rm.frames + 1 ≤ R.frames ∧ 8 + (maxL + 11) + rm.locals ≤ R.locals) :
    vx_CVW R s args own C index y bytes maxL ret hh ws rm mc ms n := by
  obtain ⟨hC, hd⟩ := hd
  subst hC
  have ok : ∀ w ∈ wsV own index y.cls y ws, w.before args s = true := fun w h => ht w (hT w h).1
  have hG : GoodIn Ts ws := fun w h => hT w (by unfold wsV; exact List.mem_append_right _ h)
  have hc : Cond.codeWith y bytes maxL ret hh ∈ ws := by rw [hw]; exact List.mem_cons_self
  refine ⟨⟨hrc, hrs, hR.1, hR.2, pay_in ht hG, hc⟩, ht _ (hG _ hc).1, ok _ (by simp [wsV]), ⟨hd.1, hd.2.1⟩, fun sig h => ?_, ok _ (by simp [wsV]), ok _ (by simp [wsV]), ok _ (by simp [wsV])⟩
  have h2 := hd.2.2
  rw [h] at h2
  exact (Option.some.inj h2).symm
theorem vx_runVW {y : MethodName} {bytes cc : ByteArray} {maxL nL mc ms n index : Nat} {ret : Option FieldType} {hh : List (Nat × Nat × Nat × Nat)} {ws : List Cond} {rm : Room} {Pc : Array Value → State → Prop} {Qc : Array Value → State → Outcome → State → Prop} {free : Addr → Prop} {Ts : List Cond} {own C : String} {b : Addr} {As rest : List Value} {g : JFrame}
    (S : CallFix p m c cc nL s args Ts own) (hM : Met l y ws rm Pc Qc mc ms free) (cw : vx_CVW R s args own C index y bytes maxL ret hh ws rm mc ms n) (hp : PreV s H C b Pc As)
    (hg : g.method = m) (hn : As.length = n) (hsize : g.locals.size = nL) (hstack : g.stack = As.reverse ++ .ref b :: rest) (hW : 2 * g.monitorRoom + (rest.map fun v => v.category).sum ≤ 8) (hdg : decode cc g.pc = .ok (.invokevirtual index, 3)) (hf : cells + mc ≤ R.cells ∧ slots + ms ≤ R.slots) :
    va_Run p l e R s m args below meth c H locs cells slots mc ms g rest (Qc (Value.ref b :: As).toArray) free := by
  obtain ⟨⟨hrc, hrs, hfr, hlo, hws, hcw⟩, hcode, hini, hy, hlen, hl, hin, hse⟩ := cw
  have hK : Back l R p e below s args y 3 8 (PreOf R mc ms Pc) (PostOf Qc mc ms free) := va_backW (hh := hh) (bytes := bytes) (maxL := maxL) (ret := ret) hM hp.1 hrc hrs hfr hlo hws hcw (fun a' U hW => word_at hW (Or.inl (by first | rfl | simp [Cond.onTables, Cond.keeps, Cond.steady])) hini)
  obtain ⟨hx, hb, hml, ho, -⟩ := S
  obtain ⟨-, ⟨cellB, hcB, hoB, hclB⟩, hPc⟩ := hp
  intro T hT X
  obtain ⟨v, vm₁, ⟨U', l2, c2, s2⟩, hW₁, X', ⟨g', mk, t, L, e1, e2, hq, h1, hL, h2, h3⟩, st⟩ := vx_callVW X hx (C := C) (hh := hh) (bytes := bytes) (maxL := maxL) (ret := ret) ho hl hin hse hcode hy hK (by rw [hT]; exact hcB) hoB hclB hg (hsize.trans hml.symm) (argsL := As) (rest := rest) (fun sig h => hn.trans (hlen sig h)) hstack hW (by rw [hb]; exact hdg)
    (fun vm₁ hW₁ => ⟨hf.1, hf.2, hPc (T.setVm vm₁) hT hW₁⟩)
  dsimp only [Pt.U, Pt.locs, Pt.cells, Pt.slots] at X' e1 e2 h1 h2 h3 st
  subst h1; subst h2; subst h3
  exact ⟨v, (T.setVm vm₁).calling g' mk (Value.ref b :: As).toArray, t, U', L, hT, X', hL, e1, e2, hq, st⟩
section
variable {y : MethodName} {bytes cc : ByteArray} {maxL nL mc ms n index : Nat} {ret : Option FieldType} {ws : List Cond} {rm : Room} {Pc : Array Value → State → Prop} {Qc : Array Value → State → Outcome → State → Prop} {XC : String → State → State → Prop} {free : Addr → Prop} {Ts : List Cond} {own C : String} {b : Addr} {As rest : List Value} {g : JFrame}
theorem vx_runVX {hh : List (Nat × Nat × Nat × Nat)} (S : CallFix p m c cc nL s args Ts own) (hM : vx_Met l y ws rm Pc Qc XC mc ms free) (cw : vx_CVW R s args own C index y bytes maxL ret hh ws rm mc ms n) (hp : PreV s H C b Pc As)
    (hg : g.method = m) (hn : As.length = n) (hsize : g.locals.size = nL) (hstack : g.stack = As.reverse ++ .ref b :: rest) (hW : 2 * g.monitorRoom + (rest.map fun v => v.category).sum ≤ 8) (hdg : decode cc g.pc = .ok (.invokevirtual index, 3)) (hf : cells + mc ≤ R.cells ∧ slots + ms ≤ R.slots) :
    vx_Run p l e R s m args below meth c H locs cells slots mc ms g rest (Qc (Value.ref b :: As).toArray) XC free := by
  obtain ⟨⟨hrc, hrs, hfr, hlo, hws, hcw⟩, hcode, hini, hy, hlen, hl, hin, hse⟩ := cw
  have hK : vx_Back l R p e below s args y 3 8 (PreOf R mc ms Pc) (PostOf Qc mc ms free) (vx_Post XC mc ms free) := vx_backW (hh := hh) (bytes := bytes) (maxL := maxL) (ret := ret) hM hp.1 hrc hrs hfr hlo hws hcw (fun a' U hW => word_at hW (Or.inl (by first | rfl | simp [Cond.onTables, Cond.keeps, Cond.steady])) hini)
  obtain ⟨hx, hb, hml, ho, -⟩ := S
  obtain ⟨-, ⟨cellB, hcB, hoB, hclB⟩, hPc⟩ := hp
  intro T hT X
  rcases vx_callVX X hx (C := C) (hh := hh) (bytes := bytes) (maxL := maxL) (ret := ret) ho hl hin hse hcode hy hK (by rw [hT]; exact hcB) hoB hclB hg (hsize.trans hml.symm) (argsL := As) (rest := rest) (fun sig h => hn.trans (hlen sig h)) hstack hW (by rw [hb]; exact hdg)
    (fun vm₁ hW₁ => ⟨hf.1, hf.2, hPc (T.setVm vm₁) hT hW₁⟩) with ⟨v, vm₁, ⟨U', l2, c2, s2⟩, hW₁, X', ⟨g', mk, t, L, e1, e2, hq, h1, hL, h2, h3⟩, st⟩ | ⟨q, vm₁, ⟨U', l2, c2, s2⟩, hW₁, X', ⟨g', mk, t, L, E, ce, e1, e2, hq, hce, hcv, hcl, h1, hL, h2, h3⟩, st⟩
  · dsimp only [Pt.U, Pt.locs, Pt.cells, Pt.slots] at X' e1 e2 h1 h2 h3 st
    subst h1; subst h2; subst h3
    exact Or.inl ⟨v, (T.setVm vm₁).calling g' mk (Value.ref b :: As).toArray, t, U', L, hT, X', hL, e1, e2, hq, st⟩
  · dsimp only [Pt.U, Pt.locs, Pt.cells, Pt.slots] at X' e1 e2 h1 h2 h3 st hcl
    subst h1; subst h2; subst h3
    exact Or.inr ⟨q, (T.setVm vm₁).calling g' mk (Value.ref b :: As).toArray, t, U', L, E, ce, hT, X', hL, e1, e2, hq, hce, hcv, vx_cls hW₁ hcl, st⟩
theorem vx_runSX {hh : List (Nat × Nat × Nat × Nat)} (S : CallFix p m c cc nL s args Ts own) (hM : vx_Met l y ws rm Pc Qc XC mc ms free) (cw : vx_CSW R s args own index y bytes maxL ret hh ws rm mc ms n) (hp : PreS s H Pc As)
    (hg : g.method = m) (hn : As.length = n) (hsize : g.locals.size = nL) (hstack : g.stack = As.reverse ++ rest) (hW : 2 * g.monitorRoom + (rest.map fun v => v.category).sum ≤ 8) (hdg : decode cc g.pc = .ok (.invokestatic index, 3)) (hf : cells + mc ≤ R.cells ∧ slots + ms ≤ R.slots) :
    vx_Run p l e R s m args below meth c H locs cells slots mc ms g rest (Qc As.toArray) XC free := by
  obtain ⟨⟨hrc, hrs, hfr, hlo, hws, hcw⟩, hcode, hini, hy, hlen, hl, hstt⟩ := cw
  have hK : vx_Back l R p e below s args y 3 8 (PreOf R mc ms Pc) (PostOf Qc mc ms free) (vx_Post XC mc ms free) := vx_backW (hh := hh) (bytes := bytes) (maxL := maxL) (ret := ret) hM hp.1 hrc hrs hfr hlo hws hcw (fun a' U hW => word_at hW (Or.inl (by first | rfl | simp [Cond.onTables, Cond.keeps, Cond.steady])) hini)
  obtain ⟨hx, hb, hml, ho, -⟩ := S
  intro T hT X
  rcases vx_callSX X hx (hh := hh) (bytes := bytes) (maxL := maxL) (ret := ret) ho hl hstt hini hcode hy hK hg (hsize.trans hml.symm) (argsL := As) (rest := rest) (fun sig h => hn.trans (hlen sig h)) hstack hW (by rw [hb]; exact hdg)
    (fun vm₁ hW₁ => ⟨hf.1, hf.2, hp.2 (T.setVm vm₁) hT hW₁⟩) with ⟨v, vm₁, ⟨U', l2, c2, s2⟩, hW₁, X', ⟨g', mk, t, L, e1, e2, hq, h1, hL, h2, h3⟩, st⟩ | ⟨q, vm₁, ⟨U', l2, c2, s2⟩, hW₁, X', ⟨g', mk, t, L, E, ce, e1, e2, hq, hce, hcv, hcl, h1, hL, h2, h3⟩, st⟩
  · dsimp only [Pt.U, Pt.locs, Pt.cells, Pt.slots] at X' e1 e2 h1 h2 h3 st
    subst h1; subst h2; subst h3
    exact Or.inl ⟨v, (T.setVm vm₁).calling g' mk As.toArray, t, U', L, hT, X', hL, e1, e2, hq, st⟩
  · dsimp only [Pt.U, Pt.locs, Pt.cells, Pt.slots] at X' e1 e2 h1 h2 h3 st hcl
    subst h1; subst h2; subst h3
    exact Or.inr ⟨q, (T.setVm vm₁).calling g' mk As.toArray, t, U', L, E, ce, hT, X', hL, e1, e2, hq, hce, hcv, vx_cls hW₁ hcl, st⟩
end
end VXH
theorem vx_ofWH {l : Launch} {y : MethodName} {ws ws' : List Cond} {rm : Room} {Pc : Array Value → State → Prop} {Qc : Array Value → State → Outcome → State → Prop} {XC : String → State → State → Prop} {mc ms : Nat} {free : Addr → Prop} {cc : ByteArray} {maxL : Nat} {ret : Option FieldType} {hh : List (Nat × Nat × Nat × Nat)}
    (hy : plainName y.cls = true) (hw : ws = Cond.codeWith y cc maxL ret hh :: ws')
    (body : ∀ p e s m args below meth c s₁, BodyLoose p l y (headSpec ws rm) cc maxL ret e s m args below meth c s₁ → c.maxLocals = maxL → Pc args s →
      W p l e (headSpec ws rm).room s m args below meth c s.heap [] 0 0 (vx_MQ below Qc XC args s mc ms free) (entryFrame m args maxL)) : vx_Met l y ws rm Pc Qc XC mc ms free := by
  refine MetFree.of_bodyS (code := cc) (maxLocals := maxL) (ret := ret) hy ?_ ?_
  · intro args s m h hn
    obtain ⟨m9, meth, c, hn9, h1, h2, h3, h4, -, h5, h6, -⟩ := Cond.codeWith_spec (atoms_spec (ws := ws) h _ (by rw [hw]; exact List.mem_cons_self))
    cases hn.symm.trans hn9
    exact ⟨meth, c, h1, h2, h3, h4, h5, h6⟩
  · intro p e s m args below meth c s₁ B hml hP _
    have hh0 : s₁.heap = s.heap := by rw [B.state]; rfl
    obtain ⟨t, a1, o, b1, b2, b3⟩ := body p e s m args below meth c s₁ B hml hP s₁ hh0 (Stand.of_body B)
    exact ⟨t, o, a1, b1, b2, b3⟩
/-! ===== END ===== -/
end
section
theorem goodIn_r {big : List Cond} (ws : List Cond) (ps : List Nat) (hp : ws = ps.filterMap (fun i => big[i]?)) (h : ws.all goodWord = true) : GoodIn big ws := by
  intro w hw
  have h1 := List.all_eq_true.mp h w hw
  rw [hp] at hw
  obtain ⟨i, -, hi⟩ := List.mem_filterMap.mp hw
  have hm : w ∈ big := by first | exact List.mem_of_getElem? hi | exact List.getElem?_mem hi
  exact ⟨hm, good_of_word h1⟩
theorem goodIn_app {big a b : List Cond} (ha : GoodIn big a) (hb : GoodIn big b) : GoodIn big (a ++ b) := fun w h => (List.mem_append.mp h).elim (ha w) (hb w)
theorem goodIn_ca {big a b : List Cond} {c : Cond} (ha : GoodIn big (c :: a)) (hb : GoodIn big b) : GoodIn big (c :: (a ++ b)) := fun w h => (List.mem_cons.mp h).elim (fun e => ha w (List.mem_cons.mpr (Or.inl e))) (fun h => (List.mem_append.mp h).elim (fun h => ha w (List.mem_cons.mpr (Or.inr h))) (hb w))
theorem goodIn_sub {big ws : List Cond} (hm : ∀ w ∈ ws, w ∈ big) (h : ws.all goodWord = true) : GoodIn big ws := fun w hw => ⟨hm w hw, good_of_word (List.all_eq_true.mp h w hw)⟩
def RX0 : String := "OssuaryVault$Bytes"
def TX0 : u_T := fun k => match k with
  | 0 => ("OssuaryVault$Bytes", "cells", "[I", true)
  | _ => ("OssuaryVault$Bytes", "size", "I", false)
def tyX0 : Nat → FieldType := fun k => match k with
  | 0 => .array .int
  | _ => .int
abbrev wsX00 : List Cond := u_ws RX0 TX0 2
theorem nmX0 : ∀ a, a < 2 → ∀ b, b < 2 → a ≠ b → (TX0 a).2.1 ≠ (TX0 b).2.1 := by decide +kernel
theorem tyX0_ok : ∀ k, k < 2 → parseFieldDescriptor (TX0 k).2.2.1 = some (tyX0 k) := by decide +kernel
abbrev cX0_init : ByteArray := prog_2_method_1_code
def yX0_init : MethodName := ⟨RX0, "<init>", "(I)V"⟩
abbrev cX0_size : ByteArray := prog_2_method_2_code
def yX0_size : MethodName := ⟨RX0, "size", "()I"⟩
abbrev cX0_at : ByteArray := prog_2_method_3_code
def yX0_at : MethodName := ⟨RX0, "at", "(I)I"⟩
abbrev cX0_word : ByteArray := prog_2_method_4_code
def yX0_word : MethodName := ⟨RX0, "word", "(I)I"⟩
abbrev cX0_put : ByteArray := prog_2_method_5_code
def yX0_put : MethodName := ⟨RX0, "put", "(II)V"⟩
abbrev cX0_putWord : ByteArray := prog_2_method_6_code
def yX0_putWord : MethodName := ⟨RX0, "putWord", "(II)V"⟩
abbrev cX0_add : ByteArray := prog_2_method_7_code
def yX0_add : MethodName := ⟨RX0, "add", "(I)V"⟩
abbrev cX0_addWord : ByteArray := prog_2_method_8_code
def yX0_addWord : MethodName := ⟨RX0, "addWord", "(I)V"⟩
abbrev cX0_addTimes : ByteArray := prog_2_method_9_code
def yX0_addTimes : MethodName := ⟨RX0, "addTimes", "(II)V"⟩
abbrev cX0_addPart : ByteArray := prog_2_method_10_code
def yX0_addPart : MethodName := ⟨RX0, "addPart", "(LOssuaryVault$Bytes;II)V"⟩
abbrev cX0_clear : ByteArray := prog_2_method_11_code
def yX0_clear : MethodName := ⟨RX0, "clear", "()V"⟩
abbrev cX0_shorten : ByteArray := prog_2_method_12_code
def yX0_shorten : MethodName := ⟨RX0, "shorten", "(I)V"⟩
abbrev cX0_fillFrom : ByteArray := prog_2_method_13_code
def yX0_fillFrom : MethodName := ⟨RX0, "fillFrom", "(LOssuaryVault$Bytes;)V"⟩
abbrev cX0_sameAs : ByteArray := prog_2_method_14_code
def yX0_sameAs : MethodName := ⟨RX0, "sameAs", "(LOssuaryVault$Bytes;)Z"⟩
def RX1 : String := "OssuaryVault$Check"
def TX1 : u_T := fun k => match k with
  | _ => ("OssuaryVault$Check", "steps", "[I", true)
def tyX1 : Nat → FieldType := fun k => match k with
  | _ => .array .int
abbrev wsX10 : List Cond := u_ws RX1 TX1 1
theorem nmX1 : ∀ a, a < 1 → ∀ b, b < 1 → a ≠ b → (TX1 a).2.1 ≠ (TX1 b).2.1 := by decide +kernel
theorem tyX1_ok : ∀ k, k < 1 → parseFieldDescriptor (TX1 k).2.2.1 = some (tyX1 k) := by decide +kernel
abbrev cX1_init : ByteArray := prog_3_method_1_code
def yX1_init : MethodName := ⟨RX1, "<init>", "()V"⟩
abbrev cX1_eightSteps : ByteArray := prog_3_method_2_code
def yX1_eightSteps : MethodName := ⟨RX1, "eightSteps", "(I)I"⟩
abbrev cX1_after : ByteArray := prog_3_method_3_code
def yX1_after : MethodName := ⟨RX1, "after", "(ILOssuaryVault$Bytes;II)I"⟩
abbrev cX1_over : ByteArray := prog_3_method_4_code
def yX1_over : MethodName := ⟨RX1, "over", "(LOssuaryVault$Bytes;II)I"⟩
def RX2 : String := "OssuaryVault$Desk"
def TX2 : u_T := fun k => match k with
  | 0 => ("OssuaryVault$Desk", "check", "LOssuaryVault$Check;", true)
  | 1 => ("OssuaryVault$Desk", "sheet", "LOssuaryVault$Bytes;", true)
  | 2 => ("OssuaryVault$Desk", "stream", "LOssuaryVault$Bytes;", true)
  | 3 => ("OssuaryVault$Desk", "slots", "[LOssuaryVault$DeskFile;", true)
  | _ => ("OssuaryVault$Desk", "count", "I", false)
def tyX2 : Nat → FieldType := fun k => match k with
  | 0 => .object "OssuaryVault$Check"
  | 1 => .object "OssuaryVault$Bytes"
  | 2 => .object "OssuaryVault$Bytes"
  | 3 => .array (.object "OssuaryVault$DeskFile")
  | _ => .int
abbrev wsX20 : List Cond := u_ws RX2 TX2 5
theorem nmX2 : ∀ a, a < 5 → ∀ b, b < 5 → a ≠ b → (TX2 a).2.1 ≠ (TX2 b).2.1 := by decide +kernel
theorem tyX2_ok : ∀ k, k < 5 → parseFieldDescriptor (TX2 k).2.2.1 = some (tyX2 k) := by decide +kernel
abbrev cX2_init : ByteArray := prog_4_method_1_code
def yX2_init : MethodName := ⟨RX2, "<init>", "(LOssuaryVault$Check;)V"⟩
abbrev cX2_count : ByteArray := prog_4_method_2_code
def yX2_count : MethodName := ⟨RX2, "count", "()I"⟩
abbrev cX2_at : ByteArray := prog_4_method_3_code
def yX2_at : MethodName := ⟨RX2, "at", "(I)LOssuaryVault$DeskFile;"⟩
abbrev cX2_hasRoomFor : ByteArray := prog_4_method_4_code
def yX2_hasRoomFor : MethodName := ⟨RX2, "hasRoomFor", "(I)Z"⟩
abbrev cX2_placeOf : ByteArray := prog_4_method_5_code
def yX2_placeOf : MethodName := ⟨RX2, "placeOf", "(I)I"⟩
abbrev cX2_placeFor : ByteArray := prog_4_method_6_code
def yX2_placeFor : MethodName := ⟨RX2, "placeFor", "(I)I"⟩
abbrev cX2_put : ByteArray := prog_4_method_7_code
def yX2_put : MethodName := ⟨RX2, "put", "(ILOssuaryVault$Bytes;)V"⟩
abbrev cX2_takeOff : ByteArray := prog_4_method_8_code
def yX2_takeOff : MethodName := ⟨RX2, "takeOff", "(I)I"⟩
abbrev cX2_contentBytes : ByteArray := prog_4_method_9_code
def yX2_contentBytes : MethodName := ⟨RX2, "contentBytes", "()I"⟩
abbrev cX2_streamSize : ByteArray := prog_4_method_10_code
def yX2_streamSize : MethodName := ⟨RX2, "streamSize", "()I"⟩
abbrev cX2_writtenStream : ByteArray := prog_4_method_11_code
def yX2_writtenStream : MethodName := ⟨RX2, "writtenStream", "()LOssuaryVault$Bytes;"⟩
abbrev cX2_writeIndex : ByteArray := prog_4_method_12_code
def yX2_writeIndex : MethodName := ⟨RX2, "writeIndex", "()V"⟩
def RX3 : String := "OssuaryVault$DeskFile"
def TX3 : u_T := fun k => match k with
  | 0 => ("OssuaryVault$DeskFile", "content", "LOssuaryVault$Bytes;", true)
  | 1 => ("OssuaryVault$DeskFile", "packed", "LOssuaryVault$Bytes;", true)
  | 2 => ("OssuaryVault$DeskFile", "key", "I", false)
  | _ => ("OssuaryVault$DeskFile", "contentCheck", "I", false)
def tyX3 : Nat → FieldType := fun k => match k with
  | 0 => .object "OssuaryVault$Bytes"
  | 1 => .object "OssuaryVault$Bytes"
  | 2 => .int
  | _ => .int
abbrev wsX30 : List Cond := u_ws RX3 TX3 4
theorem nmX3 : ∀ a, a < 4 → ∀ b, b < 4 → a ≠ b → (TX3 a).2.1 ≠ (TX3 b).2.1 := by decide +kernel
theorem tyX3_ok : ∀ k, k < 4 → parseFieldDescriptor (TX3 k).2.2.1 = some (tyX3 k) := by decide +kernel
abbrev cX3_init : ByteArray := prog_5_method_1_code
def yX3_init : MethodName := ⟨RX3, "<init>", "()V"⟩
abbrev cX3_fill : ByteArray := prog_5_method_2_code
def yX3_fill : MethodName := ⟨RX3, "fill", "(ILOssuaryVault$Bytes;LOssuaryVault$Check;)V"⟩
abbrev cX3_goesPacked : ByteArray := prog_5_method_3_code
def yX3_goesPacked : MethodName := ⟨RX3, "goesPacked", "()Z"⟩
abbrev cX3_streamSize : ByteArray := prog_5_method_4_code
def yX3_streamSize : MethodName := ⟨RX3, "streamSize", "()I"⟩
abbrev cX3_writeTo : ByteArray := prog_5_method_5_code
def yX3_writeTo : MethodName := ⟨RX3, "writeTo", "(LOssuaryVault$Bytes;)V"⟩
def RX4 : String := "OssuaryVault$Field"
def TX4 : u_T := fun k => match k with
  | 0 => ("OssuaryVault$Field", "powers", "[I", true)
  | _ => ("OssuaryVault$Field", "logs", "[I", true)
def tyX4 : Nat → FieldType := fun k => match k with
  | 0 => .array .int
  | _ => .array .int
abbrev wsX40 : List Cond := u_ws RX4 TX4 2
theorem nmX4 : ∀ a, a < 2 → ∀ b, b < 2 → a ≠ b → (TX4 a).2.1 ≠ (TX4 b).2.1 := by decide +kernel
theorem tyX4_ok : ∀ k, k < 2 → parseFieldDescriptor (TX4 k).2.2.1 = some (tyX4 k) := by decide +kernel
abbrev cX4_init : ByteArray := prog_6_method_1_code
def yX4_init : MethodName := ⟨RX4, "<init>", "()V"⟩
abbrev cX4_times : ByteArray := prog_6_method_2_code
def yX4_times : MethodName := ⟨RX4, "times", "(II)I"⟩
abbrev cX4_oneOver : ByteArray := prog_6_method_3_code
def yX4_oneOver : MethodName := ⟨RX4, "oneOver", "(I)I"⟩
abbrev cX4_raised : ByteArray := prog_6_method_4_code
def yX4_raised : MethodName := ⟨RX4, "raised", "(II)I"⟩
abbrev cX4_parityWeight : ByteArray := prog_6_method_5_code
def yX4_parityWeight : MethodName := ⟨RX4, "parityWeight", "(II)I"⟩
abbrev cX4_addProducts : ByteArray := prog_6_method_6_code
def yX4_addProducts : MethodName := ⟨RX4, "addProducts", "(LOssuaryVault$Bytes;IILOssuaryVault$Bytes;II)V"⟩
abbrev cX4_weight : ByteArray := prog_6_method_7_code
def yX4_weight : MethodName := ⟨RX4, "weight", "(III)I"⟩
def RX5 : String := "OssuaryVault$FoundFile"
def TX5 : u_T := fun k => match k with
  | 0 => ("OssuaryVault$FoundFile", "content", "LOssuaryVault$Bytes;", true)
  | 1 => ("OssuaryVault$FoundFile", "key", "I", false)
  | 2 => ("OssuaryVault$FoundFile", "place", "I", false)
  | 3 => ("OssuaryVault$FoundFile", "lengthTold", "I", false)
  | _ => ("OssuaryVault$FoundFile", "good", "Z", false)
def tyX5 : Nat → FieldType := fun k => match k with
  | 0 => .object "OssuaryVault$Bytes"
  | 1 => .int
  | 2 => .int
  | 3 => .int
  | _ => .boolean
abbrev wsX50 : List Cond := u_ws RX5 TX5 5
theorem nmX5 : ∀ a, a < 5 → ∀ b, b < 5 → a ≠ b → (TX5 a).2.1 ≠ (TX5 b).2.1 := by decide +kernel
theorem tyX5_ok : ∀ k, k < 5 → parseFieldDescriptor (TX5 k).2.2.1 = some (tyX5 k) := by decide +kernel
abbrev cX5_init : ByteArray := prog_7_method_1_code
def yX5_init : MethodName := ⟨RX5, "<init>", "()V"⟩
abbrev cX5_size : ByteArray := prog_7_method_2_code
def yX5_size : MethodName := ⟨RX5, "size", "()I"⟩
def RX6 : String := "OssuaryVault$Packing"
def TX6 : u_T := fun k => match k with
  | _ => ("", "", "", false)
def tyX6 : Nat → FieldType := fun k => match k with
  | _ => .int
abbrev wsX60 : List Cond := u_ws RX6 TX6 0
theorem nmX6 : ∀ a, a < 0 → ∀ b, b < 0 → a ≠ b → (TX6 a).2.1 ≠ (TX6 b).2.1 := by decide +kernel
theorem tyX6_ok : ∀ k, k < 0 → parseFieldDescriptor (TX6 k).2.2.1 = some (tyX6 k) := by decide +kernel
abbrev cX6_pack : ByteArray := prog_8_method_2_code
def yX6_pack : MethodName := ⟨RX6, "pack", "(LOssuaryVault$Bytes;LOssuaryVault$Bytes;)V"⟩
abbrev cX6_isRun : ByteArray := prog_8_method_3_code
def yX6_isRun : MethodName := ⟨RX6, "isRun", "(LOssuaryVault$Bytes;I)Z"⟩
abbrev cX6_alikeFrom : ByteArray := prog_8_method_4_code
def yX6_alikeFrom : MethodName := ⟨RX6, "alikeFrom", "(LOssuaryVault$Bytes;I)I"⟩
abbrev cX6_apartFrom : ByteArray := prog_8_method_5_code
def yX6_apartFrom : MethodName := ⟨RX6, "apartFrom", "(LOssuaryVault$Bytes;I)I"⟩
abbrev cX6_unpack : ByteArray := prog_8_method_6_code
def yX6_unpack : MethodName := ⟨RX6, "unpack", "(LOssuaryVault$Bytes;IILOssuaryVault$Bytes;)Z"⟩
def RX7 : String := "OssuaryVault$Reading"
def TX7 : u_T := fun k => match k with
  | 0 => ("OssuaryVault$Reading", "check", "LOssuaryVault$Check;", true)
  | 1 => ("OssuaryVault$Reading", "stream", "LOssuaryVault$Bytes;", true)
  | 2 => ("OssuaryVault$Reading", "entries", "[LOssuaryVault$FoundFile;", true)
  | 3 => ("OssuaryVault$Reading", "isOpen", "Z", false)
  | 4 => ("OssuaryVault$Reading", "data", "I", false)
  | 5 => ("OssuaryVault$Reading", "parity", "I", false)
  | 6 => ("OssuaryVault$Reading", "indexed", "Z", false)
  | _ => ("OssuaryVault$Reading", "count", "I", false)
def tyX7 : Nat → FieldType := fun k => match k with
  | 0 => .object "OssuaryVault$Check"
  | 1 => .object "OssuaryVault$Bytes"
  | 2 => .array (.object "OssuaryVault$FoundFile")
  | 3 => .boolean
  | 4 => .int
  | 5 => .int
  | 6 => .boolean
  | _ => .int
abbrev wsX70 : List Cond := u_ws RX7 TX7 8
theorem nmX7 : ∀ a, a < 8 → ∀ b, b < 8 → a ≠ b → (TX7 a).2.1 ≠ (TX7 b).2.1 := by decide +kernel
theorem tyX7_ok : ∀ k, k < 8 → parseFieldDescriptor (TX7 k).2.2.1 = some (tyX7 k) := by decide +kernel
abbrev cX7_init : ByteArray := prog_9_method_1_code
def yX7_init : MethodName := ⟨RX7, "<init>", "(LOssuaryVault$Check;)V"⟩
abbrev cX7_at : ByteArray := prog_9_method_2_code
def yX7_at : MethodName := ⟨RX7, "at", "(I)LOssuaryVault$FoundFile;"⟩
abbrev cX7_close : ByteArray := prog_9_method_3_code
def yX7_close : MethodName := ⟨RX7, "close", "()V"⟩
abbrev cX7_begin : ByteArray := prog_9_method_4_code
def yX7_begin : MethodName := ⟨RX7, "begin", "(II)V"⟩
abbrev cX7_judgeFiles : ByteArray := prog_9_method_5_code
def yX7_judgeFiles : MethodName := ⟨RX7, "judgeFiles", "()V"⟩
abbrev cX7_tailPlace : ByteArray := prog_9_method_6_code
def yX7_tailPlace : MethodName := ⟨RX7, "tailPlace", "()I"⟩
abbrev cX7_indexStands : ByteArray := prog_9_method_7_code
def yX7_indexStands : MethodName := ⟨RX7, "indexStands", "()Z"⟩
abbrev cX7_takeIndexed : ByteArray := prog_9_method_8_code
def yX7_takeIndexed : MethodName := ⟨RX7, "takeIndexed", "()V"⟩
abbrev cX7_lookForFiles : ByteArray := prog_9_method_9_code
def yX7_lookForFiles : MethodName := ⟨RX7, "lookForFiles", "()V"⟩
abbrev cX7_endOfFile : ByteArray := prog_9_method_10_code
def yX7_endOfFile : MethodName := ⟨RX7, "endOfFile", "(I)I"⟩
abbrev cX7_liesAt : ByteArray := prog_9_method_11_code
def yX7_liesAt : MethodName := ⟨RX7, "liesAt", "(I)Z"⟩
abbrev cX7_readsWell : ByteArray := prog_9_method_12_code
def yX7_readsWell : MethodName := ⟨RX7, "readsWell", "(LOssuaryVault$FoundFile;)Z"⟩
abbrev cX7_takeContent : ByteArray := prog_9_method_13_code
def yX7_takeContent : MethodName := ⟨RX7, "takeContent", "(LOssuaryVault$FoundFile;)Z"⟩
def RX8 : String := "OssuaryVault$Recovery"
def TX8 : u_T := fun k => match k with
  | 0 => ("OssuaryVault$Recovery", "field", "LOssuaryVault$Field;", true)
  | 1 => ("OssuaryVault$Recovery", "matrix", "LOssuaryVault$Bytes;", true)
  | _ => ("OssuaryVault$Recovery", "chosen", "[I", true)
def tyX8 : Nat → FieldType := fun k => match k with
  | 0 => .object "OssuaryVault$Field"
  | 1 => .object "OssuaryVault$Bytes"
  | _ => .array .int
abbrev wsX80 : List Cond := u_ws RX8 TX8 3
theorem nmX8 : ∀ a, a < 3 → ∀ b, b < 3 → a ≠ b → (TX8 a).2.1 ≠ (TX8 b).2.1 := by decide +kernel
theorem tyX8_ok : ∀ k, k < 3 → parseFieldDescriptor (TX8 k).2.2.1 = some (tyX8 k) := by decide +kernel
abbrev cX8_init : ByteArray := prog_10_method_1_code
def yX8_init : MethodName := ⟨RX8, "<init>", "(LOssuaryVault$Field;)V"⟩
abbrev cX8_recover : ByteArray := prog_10_method_2_code
def yX8_recover : MethodName := ⟨RX8, "recover", "(LOssuaryVault$Shelf;LOssuaryVault$Volume;LOssuaryVault$Bytes;)I"⟩
abbrev cX8_choose : ByteArray := prog_10_method_3_code
def yX8_choose : MethodName := ⟨RX8, "choose", "(LOssuaryVault$Shelf;I)I"⟩
abbrev cX8_writeWeights : ByteArray := prog_10_method_4_code
def yX8_writeWeights : MethodName := ⟨RX8, "writeWeights", "(I)V"⟩
abbrev cX8_invert : ByteArray := prog_10_method_5_code
def yX8_invert : MethodName := ⟨RX8, "invert", "(I)V"⟩
abbrev cX8_scaleRow : ByteArray := prog_10_method_6_code
def yX8_scaleRow : MethodName := ⟨RX8, "scaleRow", "(II)V"⟩
abbrev cX8_workOut : ByteArray := prog_10_method_7_code
def yX8_workOut : MethodName := ⟨RX8, "workOut", "(LOssuaryVault$Shelf;IIILOssuaryVault$Bytes;)V"⟩
def RX9 : String := "OssuaryVault$Shelf"
def TX9 : u_T := fun k => match k with
  | 0 => ("OssuaryVault$Shelf", "field", "LOssuaryVault$Field;", true)
  | 1 => ("OssuaryVault$Shelf", "places", "[LOssuaryVault$Volume;", true)
  | 2 => ("OssuaryVault$Shelf", "numbers", "[I", true)
  | 3 => ("OssuaryVault$Shelf", "holders", "[I", true)
  | 4 => ("OssuaryVault$Shelf", "blank", "LOssuaryVault$Volume;", false)
  | 5 => ("OssuaryVault$Shelf", "leaderPlace", "I", false)
  | _ => ("OssuaryVault$Shelf", "members", "I", false)
def tyX9 : Nat → FieldType := fun k => match k with
  | 0 => .object "OssuaryVault$Field"
  | 1 => .array (.object "OssuaryVault$Volume")
  | 2 => .array .int
  | 3 => .array .int
  | 4 => .object "OssuaryVault$Volume"
  | 5 => .int
  | _ => .int
abbrev wsX90 : List Cond := u_ws RX9 TX9 7
theorem nmX9 : ∀ a, a < 7 → ∀ b, b < 7 → a ≠ b → (TX9 a).2.1 ≠ (TX9 b).2.1 := by decide +kernel
theorem tyX9_ok : ∀ k, k < 7 → parseFieldDescriptor (TX9 k).2.2.1 = some (tyX9 k) := by decide +kernel
abbrev cX9_init : ByteArray := prog_11_method_1_code
def yX9_init : MethodName := ⟨RX9, "<init>", "(LOssuaryVault$Check;LOssuaryVault$Field;)V"⟩
abbrev cX9_at : ByteArray := prog_11_method_2_code
def yX9_at : MethodName := ⟨RX9, "at", "(I)LOssuaryVault$Volume;"⟩
abbrev cX9_swap : ByteArray := prog_11_method_3_code
def yX9_swap : MethodName := ⟨RX9, "swap", "(II)V"⟩
abbrev cX9_survey : ByteArray := prog_11_method_4_code
def yX9_survey : MethodName := ⟨RX9, "survey", "()V"⟩
abbrev cX9_seeWhole : ByteArray := prog_11_method_5_code
def yX9_seeWhole : MethodName := ⟨RX9, "seeWhole", "(I)V"⟩
abbrev cX9_memberNumber : ByteArray := prog_11_method_6_code
def yX9_memberNumber : MethodName := ⟨RX9, "memberNumber", "(I)I"⟩
abbrev cX9_memberWith : ByteArray := prog_11_method_7_code
def yX9_memberWith : MethodName := ⟨RX9, "memberWith", "(I)LOssuaryVault$Volume;"⟩
abbrev cX9_surplus : ByteArray := prog_11_method_8_code
def yX9_surplus : MethodName := ⟨RX9, "surplus", "()I"⟩
abbrev cX9_allBytes : ByteArray := prog_11_method_9_code
def yX9_allBytes : MethodName := ⟨RX9, "allBytes", "()I"⟩
abbrev cX9_fillWith : ByteArray := prog_11_method_10_code
def yX9_fillWith : MethodName := ⟨RX9, "fillWith", "(LOssuaryVault$Bytes;II)I"⟩
abbrev cX9_form : ByteArray := prog_11_method_11_code
def yX9_form : MethodName := ⟨RX9, "form", "(LOssuaryVault$Volume;IIILOssuaryVault$Bytes;)V"⟩
def RX10 : String := "OssuaryVault$Volume"
def TX10 : u_T := fun k => match k with
  | 0 => ("OssuaryVault$Volume", "check", "LOssuaryVault$Check;", true)
  | 1 => ("OssuaryVault$Volume", "bytes", "LOssuaryVault$Bytes;", true)
  | 2 => ("OssuaryVault$Volume", "here", "Z", false)
  | _ => ("OssuaryVault$Volume", "verdict", "I", false)
def tyX10 : Nat → FieldType := fun k => match k with
  | 0 => .object "OssuaryVault$Check"
  | 1 => .object "OssuaryVault$Bytes"
  | 2 => .boolean
  | _ => .int
abbrev wsX100 : List Cond := u_ws RX10 TX10 4
theorem nmX10 : ∀ a, a < 4 → ∀ b, b < 4 → a ≠ b → (TX10 a).2.1 ≠ (TX10 b).2.1 := by decide +kernel
theorem tyX10_ok : ∀ k, k < 4 → parseFieldDescriptor (TX10 k).2.2.1 = some (tyX10 k) := by decide +kernel
abbrev cX10_init : ByteArray := prog_12_method_1_code
def yX10_init : MethodName := ⟨RX10, "<init>", "(LOssuaryVault$Check;)V"⟩
abbrev cX10_isHere : ByteArray := prog_12_method_2_code
def yX10_isHere : MethodName := ⟨RX10, "isHere", "()Z"⟩
abbrev cX10_size : ByteArray := prog_12_method_3_code
def yX10_size : MethodName := ⟨RX10, "size", "()I"⟩
abbrev cX10_number : ByteArray := prog_12_method_4_code
def yX10_number : MethodName := ⟨RX10, "number", "()I"⟩
abbrev cX10_dataTold : ByteArray := prog_12_method_5_code
def yX10_dataTold : MethodName := ⟨RX10, "dataTold", "()I"⟩
abbrev cX10_parityTold : ByteArray := prog_12_method_6_code
def yX10_parityTold : MethodName := ⟨RX10, "parityTold", "()I"⟩
abbrev cX10_bodyTold : ByteArray := prog_12_method_7_code
def yX10_bodyTold : MethodName := ⟨RX10, "bodyTold", "()I"⟩
abbrev cX10_streamTold : ByteArray := prog_12_method_8_code
def yX10_streamTold : MethodName := ⟨RX10, "streamTold", "()I"⟩
abbrev cX10_vanish : ByteArray := prog_12_method_9_code
def yX10_vanish : MethodName := ⟨RX10, "vanish", "()V"⟩
abbrev cX10_become : ByteArray := prog_12_method_10_code
def yX10_become : MethodName := ⟨RX10, "become", "(LOssuaryVault$Volume;)V"⟩
abbrev cX10_sameAs : ByteArray := prog_12_method_11_code
def yX10_sameAs : MethodName := ⟨RX10, "sameAs", "(LOssuaryVault$Volume;)Z"⟩
abbrev cX10_begin : ByteArray := prog_12_method_12_code
def yX10_begin : MethodName := ⟨RX10, "begin", "(IIII)V"⟩
abbrev cX10_mix : ByteArray := prog_12_method_13_code
def yX10_mix : MethodName := ⟨RX10, "mix", "(II)I"⟩
abbrev cX10_shorten : ByteArray := prog_12_method_14_code
def yX10_shorten : MethodName := ⟨RX10, "shorten", "(I)V"⟩
abbrev cX10_seal : ByteArray := prog_12_method_15_code
def yX10_seal : MethodName := ⟨RX10, "seal", "()I"⟩
abbrev cX10_rightCheck : ByteArray := prog_12_method_16_code
def yX10_rightCheck : MethodName := ⟨RX10, "rightCheck", "()I"⟩
abbrev cX10_isWhole : ByteArray := prog_12_method_17_code
def yX10_isWhole : MethodName := ⟨RX10, "isWhole", "()Z"⟩
abbrev cX10_headFits : ByteArray := prog_12_method_18_code
def yX10_headFits : MethodName := ⟨RX10, "headFits", "()Z"⟩
abbrev cX10_isOfOneWith : ByteArray := prog_12_method_19_code
def yX10_isOfOneWith : MethodName := ⟨RX10, "isOfOneWith", "(LOssuaryVault$Volume;)Z"⟩
def RX11 : String := "OssuaryVault"
def TX11 : u_T := fun k => match k with
  | 0 => ("OssuaryVault", "field", "LOssuaryVault$Field;", true)
  | 1 => ("OssuaryVault", "desk", "LOssuaryVault$Desk;", true)
  | 2 => ("OssuaryVault", "shelf", "LOssuaryVault$Shelf;", true)
  | 3 => ("OssuaryVault", "recovery", "LOssuaryVault$Recovery;", true)
  | _ => ("OssuaryVault", "reading", "LOssuaryVault$Reading;", true)
def tyX11 : Nat → FieldType := fun k => match k with
  | 0 => .object "OssuaryVault$Field"
  | 1 => .object "OssuaryVault$Desk"
  | 2 => .object "OssuaryVault$Shelf"
  | 3 => .object "OssuaryVault$Recovery"
  | _ => .object "OssuaryVault$Reading"
abbrev wsX110 : List Cond := u_ws RX11 TX11 5
theorem nmX11 : ∀ a, a < 5 → ∀ b, b < 5 → a ≠ b → (TX11 a).2.1 ≠ (TX11 b).2.1 := by decide +kernel
theorem tyX11_ok : ∀ k, k < 5 → parseFieldDescriptor (TX11 k).2.2.1 = some (tyX11 k) := by decide +kernel
abbrev cX11_init : ByteArray := prog_1_method_1_code
def yX11_init : MethodName := ⟨RX11, "<init>", "()V"⟩
abbrev cX11_product : ByteArray := prog_1_method_2_code
def yX11_product : MethodName := ⟨RX11, "product", "(II)I"⟩
abbrev cX11_inverse : ByteArray := prog_1_method_3_code
def yX11_inverse : MethodName := ⟨RX11, "inverse", "(I)I"⟩
abbrev cX11_power : ByteArray := prog_1_method_4_code
def yX11_power : MethodName := ⟨RX11, "power", "(II)I"⟩
abbrev cX11_coefficient : ByteArray := prog_1_method_5_code
def yX11_coefficient : MethodName := ⟨RX11, "coefficient", "(II)I"⟩
abbrev cX11_write : ByteArray := prog_1_method_6_code
def yX11_write : MethodName := ⟨RX11, "write", "(II)I"⟩
abbrev cX11_noise : ByteArray := prog_1_method_7_code
def yX11_noise : MethodName := ⟨RX11, "noise", "(II)I"⟩
abbrev cX11_cutSheet : ByteArray := prog_1_method_8_code
def yX11_cutSheet : MethodName := ⟨RX11, "cutSheet", "(I)I"⟩
abbrev cX11_store : ByteArray := prog_1_method_9_code
def yX11_store : MethodName := ⟨RX11, "store", "(I)I"⟩
abbrev cX11_remove : ByteArray := prog_1_method_10_code
def yX11_remove : MethodName := ⟨RX11, "remove", "(I)I"⟩
abbrev cX11_files : ByteArray := prog_1_method_11_code
def yX11_files : MethodName := ⟨RX11, "files", "()I"⟩
abbrev cX11_keyOf : ByteArray := prog_1_method_12_code
def yX11_keyOf : MethodName := ⟨RX11, "keyOf", "(I)I"⟩
abbrev cX11_lengthOf : ByteArray := prog_1_method_13_code
def yX11_lengthOf : MethodName := ⟨RX11, "lengthOf", "(I)I"⟩
abbrev cX11_contentAt : ByteArray := prog_1_method_14_code
def yX11_contentAt : MethodName := ⟨RX11, "contentAt", "(II)I"⟩
abbrev cX11_checkOf : ByteArray := prog_1_method_15_code
def yX11_checkOf : MethodName := ⟨RX11, "checkOf", "(I)I"⟩
abbrev cX11_packedLength : ByteArray := prog_1_method_16_code
def yX11_packedLength : MethodName := ⟨RX11, "packedLength", "(I)I"⟩
abbrev cX11_packedAt : ByteArray := prog_1_method_17_code
def yX11_packedAt : MethodName := ⟨RX11, "packedAt", "(II)I"⟩
abbrev cX11_streamLength : ByteArray := prog_1_method_18_code
def yX11_streamLength : MethodName := ⟨RX11, "streamLength", "()I"⟩
abbrev cX11_build : ByteArray := prog_1_method_19_code
def yX11_build : MethodName := ⟨RX11, "build", "(II)I"⟩
abbrev cX11_sizeOf : ByteArray := prog_1_method_20_code
def yX11_sizeOf : MethodName := ⟨RX11, "sizeOf", "(I)I"⟩
abbrev cX11_byteAt : ByteArray := prog_1_method_21_code
def yX11_byteAt : MethodName := ⟨RX11, "byteAt", "(II)I"⟩
abbrev cX11_spoil : ByteArray := prog_1_method_22_code
def yX11_spoil : MethodName := ⟨RX11, "spoil", "(III)I"⟩
abbrev cX11_sign : ByteArray := prog_1_method_23_code
def yX11_sign : MethodName := ⟨RX11, "sign", "(I)I"⟩
abbrev cX11_cut : ByteArray := prog_1_method_24_code
def yX11_cut : MethodName := ⟨RX11, "cut", "(II)I"⟩
abbrev cX11_lose : ByteArray := prog_1_method_25_code
def yX11_lose : MethodName := ⟨RX11, "lose", "(I)Z"⟩
abbrev cX11_exchange : ByteArray := prog_1_method_26_code
def yX11_exchange : MethodName := ⟨RX11, "exchange", "(II)I"⟩
abbrev cX11_copy : ByteArray := prog_1_method_27_code
def yX11_copy : MethodName := ⟨RX11, "copy", "(II)I"⟩
abbrev cX11_isSound : ByteArray := prog_1_method_28_code
def yX11_isSound : MethodName := ⟨RX11, "isSound", "(I)Z"⟩
abbrev cX11_leader : ByteArray := prog_1_method_29_code
def yX11_leader : MethodName := ⟨RX11, "leader", "()I"⟩
abbrev cX11_present : ByteArray := prog_1_method_30_code
def yX11_present : MethodName := ⟨RX11, "present", "()I"⟩
abbrev cX11_numberOf : ByteArray := prog_1_method_31_code
def yX11_numberOf : MethodName := ⟨RX11, "numberOf", "(I)I"⟩
abbrev cX11_spare : ByteArray := prog_1_method_32_code
def yX11_spare : MethodName := ⟨RX11, "spare", "()I"⟩
abbrev cX11_repair : ByteArray := prog_1_method_33_code
def yX11_repair : MethodName := ⟨RX11, "repair", "()I"⟩
abbrev cX11_open : ByteArray := prog_1_method_34_code
def yX11_open : MethodName := ⟨RX11, "open", "()I"⟩
abbrev cX11_opened : ByteArray := prog_1_method_35_code
def yX11_opened : MethodName := ⟨RX11, "opened", "()I"⟩
abbrev cX11_streamAt : ByteArray := prog_1_method_36_code
def yX11_streamAt : MethodName := ⟨RX11, "streamAt", "(I)I"⟩
abbrev cX11_hasIndex : ByteArray := prog_1_method_37_code
def yX11_hasIndex : MethodName := ⟨RX11, "hasIndex", "()Z"⟩
abbrev cX11_found : ByteArray := prog_1_method_38_code
def yX11_found : MethodName := ⟨RX11, "found", "()I"⟩
abbrev cX11_keyFound : ByteArray := prog_1_method_39_code
def yX11_keyFound : MethodName := ⟨RX11, "keyFound", "(I)I"⟩
abbrev cX11_placeFound : ByteArray := prog_1_method_40_code
def yX11_placeFound : MethodName := ⟨RX11, "placeFound", "(I)I"⟩
abbrev cX11_isGood : ByteArray := prog_1_method_41_code
def yX11_isGood : MethodName := ⟨RX11, "isGood", "(I)Z"⟩
abbrev cX11_lengthFound : ByteArray := prog_1_method_42_code
def yX11_lengthFound : MethodName := ⟨RX11, "lengthFound", "(I)I"⟩
abbrev cX11_byteFound : ByteArray := prog_1_method_43_code
def yX11_byteFound : MethodName := ⟨RX11, "byteFound", "(II)I"⟩
abbrev cX11_restore : ByteArray := prog_1_method_44_code
def yX11_restore : MethodName := ⟨RX11, "restore", "()I"⟩
abbrev cX11_cost : ByteArray := prog_1_method_45_code
def yX11_cost : MethodName := ⟨RX11, "cost", "()D"⟩
abbrev cX11_digest : ByteArray := prog_1_method_46_code
def yX11_digest : MethodName := ⟨RX11, "digest", "()J"⟩
abbrev cX11_withDesk : ByteArray := prog_1_method_47_code
def yX11_withDesk : MethodName := ⟨RX11, "withDesk", "(J)J"⟩
abbrev cX11_withShelf : ByteArray := prog_1_method_48_code
def yX11_withShelf : MethodName := ⟨RX11, "withShelf", "(J)J"⟩
abbrev cX11_withReading : ByteArray := prog_1_method_49_code
def yX11_withReading : MethodName := ⟨RX11, "withReading", "(J)J"⟩
abbrev cX11_then : ByteArray := prog_1_method_50_code
def yX11_then : MethodName := ⟨RX11, "then", "(JJ)J"⟩
abbrev cX11_deskFile : ByteArray := prog_1_method_51_code
def yX11_deskFile : MethodName := ⟨RX11, "deskFile", "(I)LOssuaryVault$DeskFile;"⟩
abbrev cX11_placeOnShelf : ByteArray := prog_1_method_52_code
def yX11_placeOnShelf : MethodName := ⟨RX11, "placeOnShelf", "(I)LOssuaryVault$Volume;"⟩
abbrev cX11_volumeOnShelf : ByteArray := prog_1_method_53_code
def yX11_volumeOnShelf : MethodName := ⟨RX11, "volumeOnShelf", "(I)LOssuaryVault$Volume;"⟩
abbrev cX11_requireOpen : ByteArray := prog_1_method_54_code
def yX11_requireOpen : MethodName := ⟨RX11, "requireOpen", "()V"⟩
abbrev cX11_readFile : ByteArray := prog_1_method_55_code
def yX11_readFile : MethodName := ⟨RX11, "readFile", "(I)LOssuaryVault$FoundFile;"⟩
abbrev cX11_byteIn : ByteArray := prog_1_method_56_code
def yX11_byteIn : MethodName := ⟨RX11, "byteIn", "(LOssuaryVault$Bytes;I)I"⟩
abbrev cX11_isByte : ByteArray := prog_1_method_57_code
def yX11_isByte : MethodName := ⟨RX11, "isByte", "(I)Z"⟩
abbrev cX11_isWord : ByteArray := prog_1_method_58_code
def yX11_isWord : MethodName := ⟨RX11, "isWord", "(I)Z"⟩
abbrev cX11_bodySize : ByteArray := prog_1_method_59_code
def yX11_bodySize : MethodName := ⟨RX11, "bodySize", "(II)I"⟩
def RX12 : String := "OssuaryVaultModel"
def TX12 : u_T := fun k => match k with
  | 0 => ("OssuaryVaultModel", "thrown", "I", false)
  | 1 => ("OssuaryVaultModel", "sheet", "[I", true)
  | 2 => ("OssuaryVaultModel", "written", "I", false)
  | 3 => ("OssuaryVaultModel", "files", "I", false)
  | 4 => ("OssuaryVaultModel", "keys", "[I", true)
  | 5 => ("OssuaryVaultModel", "lengths", "[I", true)
  | 6 => ("OssuaryVaultModel", "contents", "[[I", true)
  | 7 => ("OssuaryVaultModel", "volumes", "[[I", true)
  | 8 => ("OssuaryVaultModel", "sizes", "[I", true)
  | 9 => ("OssuaryVaultModel", "isOpen", "Z", false)
  | 10 => ("OssuaryVaultModel", "openedData", "I", false)
  | 11 => ("OssuaryVaultModel", "openedParity", "I", false)
  | 12 => ("OssuaryVaultModel", "stream", "[I", false)
  | 13 => ("OssuaryVaultModel", "isIndexed", "Z", false)
  | 14 => ("OssuaryVaultModel", "found", "I", false)
  | 15 => ("OssuaryVaultModel", "keysFound", "[I", true)
  | 16 => ("OssuaryVaultModel", "placesFound", "[I", true)
  | 17 => ("OssuaryVaultModel", "lengthsTold", "[I", true)
  | 18 => ("OssuaryVaultModel", "lengthsFound", "[I", true)
  | 19 => ("OssuaryVaultModel", "packed", "[I", true)
  | 20 => ("OssuaryVaultModel", "content", "[I", true)
  | 21 => ("OssuaryVaultModel", "sound", "[Z", true)
  | 22 => ("OssuaryVaultModel", "numbers", "[I", true)
  | 23 => ("OssuaryVaultModel", "leader", "I", false)
  | _ => ("OssuaryVaultModel", "present", "I", false)
def tyX12 : Nat → FieldType := fun k => match k with
  | 0 => .int
  | 1 => .array .int
  | 2 => .int
  | 3 => .int
  | 4 => .array .int
  | 5 => .array .int
  | 6 => .array (.array .int)
  | 7 => .array (.array .int)
  | 8 => .array .int
  | 9 => .boolean
  | 10 => .int
  | 11 => .int
  | 12 => .array .int
  | 13 => .boolean
  | 14 => .int
  | 15 => .array .int
  | 16 => .array .int
  | 17 => .array .int
  | 18 => .array .int
  | 19 => .array .int
  | 20 => .array .int
  | 21 => .array .boolean
  | 22 => .array .int
  | 23 => .int
  | _ => .int
abbrev wsX120 : List Cond := u_ws RX12 TX12 25
theorem nmX12 : ∀ a, a < 25 → ∀ b, b < 25 → a ≠ b → (TX12 a).2.1 ≠ (TX12 b).2.1 := by decide +kernel
theorem tyX12_ok : ∀ k, k < 25 → parseFieldDescriptor (TX12 k).2.2.1 = some (tyX12 k) := by decide +kernel
abbrev cX12_init : ByteArray := prog_14_method_1_code
def yX12_init : MethodName := ⟨RX12, "<init>", "()V"⟩
abbrev cX12_thrown : ByteArray := prog_14_method_2_code
def yX12_thrown : MethodName := ⟨RX12, "thrown", "()I"⟩
abbrev cX12_no : ByteArray := prog_14_method_3_code
def yX12_no : MethodName := ⟨RX12, "no", "(I)I"⟩
abbrev cX12_isNot : ByteArray := prog_14_method_4_code
def yX12_isNot : MethodName := ⟨RX12, "isNot", "(I)Z"⟩
abbrev cX12_ok : ByteArray := prog_14_method_5_code
def yX12_ok : MethodName := ⟨RX12, "ok", "(I)I"⟩
abbrev cX12_isIn : ByteArray := prog_14_method_6_code
def yX12_isIn : MethodName := ⟨RX12, "isIn", "(III)Z"⟩
abbrev cX12_times : ByteArray := prog_14_method_7_code
def yX12_times : MethodName := ⟨RX12, "times", "(II)I"⟩
abbrev cX12_inverseOf : ByteArray := prog_14_method_8_code
def yX12_inverseOf : MethodName := ⟨RX12, "inverseOf", "(I)I"⟩
abbrev cX12_factor : ByteArray := prog_14_method_9_code
def yX12_factor : MethodName := ⟨RX12, "factor", "(II)I"⟩
abbrev cX12_product : ByteArray := prog_14_method_10_code
def yX12_product : MethodName := ⟨RX12, "product", "(II)I"⟩
abbrev cX12_inverse : ByteArray := prog_14_method_11_code
def yX12_inverse : MethodName := ⟨RX12, "inverse", "(I)I"⟩
abbrev cX12_power : ByteArray := prog_14_method_12_code
def yX12_power : MethodName := ⟨RX12, "power", "(II)I"⟩
abbrev cX12_coefficient : ByteArray := prog_14_method_13_code
def yX12_coefficient : MethodName := ⟨RX12, "coefficient", "(II)I"⟩
abbrev cX12_checked : ByteArray := prog_14_method_14_code
def yX12_checked : MethodName := ⟨RX12, "checked", "(II)I"⟩
abbrev cX12_check : ByteArray := prog_14_method_15_code
def yX12_check : MethodName := ⟨RX12, "check", "([III)I"⟩
abbrev cX12_isTriple : ByteArray := prog_14_method_16_code
def yX12_isTriple : MethodName := ⟨RX12, "isTriple", "([III)Z"⟩
abbrev cX12_pack : ByteArray := prog_14_method_17_code
def yX12_pack : MethodName := ⟨RX12, "pack", "([II)I"⟩
abbrev cX12_unpack : ByteArray := prog_14_method_18_code
def yX12_unpack : MethodName := ⟨RX12, "unpack", "([IIIZ)I"⟩
abbrev cX12_write : ByteArray := prog_14_method_19_code
def yX12_write : MethodName := ⟨RX12, "write", "(II)I"⟩
abbrev cX12_noise : ByteArray := prog_14_method_20_code
def yX12_noise : MethodName := ⟨RX12, "noise", "(II)I"⟩
abbrev cX12_cutSheet : ByteArray := prog_14_method_21_code
def yX12_cutSheet : MethodName := ⟨RX12, "cutSheet", "(I)I"⟩
abbrev cX12_placeOf : ByteArray := prog_14_method_22_code
def yX12_placeOf : MethodName := ⟨RX12, "placeOf", "(I)I"⟩
abbrev cX12_move : ByteArray := prog_14_method_23_code
def yX12_move : MethodName := ⟨RX12, "move", "(II)V"⟩
abbrev cX12_put : ByteArray := prog_14_method_24_code
def yX12_put : MethodName := ⟨RX12, "put", "(I[II)V"⟩
abbrev cX12_store : ByteArray := prog_14_method_25_code
def yX12_store : MethodName := ⟨RX12, "store", "(I)I"⟩
abbrev cX12_remove : ByteArray := prog_14_method_26_code
def yX12_remove : MethodName := ⟨RX12, "remove", "(I)I"⟩
abbrev cX12_files : ByteArray := prog_14_method_27_code
def yX12_files : MethodName := ⟨RX12, "files", "()I"⟩
abbrev cX12_isFile : ByteArray := prog_14_method_28_code
def yX12_isFile : MethodName := ⟨RX12, "isFile", "(I)Z"⟩
abbrev cX12_keyOf : ByteArray := prog_14_method_29_code
def yX12_keyOf : MethodName := ⟨RX12, "keyOf", "(I)I"⟩
abbrev cX12_lengthOf : ByteArray := prog_14_method_30_code
def yX12_lengthOf : MethodName := ⟨RX12, "lengthOf", "(I)I"⟩
abbrev cX12_contentAt : ByteArray := prog_14_method_31_code
def yX12_contentAt : MethodName := ⟨RX12, "contentAt", "(II)I"⟩
abbrev cX12_checkOf : ByteArray := prog_14_method_32_code
def yX12_checkOf : MethodName := ⟨RX12, "checkOf", "(I)I"⟩
abbrev cX12_packedLength : ByteArray := prog_14_method_33_code
def yX12_packedLength : MethodName := ⟨RX12, "packedLength", "(I)I"⟩
abbrev cX12_packedAt : ByteArray := prog_14_method_34_code
def yX12_packedAt : MethodName := ⟨RX12, "packedAt", "(II)I"⟩
abbrev cX12_streamSize : ByteArray := prog_14_method_35_code
def yX12_streamSize : MethodName := ⟨RX12, "streamSize", "()I"⟩
abbrev cX12_streamLength : ByteArray := prog_14_method_36_code
def yX12_streamLength : MethodName := ⟨RX12, "streamLength", "()I"⟩
abbrev cX12_word : ByteArray := prog_14_method_37_code
def yX12_word : MethodName := ⟨RX12, "word", "([II)I"⟩
abbrev cX12_setWord : ByteArray := prog_14_method_38_code
def yX12_setWord : MethodName := ⟨RX12, "setWord", "([III)V"⟩
abbrev cX12_makeStream : ByteArray := prog_14_method_39_code
def yX12_makeStream : MethodName := ⟨RX12, "makeStream", "()[I"⟩
abbrev cX12_bodySize : ByteArray := prog_14_method_40_code
def yX12_bodySize : MethodName := ⟨RX12, "bodySize", "(II)I"⟩
abbrev cX12_makeVolume : ByteArray := prog_14_method_41_code
def yX12_makeVolume : MethodName := ⟨RX12, "makeVolume", "([IIII)[I"⟩
abbrev cX12_volumeCheck : ByteArray := prog_14_method_42_code
def yX12_volumeCheck : MethodName := ⟨RX12, "volumeCheck", "([II)I"⟩
abbrev cX12_isAs : ByteArray := prog_14_method_43_code
def yX12_isAs : MethodName := ⟨RX12, "isAs", "(I[I)Z"⟩
abbrev cX12_putVolumes : ByteArray := prog_14_method_44_code
def yX12_putVolumes : MethodName := ⟨RX12, "putVolumes", "([III)I"⟩
abbrev cX12_build : ByteArray := prog_14_method_45_code
def yX12_build : MethodName := ⟨RX12, "build", "(II)I"⟩
abbrev cX12_isPlace : ByteArray := prog_14_method_46_code
def yX12_isPlace : MethodName := ⟨RX12, "isPlace", "(I)Z"⟩
abbrev cX12_isVolume : ByteArray := prog_14_method_47_code
def yX12_isVolume : MethodName := ⟨RX12, "isVolume", "(I)Z"⟩
abbrev cX12_isByte : ByteArray := prog_14_method_48_code
def yX12_isByte : MethodName := ⟨RX12, "isByte", "(II)Z"⟩
abbrev cX12_sizeOf : ByteArray := prog_14_method_49_code
def yX12_sizeOf : MethodName := ⟨RX12, "sizeOf", "(I)I"⟩
abbrev cX12_byteAt : ByteArray := prog_14_method_50_code
def yX12_byteAt : MethodName := ⟨RX12, "byteAt", "(II)I"⟩
abbrev cX12_spoil : ByteArray := prog_14_method_51_code
def yX12_spoil : MethodName := ⟨RX12, "spoil", "(III)I"⟩
abbrev cX12_sign : ByteArray := prog_14_method_52_code
def yX12_sign : MethodName := ⟨RX12, "sign", "(I)I"⟩
abbrev cX12_cut : ByteArray := prog_14_method_53_code
def yX12_cut : MethodName := ⟨RX12, "cut", "(II)I"⟩
abbrev cX12_lose : ByteArray := prog_14_method_54_code
def yX12_lose : MethodName := ⟨RX12, "lose", "(I)Z"⟩
abbrev cX12_exchange : ByteArray := prog_14_method_55_code
def yX12_exchange : MethodName := ⟨RX12, "exchange", "(II)I"⟩
abbrev cX12_copy : ByteArray := prog_14_method_56_code
def yX12_copy : MethodName := ⟨RX12, "copy", "(II)I"⟩
abbrev cX12_isSoundNow : ByteArray := prog_14_method_57_code
def yX12_isSoundNow : MethodName := ⟨RX12, "isSoundNow", "(I)Z"⟩
abbrev cX12_look : ByteArray := prog_14_method_58_code
def yX12_look : MethodName := ⟨RX12, "look", "()V"⟩
abbrev cX12_isSound : ByteArray := prog_14_method_59_code
def yX12_isSound : MethodName := ⟨RX12, "isSound", "(I)Z"⟩
abbrev cX12_leader : ByteArray := prog_14_method_60_code
def yX12_leader : MethodName := ⟨RX12, "leader", "()I"⟩
abbrev cX12_present : ByteArray := prog_14_method_61_code
def yX12_present : MethodName := ⟨RX12, "present", "()I"⟩
abbrev cX12_numberOf : ByteArray := prog_14_method_62_code
def yX12_numberOf : MethodName := ⟨RX12, "numberOf", "(I)I"⟩
abbrev cX12_spareNow : ByteArray := prog_14_method_63_code
def yX12_spareNow : MethodName := ⟨RX12, "spareNow", "()I"⟩
abbrev cX12_spare : ByteArray := prog_14_method_64_code
def yX12_spare : MethodName := ⟨RX12, "spare", "()I"⟩
abbrev cX12_repair : ByteArray := prog_14_method_65_code
def yX12_repair : MethodName := ⟨RX12, "repair", "()I"⟩
abbrev cX12_placeOfNumber : ByteArray := prog_14_method_66_code
def yX12_placeOfNumber : MethodName := ⟨RX12, "placeOfNumber", "(I)I"⟩
abbrev cX12_workOut : ByteArray := prog_14_method_67_code
def yX12_workOut : MethodName := ⟨RX12, "workOut", "([[IIII)I"⟩
abbrev cX12_swap : ByteArray := prog_14_method_68_code
def yX12_swap : MethodName := ⟨RX12, "swap", "([[III)V"⟩
abbrev cX12_multiply : ByteArray := prog_14_method_69_code
def yX12_multiply : MethodName := ⟨RX12, "multiply", "([II)V"⟩
abbrev cX12_addTimes : ByteArray := prog_14_method_70_code
def yX12_addTimes : MethodName := ⟨RX12, "addTimes", "([I[II)V"⟩
abbrev cX12_open : ByteArray := prog_14_method_71_code
def yX12_open : MethodName := ⟨RX12, "open", "()I"⟩
abbrev cX12_indexPlace : ByteArray := prog_14_method_72_code
def yX12_indexPlace : MethodName := ⟨RX12, "indexPlace", "()I"⟩
abbrev cX12_recordSize : ByteArray := prog_14_method_73_code
def yX12_recordSize : MethodName := ⟨RX12, "recordSize", "(I)I"⟩
abbrev cX12_findFiles : ByteArray := prog_14_method_74_code
def yX12_findFiles : MethodName := ⟨RX12, "findFiles", "()V"⟩
abbrev cX12_add : ByteArray := prog_14_method_75_code
def yX12_add : MethodName := ⟨RX12, "add", "(III)V"⟩
abbrev cX12_read : ByteArray := prog_14_method_76_code
def yX12_read : MethodName := ⟨RX12, "read", "(I)I"⟩
abbrev cX12_opened : ByteArray := prog_14_method_77_code
def yX12_opened : MethodName := ⟨RX12, "opened", "()I"⟩
abbrev cX12_streamAt : ByteArray := prog_14_method_78_code
def yX12_streamAt : MethodName := ⟨RX12, "streamAt", "(I)I"⟩
abbrev cX12_hasIndex : ByteArray := prog_14_method_79_code
def yX12_hasIndex : MethodName := ⟨RX12, "hasIndex", "()Z"⟩
abbrev cX12_found : ByteArray := prog_14_method_80_code
def yX12_found : MethodName := ⟨RX12, "found", "()I"⟩
abbrev cX12_ofFound : ByteArray := prog_14_method_81_code
def yX12_ofFound : MethodName := ⟨RX12, "ofFound", "(I[I)I"⟩
abbrev cX12_keyFound : ByteArray := prog_14_method_82_code
def yX12_keyFound : MethodName := ⟨RX12, "keyFound", "(I)I"⟩
abbrev cX12_placeFound : ByteArray := prog_14_method_83_code
def yX12_placeFound : MethodName := ⟨RX12, "placeFound", "(I)I"⟩
abbrev cX12_isGood : ByteArray := prog_14_method_84_code
def yX12_isGood : MethodName := ⟨RX12, "isGood", "(I)Z"⟩
abbrev cX12_lengthFound : ByteArray := prog_14_method_85_code
def yX12_lengthFound : MethodName := ⟨RX12, "lengthFound", "(I)I"⟩
abbrev cX12_byteFound : ByteArray := prog_14_method_86_code
def yX12_byteFound : MethodName := ⟨RX12, "byteFound", "(II)I"⟩
abbrev cX12_restore : ByteArray := prog_14_method_87_code
def yX12_restore : MethodName := ⟨RX12, "restore", "()I"⟩
abbrev cX12_cost : ByteArray := prog_14_method_88_code
def yX12_cost : MethodName := ⟨RX12, "cost", "()D"⟩
abbrev cX12_digest : ByteArray := prog_14_method_89_code
def yX12_digest : MethodName := ⟨RX12, "digest", "()J"⟩
def wsX0_init : List Cond := .code yX0_init cX0_init 2 none :: ([.methodLink RX0 1 objectInit, .instanceMethod objectInit, .code objectInit ⟨#[0xb1]⟩ 1 none, .arrayClass .int, .fieldLink RX0 7 "OssuaryVault$Bytes" "cells" "[I"] ++ wsX00)
def wsX0_size : List Cond := .code yX0_size cX0_size 1 (some .int) :: ([.fieldLink RX0 13 "OssuaryVault$Bytes" "size" "I"] ++ wsX00)
def wsX0_at : List Cond := .code yX0_at cX0_at 2 (some .int) :: ([.fieldLink RX0 13 "OssuaryVault$Bytes" "size" "I", .fieldLink RX0 7 "OssuaryVault$Bytes" "cells" "[I"] ++ wsX00)
def wsX0_word : List Cond := .code yX0_word cX0_word 2 (some .int) :: ([.methodLink RX0 17 yX0_at, .instanceMethod yX0_at, .selects RX0 yX0_at yX0_at, .initialized RX0, .code yX0_at cX0_at 2 (some .int), .fieldLink RX0 13 "OssuaryVault$Bytes" "size" "I", .fieldLink RX0 7 "OssuaryVault$Bytes" "cells" "[I"] ++ wsX00)
def wsX0_put : List Cond := .code yX0_put cX0_put 3 none :: ([.fieldLink RX0 13 "OssuaryVault$Bytes" "size" "I", .fieldLink RX0 7 "OssuaryVault$Bytes" "cells" "[I"] ++ wsX00)
def wsX0_putWord : List Cond := .code yX0_putWord cX0_putWord 3 none :: ([.methodLink RX0 21 yX0_put, .instanceMethod yX0_put, .selects RX0 yX0_put yX0_put, .initialized RX0, .code yX0_put cX0_put 3 none, .fieldLink RX0 13 "OssuaryVault$Bytes" "size" "I", .fieldLink RX0 7 "OssuaryVault$Bytes" "cells" "[I"] ++ wsX00)
def wsX0_add : List Cond := .code yX0_add cX0_add 2 none :: ([.fieldLink RX0 13 "OssuaryVault$Bytes" "size" "I", .fieldLink RX0 7 "OssuaryVault$Bytes" "cells" "[I"] ++ wsX00)
def wsX0_addWord : List Cond := .code yX0_addWord cX0_addWord 2 none :: ([.methodLink RX0 25 yX0_add, .instanceMethod yX0_add, .selects RX0 yX0_add yX0_add, .initialized RX0, .code yX0_add cX0_add 2 none, .fieldLink RX0 13 "OssuaryVault$Bytes" "size" "I", .fieldLink RX0 7 "OssuaryVault$Bytes" "cells" "[I"] ++ wsX00)
def wsX0_addTimes : List Cond := .code yX0_addTimes cX0_addTimes 4 none :: ([.methodLink RX0 25 yX0_add, .instanceMethod yX0_add, .selects RX0 yX0_add yX0_add, .initialized RX0, .code yX0_add cX0_add 2 none, .fieldLink RX0 13 "OssuaryVault$Bytes" "size" "I", .fieldLink RX0 7 "OssuaryVault$Bytes" "cells" "[I"] ++ wsX00)
def wsX0_addPart : List Cond := .code yX0_addPart cX0_addPart 5 none :: ([.methodLink RX0 17 yX0_at, .instanceMethod yX0_at, .selects RX0 yX0_at yX0_at, .initialized RX0, .code yX0_at cX0_at 2 (some .int), .fieldLink RX0 13 "OssuaryVault$Bytes" "size" "I", .fieldLink RX0 7 "OssuaryVault$Bytes" "cells" "[I", .methodLink RX0 25 yX0_add, .instanceMethod yX0_add, .selects RX0 yX0_add yX0_add, .code yX0_add cX0_add 2 none] ++ wsX00)
def wsX0_clear : List Cond := .code yX0_clear cX0_clear 1 none :: ([.fieldLink RX0 13 "OssuaryVault$Bytes" "size" "I"] ++ wsX00)
def wsX0_shorten : List Cond := .code yX0_shorten cX0_shorten 2 none :: ([.fieldLink RX0 13 "OssuaryVault$Bytes" "size" "I"] ++ wsX00)
def wsX0_fillFrom : List Cond := .code yX0_fillFrom cX0_fillFrom 2 none :: ([.methodLink RX0 29 yX0_clear, .instanceMethod yX0_clear, .selects RX0 yX0_clear yX0_clear, .initialized RX0, .code yX0_clear cX0_clear 1 none, .fieldLink RX0 13 "OssuaryVault$Bytes" "size" "I", .methodLink RX0 32 yX0_size, .instanceMethod yX0_size, .selects RX0 yX0_size yX0_size, .code yX0_size cX0_size 1 (some .int), .methodLink RX0 35 yX0_addPart, .instanceMethod yX0_addPart, .selects RX0 yX0_addPart yX0_addPart, .code yX0_addPart cX0_addPart 5 none, .methodLink RX0 17 yX0_at, .instanceMethod yX0_at, .selects RX0 yX0_at yX0_at, .code yX0_at cX0_at 2 (some .int), .fieldLink RX0 7 "OssuaryVault$Bytes" "cells" "[I", .methodLink RX0 25 yX0_add, .instanceMethod yX0_add, .selects RX0 yX0_add yX0_add, .code yX0_add cX0_add 2 none] ++ wsX00)
def wsX0_sameAs : List Cond := .code yX0_sameAs cX0_sameAs 3 (some .boolean) :: ([.fieldLink RX0 13 "OssuaryVault$Bytes" "size" "I", .methodLink RX0 32 yX0_size, .instanceMethod yX0_size, .selects RX0 yX0_size yX0_size, .initialized RX0, .code yX0_size cX0_size 1 (some .int), .methodLink RX0 17 yX0_at, .instanceMethod yX0_at, .selects RX0 yX0_at yX0_at, .code yX0_at cX0_at 2 (some .int), .fieldLink RX0 7 "OssuaryVault$Bytes" "cells" "[I"] ++ wsX00)
def wsX1_eightSteps : List Cond := .code yX1_eightSteps cX1_eightSteps 3 (some .int) :: ([.constant RX1 17 (65536)])
def wsX1_init : List Cond := .code yX1_init cX1_init 2 none :: ([.methodLink RX1 1 objectInit, .instanceMethod objectInit, .code objectInit ⟨#[0xb1]⟩ 1 none, .arrayClass .int, .fieldLink RX1 7 "OssuaryVault$Check" "steps" "[I", .methodLink RX1 13 yX1_eightSteps, .static yX1_eightSteps, .initialized RX1, .code yX1_eightSteps cX1_eightSteps 3 (some .int), .constant RX1 17 (65536)] ++ wsX10)
def wsX1_after : List Cond := .code yX1_after cX1_after 7 (some .int) :: ([.constant RX1 18 (65535), .fieldLink RX1 7 "OssuaryVault$Check" "steps" "[I", .methodLink RX1 19 yX0_at, .instanceMethod yX0_at, .selects RX0 yX0_at yX0_at, .initialized RX0, .code yX0_at cX0_at 2 (some .int), .fieldLink RX0 13 "OssuaryVault$Bytes" "size" "I", .fieldLink RX0 7 "OssuaryVault$Bytes" "cells" "[I"] ++ wsX10 ++ wsX00)
def wsX1_over : List Cond := .code yX1_over cX1_over 4 (some .int) :: ([.constant RX1 18 (65535), .methodLink RX1 24 yX1_after, .instanceMethod yX1_after, .selects RX1 yX1_after yX1_after, .initialized RX1, .code yX1_after cX1_after 7 (some .int), .fieldLink RX1 7 "OssuaryVault$Check" "steps" "[I", .methodLink RX1 19 yX0_at, .instanceMethod yX0_at, .selects RX0 yX0_at yX0_at, .initialized RX0, .code yX0_at cX0_at 2 (some .int), .fieldLink RX0 13 "OssuaryVault$Bytes" "size" "I", .fieldLink RX0 7 "OssuaryVault$Bytes" "cells" "[I"] ++ wsX10 ++ wsX00)
def wsX3_init : List Cond := .code yX3_init cX3_init 1 none :: ([.methodLink RX3 3 objectInit, .instanceMethod objectInit, .code objectInit ⟨#[0xb1]⟩ 1 none, .classLink RX3 9 RX0, .instantiable RX0 2, .initialized RX0, .fieldLink RX3 14 "OssuaryVault$DeskFile" "content" "LOssuaryVault$Bytes;", .fieldLink RX3 20 "OssuaryVault$DeskFile" "packed" "LOssuaryVault$Bytes;", .methodLink RX3 11 yX0_init, .instanceMethod yX0_init, .code yX0_init cX0_init 2 none, .methodLink RX0 1 objectInit, .arrayClass .int, .fieldLink RX0 7 "OssuaryVault$Bytes" "cells" "[I"] ++ wsX00 ++ wsX30)
def wsX2_init_r1 : List Cond := [Cond.methodLink RX2 3 objectInit, Cond.instanceMethod objectInit, Cond.code objectInit ⟨#[0xb1]⟩ 1 none, Cond.classLink RX2 9 RX0, Cond.instantiable RX0 2, Cond.initialized RX0, Cond.fieldLink RX2 14 "OssuaryVault$Desk" "sheet" "LOssuaryVault$Bytes;", Cond.fieldLink RX2 20 "OssuaryVault$Desk" "stream" "LOssuaryVault$Bytes;", Cond.classLink RX2 23 RX3, Cond.fieldLink RX2 25 "OssuaryVault$Desk" "slots" "[LOssuaryVault$DeskFile;", Cond.fieldLink RX2 29 "OssuaryVault$Desk" "check" "LOssuaryVault$Check;", Cond.instantiable RX3 4, Cond.initialized RX3, Cond.methodLink RX2 11 yX0_init, Cond.instanceMethod yX0_init, Cond.code yX0_init cX0_init 2 none, Cond.methodLink RX0 1 objectInit, Cond.arrayClass .int, Cond.fieldLink RX0 7 "OssuaryVault$Bytes" "cells" "[I", Cond.instanceMethod yX3_init, Cond.code yX3_init cX3_init 1 none, Cond.methodLink RX3 3 objectInit, Cond.classLink RX3 9 RX0, Cond.fieldLink RX3 14 "OssuaryVault$DeskFile" "content" "LOssuaryVault$Bytes;"]
def wsX2_init_r2 : List Cond := [Cond.fieldLink RX3 20 "OssuaryVault$DeskFile" "packed" "LOssuaryVault$Bytes;", Cond.methodLink RX3 11 yX0_init]
def wsX2_init : List Cond := .code yX2_init cX2_init 3 none :: ((wsX2_init_r1 ++ wsX2_init_r2) ++ wsX00 ++ wsX20 ++ wsX30)
def wsX2_count : List Cond := .code yX2_count cX2_count 1 (some .int) :: ([.fieldLink RX2 34 "OssuaryVault$Desk" "count" "I"] ++ wsX20)
def wsX2_at : List Cond := .code yX2_at cX2_at 2 (some (.object "OssuaryVault$DeskFile")) :: ([.fieldLink RX2 34 "OssuaryVault$Desk" "count" "I", .fieldLink RX2 25 "OssuaryVault$Desk" "slots" "[LOssuaryVault$DeskFile;"] ++ wsX20)
def wsX2_placeFor : List Cond := .code yX2_placeFor cX2_placeFor 3 (some .int) :: ([.fieldLink RX2 34 "OssuaryVault$Desk" "count" "I", .fieldLink RX2 25 "OssuaryVault$Desk" "slots" "[LOssuaryVault$DeskFile;"] ++ wsX20 ++ wsX30)
def wsX2_placeOf : List Cond := .code yX2_placeOf cX2_placeOf 4 (some .int) :: ([.methodLink RX2 42 yX2_placeFor, .instanceMethod yX2_placeFor, .selects RX2 yX2_placeFor yX2_placeFor, .initialized RX2, .code yX2_placeFor cX2_placeFor 3 (some .int), .fieldLink RX2 34 "OssuaryVault$Desk" "count" "I", .fieldLink RX2 25 "OssuaryVault$Desk" "slots" "[LOssuaryVault$DeskFile;", .methodLink RX2 45 yX2_at, .instanceMethod yX2_at, .selects RX2 yX2_at yX2_at, .code yX2_at cX2_at 2 (some (.object "OssuaryVault$DeskFile"))] ++ wsX30 ++ wsX20)
def wsX2_hasRoomFor : List Cond := .code yX2_hasRoomFor cX2_hasRoomFor 2 (some .boolean) :: ([.fieldLink RX2 34 "OssuaryVault$Desk" "count" "I", .fieldLink RX2 25 "OssuaryVault$Desk" "slots" "[LOssuaryVault$DeskFile;", .methodLink RX2 38 yX2_placeOf, .instanceMethod yX2_placeOf, .selects RX2 yX2_placeOf yX2_placeOf, .initialized RX2, .code yX2_placeOf cX2_placeOf 4 (some .int), .methodLink RX2 42 yX2_placeFor, .instanceMethod yX2_placeFor, .selects RX2 yX2_placeFor yX2_placeFor, .code yX2_placeFor cX2_placeFor 3 (some .int), .methodLink RX2 45 yX2_at, .instanceMethod yX2_at, .selects RX2 yX2_at yX2_at, .code yX2_at cX2_at 2 (some (.object "OssuaryVault$DeskFile"))] ++ wsX20 ++ wsX30)
def wsX6_isRun : List Cond := .code yX6_isRun cX6_isRun 2 (some .boolean) :: ([.methodLink RX6 14 yX0_size, .instanceMethod yX0_size, .selects RX0 yX0_size yX0_size, .initialized RX0, .code yX0_size cX0_size 1 (some .int), .fieldLink RX0 13 "OssuaryVault$Bytes" "size" "I", .methodLink RX6 32 yX0_at, .instanceMethod yX0_at, .selects RX0 yX0_at yX0_at, .code yX0_at cX0_at 2 (some .int), .fieldLink RX0 7 "OssuaryVault$Bytes" "cells" "[I"] ++ wsX00)
def wsX6_alikeFrom : List Cond := .code yX6_alikeFrom cX6_alikeFrom 4 (some .int) :: ([.methodLink RX6 43 Lib.Math.min.name, .static Lib.Math.min.name, .initialized "java/lang/Math", .code Lib.Math.min.name Lib.Math.min.code 2 (some .int), .methodLink RX6 14 yX0_size, .instanceMethod yX0_size, .selects RX0 yX0_size yX0_size, .initialized RX0, .code yX0_size cX0_size 1 (some .int), .fieldLink RX0 13 "OssuaryVault$Bytes" "size" "I", .methodLink RX6 32 yX0_at, .instanceMethod yX0_at, .selects RX0 yX0_at yX0_at, .code yX0_at cX0_at 2 (some .int), .fieldLink RX0 7 "OssuaryVault$Bytes" "cells" "[I"] ++ wsX00)
def wsX6_apartFrom : List Cond := .code yX6_apartFrom cX6_apartFrom 4 (some .int) :: ([.methodLink RX6 43 Lib.Math.min.name, .static Lib.Math.min.name, .initialized "java/lang/Math", .code Lib.Math.min.name Lib.Math.min.code 2 (some .int), .methodLink RX6 14 yX0_size, .instanceMethod yX0_size, .selects RX0 yX0_size yX0_size, .initialized RX0, .code yX0_size cX0_size 1 (some .int), .fieldLink RX0 13 "OssuaryVault$Bytes" "size" "I", .methodLink RX6 18 yX6_isRun, .static yX6_isRun, .initialized RX6, .code yX6_isRun cX6_isRun 2 (some .boolean), .methodLink RX6 32 yX0_at, .instanceMethod yX0_at, .selects RX0 yX0_at yX0_at, .code yX0_at cX0_at 2 (some .int), .fieldLink RX0 7 "OssuaryVault$Bytes" "cells" "[I"] ++ wsX00)
def wsX6_pack_r1 : List Cond := [Cond.methodLink RX6 9 yX0_clear, Cond.instanceMethod yX0_clear, Cond.selects RX0 yX0_clear yX0_clear, Cond.initialized RX0, Cond.code yX0_clear cX0_clear 1 none, Cond.fieldLink RX0 13 "OssuaryVault$Bytes" "size" "I", Cond.methodLink RX6 14 yX0_size, Cond.instanceMethod yX0_size, Cond.selects RX0 yX0_size yX0_size, Cond.code yX0_size cX0_size 1 (some .int), Cond.methodLink RX6 18 yX6_isRun, Cond.static yX6_isRun, Cond.initialized RX6, Cond.code yX6_isRun cX6_isRun 2 (some .boolean), Cond.methodLink RX6 32 yX0_at, Cond.instanceMethod yX0_at, Cond.selects RX0 yX0_at yX0_at, Cond.code yX0_at cX0_at 2 (some .int), Cond.fieldLink RX0 7 "OssuaryVault$Bytes" "cells" "[I", Cond.methodLink RX6 24 yX6_alikeFrom, Cond.static yX6_alikeFrom, Cond.code yX6_alikeFrom cX6_alikeFrom 4 (some .int), Cond.methodLink RX6 43 Lib.Math.min.name, Cond.static Lib.Math.min.name]
def wsX6_pack_r2 : List Cond := [Cond.initialized "java/lang/Math", Cond.code Lib.Math.min.name Lib.Math.min.code 2 (some .int), Cond.methodLink RX6 28 yX0_add, Cond.instanceMethod yX0_add, Cond.selects RX0 yX0_add yX0_add, Cond.code yX0_add cX0_add 2 none, Cond.methodLink RX6 36 yX6_apartFrom, Cond.static yX6_apartFrom, Cond.code yX6_apartFrom cX6_apartFrom 4 (some .int), Cond.methodLink RX6 39 yX0_addPart, Cond.instanceMethod yX0_addPart, Cond.selects RX0 yX0_addPart yX0_addPart, Cond.code yX0_addPart cX0_addPart 5 none, Cond.methodLink RX0 17 yX0_at, Cond.methodLink RX0 25 yX0_add]
def wsX6_pack : List Cond := .code yX6_pack cX6_pack 5 none :: ((wsX6_pack_r1 ++ wsX6_pack_r2) ++ wsX00)
def wsX3_fill_r1 : List Cond := [Cond.fieldLink RX3 23 "OssuaryVault$DeskFile" "key" "I", Cond.fieldLink RX3 14 "OssuaryVault$DeskFile" "content" "LOssuaryVault$Bytes;", Cond.fieldLink RX3 41 "OssuaryVault$DeskFile" "contentCheck" "I", Cond.fieldLink RX3 20 "OssuaryVault$DeskFile" "packed" "LOssuaryVault$Bytes;", Cond.methodLink RX3 27 yX0_fillFrom, Cond.instanceMethod yX0_fillFrom, Cond.selects RX0 yX0_fillFrom yX0_fillFrom, Cond.initialized RX0, Cond.code yX0_fillFrom cX0_fillFrom 2 none, Cond.methodLink RX0 29 yX0_clear, Cond.instanceMethod yX0_clear, Cond.selects RX0 yX0_clear yX0_clear, Cond.code yX0_clear cX0_clear 1 none, Cond.fieldLink RX0 13 "OssuaryVault$Bytes" "size" "I", Cond.methodLink RX0 32 yX0_size, Cond.instanceMethod yX0_size, Cond.selects RX0 yX0_size yX0_size, Cond.code yX0_size cX0_size 1 (some .int), Cond.methodLink RX0 35 yX0_addPart, Cond.instanceMethod yX0_addPart, Cond.selects RX0 yX0_addPart yX0_addPart, Cond.code yX0_addPart cX0_addPart 5 none, Cond.methodLink RX0 17 yX0_at, Cond.instanceMethod yX0_at]
def wsX3_fill_r2 : List Cond := [Cond.selects RX0 yX0_at yX0_at, Cond.code yX0_at cX0_at 2 (some .int), Cond.fieldLink RX0 7 "OssuaryVault$Bytes" "cells" "[I", Cond.methodLink RX0 25 yX0_add, Cond.instanceMethod yX0_add, Cond.selects RX0 yX0_add yX0_add, Cond.code yX0_add cX0_add 2 none, Cond.methodLink RX3 31 yX0_size, Cond.methodLink RX3 35 yX1_over, Cond.instanceMethod yX1_over, Cond.selects RX1 yX1_over yX1_over, Cond.initialized RX1, Cond.code yX1_over cX1_over 4 (some .int), Cond.constant RX1 18 (65535), Cond.methodLink RX1 24 yX1_after, Cond.instanceMethod yX1_after, Cond.selects RX1 yX1_after yX1_after, Cond.code yX1_after cX1_after 7 (some .int), Cond.fieldLink RX1 7 "OssuaryVault$Check" "steps" "[I", Cond.methodLink RX1 19 yX0_at, Cond.methodLink RX3 44 yX6_pack, Cond.static yX6_pack, Cond.initialized RX6, Cond.code yX6_pack cX6_pack 5 none]
def wsX3_fill_r3 : List Cond := [Cond.methodLink RX6 9 yX0_clear, Cond.methodLink RX6 14 yX0_size, Cond.methodLink RX6 18 yX6_isRun, Cond.static yX6_isRun, Cond.code yX6_isRun cX6_isRun 2 (some .boolean), Cond.methodLink RX6 32 yX0_at, Cond.methodLink RX6 24 yX6_alikeFrom, Cond.static yX6_alikeFrom, Cond.code yX6_alikeFrom cX6_alikeFrom 4 (some .int), Cond.methodLink RX6 43 Lib.Math.min.name, Cond.static Lib.Math.min.name, Cond.initialized "java/lang/Math", Cond.code Lib.Math.min.name Lib.Math.min.code 2 (some .int), Cond.methodLink RX6 28 yX0_add, Cond.methodLink RX6 36 yX6_apartFrom, Cond.static yX6_apartFrom, Cond.code yX6_apartFrom cX6_apartFrom 4 (some .int), Cond.methodLink RX6 39 yX0_addPart]
def wsX3_fill : List Cond := .code yX3_fill cX3_fill 4 none :: ((wsX3_fill_r1 ++ (wsX3_fill_r2 ++ wsX3_fill_r3)) ++ wsX30 ++ wsX00 ++ wsX10)
def wsX2_put_r1 : List Cond := [Cond.fieldLink RX2 34 "OssuaryVault$Desk" "count" "I", Cond.fieldLink RX2 25 "OssuaryVault$Desk" "slots" "[LOssuaryVault$DeskFile;", Cond.fieldLink RX2 29 "OssuaryVault$Desk" "check" "LOssuaryVault$Check;", Cond.methodLink RX2 42 yX2_placeFor, Cond.instanceMethod yX2_placeFor, Cond.selects RX2 yX2_placeFor yX2_placeFor, Cond.initialized RX2, Cond.code yX2_placeFor cX2_placeFor 3 (some .int), Cond.methodLink RX2 38 yX2_placeOf, Cond.instanceMethod yX2_placeOf, Cond.selects RX2 yX2_placeOf yX2_placeOf, Cond.code yX2_placeOf cX2_placeOf 4 (some .int), Cond.methodLink RX2 45 yX2_at, Cond.instanceMethod yX2_at, Cond.selects RX2 yX2_at yX2_at, Cond.code yX2_at cX2_at 2 (some (.object "OssuaryVault$DeskFile")), Cond.methodLink RX2 52 yX3_fill, Cond.instanceMethod yX3_fill, Cond.selects RX3 yX3_fill yX3_fill, Cond.initialized RX3, Cond.code yX3_fill cX3_fill 4 none, Cond.fieldLink RX3 23 "OssuaryVault$DeskFile" "key" "I", Cond.fieldLink RX3 14 "OssuaryVault$DeskFile" "content" "LOssuaryVault$Bytes;", Cond.fieldLink RX3 41 "OssuaryVault$DeskFile" "contentCheck" "I"]
def wsX2_put_r2 : List Cond := [Cond.fieldLink RX3 20 "OssuaryVault$DeskFile" "packed" "LOssuaryVault$Bytes;", Cond.methodLink RX3 27 yX0_fillFrom, Cond.instanceMethod yX0_fillFrom, Cond.selects RX0 yX0_fillFrom yX0_fillFrom, Cond.initialized RX0, Cond.code yX0_fillFrom cX0_fillFrom 2 none, Cond.methodLink RX0 29 yX0_clear, Cond.instanceMethod yX0_clear, Cond.selects RX0 yX0_clear yX0_clear, Cond.code yX0_clear cX0_clear 1 none, Cond.fieldLink RX0 13 "OssuaryVault$Bytes" "size" "I", Cond.methodLink RX0 32 yX0_size, Cond.instanceMethod yX0_size, Cond.selects RX0 yX0_size yX0_size, Cond.code yX0_size cX0_size 1 (some .int), Cond.methodLink RX0 35 yX0_addPart, Cond.instanceMethod yX0_addPart, Cond.selects RX0 yX0_addPart yX0_addPart, Cond.code yX0_addPart cX0_addPart 5 none, Cond.methodLink RX0 17 yX0_at, Cond.instanceMethod yX0_at, Cond.selects RX0 yX0_at yX0_at, Cond.code yX0_at cX0_at 2 (some .int), Cond.fieldLink RX0 7 "OssuaryVault$Bytes" "cells" "[I"]
def wsX2_put_r3 : List Cond := [Cond.methodLink RX0 25 yX0_add, Cond.instanceMethod yX0_add, Cond.selects RX0 yX0_add yX0_add, Cond.code yX0_add cX0_add 2 none, Cond.methodLink RX3 31 yX0_size, Cond.methodLink RX3 35 yX1_over, Cond.instanceMethod yX1_over, Cond.selects RX1 yX1_over yX1_over, Cond.initialized RX1, Cond.code yX1_over cX1_over 4 (some .int), Cond.constant RX1 18 (65535), Cond.methodLink RX1 24 yX1_after, Cond.instanceMethod yX1_after, Cond.selects RX1 yX1_after yX1_after, Cond.code yX1_after cX1_after 7 (some .int), Cond.fieldLink RX1 7 "OssuaryVault$Check" "steps" "[I", Cond.methodLink RX1 19 yX0_at, Cond.methodLink RX3 44 yX6_pack, Cond.static yX6_pack, Cond.initialized RX6, Cond.code yX6_pack cX6_pack 5 none, Cond.methodLink RX6 9 yX0_clear, Cond.methodLink RX6 14 yX0_size, Cond.methodLink RX6 18 yX6_isRun]
def wsX2_put_r4 : List Cond := [Cond.static yX6_isRun, Cond.code yX6_isRun cX6_isRun 2 (some .boolean), Cond.methodLink RX6 32 yX0_at, Cond.methodLink RX6 24 yX6_alikeFrom, Cond.static yX6_alikeFrom, Cond.code yX6_alikeFrom cX6_alikeFrom 4 (some .int), Cond.methodLink RX6 43 Lib.Math.min.name, Cond.static Lib.Math.min.name, Cond.initialized "java/lang/Math", Cond.code Lib.Math.min.name Lib.Math.min.code 2 (some .int), Cond.methodLink RX6 28 yX0_add, Cond.methodLink RX6 36 yX6_apartFrom, Cond.static yX6_apartFrom, Cond.code yX6_apartFrom cX6_apartFrom 4 (some .int), Cond.methodLink RX6 39 yX0_addPart]
def wsX2_put : List Cond := .code yX2_put cX2_put 6 none :: ((wsX2_put_r1 ++ (wsX2_put_r2 ++ (wsX2_put_r3 ++ wsX2_put_r4))) ++ wsX20 ++ wsX30 ++ wsX00 ++ wsX10)
def wsX2_takeOff : List Cond := .code yX2_takeOff cX2_takeOff 5 (some .int) :: ([.fieldLink RX2 34 "OssuaryVault$Desk" "count" "I", .fieldLink RX2 25 "OssuaryVault$Desk" "slots" "[LOssuaryVault$DeskFile;", .methodLink RX2 38 yX2_placeOf, .instanceMethod yX2_placeOf, .selects RX2 yX2_placeOf yX2_placeOf, .initialized RX2, .code yX2_placeOf cX2_placeOf 4 (some .int), .methodLink RX2 42 yX2_placeFor, .instanceMethod yX2_placeFor, .selects RX2 yX2_placeFor yX2_placeFor, .code yX2_placeFor cX2_placeFor 3 (some .int), .methodLink RX2 45 yX2_at, .instanceMethod yX2_at, .selects RX2 yX2_at yX2_at, .code yX2_at cX2_at 2 (some (.object "OssuaryVault$DeskFile")), .methodLink RX2 59 yX0_size, .instanceMethod yX0_size, .selects RX0 yX0_size yX0_size, .initialized RX0, .code yX0_size cX0_size 1 (some .int), .fieldLink RX0 13 "OssuaryVault$Bytes" "size" "I"] ++ wsX20 ++ wsX30 ++ wsX00)
def wsX2_contentBytes : List Cond := .code yX2_contentBytes cX2_contentBytes 3 (some .int) :: ([.fieldLink RX2 34 "OssuaryVault$Desk" "count" "I", .fieldLink RX2 25 "OssuaryVault$Desk" "slots" "[LOssuaryVault$DeskFile;", .methodLink RX2 59 yX0_size, .instanceMethod yX0_size, .selects RX0 yX0_size yX0_size, .initialized RX0, .code yX0_size cX0_size 1 (some .int), .fieldLink RX0 13 "OssuaryVault$Bytes" "size" "I"] ++ wsX20 ++ wsX30 ++ wsX00)
def wsX3_goesPacked : List Cond := .code yX3_goesPacked cX3_goesPacked 1 (some .boolean) :: ([.fieldLink RX3 20 "OssuaryVault$DeskFile" "packed" "LOssuaryVault$Bytes;", .fieldLink RX3 14 "OssuaryVault$DeskFile" "content" "LOssuaryVault$Bytes;", .methodLink RX3 31 yX0_size, .instanceMethod yX0_size, .selects RX0 yX0_size yX0_size, .initialized RX0, .code yX0_size cX0_size 1 (some .int), .fieldLink RX0 13 "OssuaryVault$Bytes" "size" "I"] ++ wsX30 ++ wsX00)
def wsX3_streamSize : List Cond := .code yX3_streamSize cX3_streamSize 1 (some .int) :: ([.fieldLink RX3 20 "OssuaryVault$DeskFile" "packed" "LOssuaryVault$Bytes;", .fieldLink RX3 14 "OssuaryVault$DeskFile" "content" "LOssuaryVault$Bytes;", .methodLink RX3 50 yX3_goesPacked, .instanceMethod yX3_goesPacked, .selects RX3 yX3_goesPacked yX3_goesPacked, .initialized RX3, .code yX3_goesPacked cX3_goesPacked 1 (some .boolean), .methodLink RX3 31 yX0_size, .instanceMethod yX0_size, .selects RX0 yX0_size yX0_size, .initialized RX0, .code yX0_size cX0_size 1 (some .int), .fieldLink RX0 13 "OssuaryVault$Bytes" "size" "I"] ++ wsX30 ++ wsX00)
def wsX2_streamSize : List Cond := .code yX2_streamSize cX2_streamSize 3 (some .int) :: ([.fieldLink RX2 34 "OssuaryVault$Desk" "count" "I", .fieldLink RX2 25 "OssuaryVault$Desk" "slots" "[LOssuaryVault$DeskFile;", .methodLink RX2 63 yX3_streamSize, .instanceMethod yX3_streamSize, .selects RX3 yX3_streamSize yX3_streamSize, .initialized RX3, .code yX3_streamSize cX3_streamSize 1 (some .int), .fieldLink RX3 20 "OssuaryVault$DeskFile" "packed" "LOssuaryVault$Bytes;", .fieldLink RX3 14 "OssuaryVault$DeskFile" "content" "LOssuaryVault$Bytes;", .methodLink RX3 50 yX3_goesPacked, .instanceMethod yX3_goesPacked, .selects RX3 yX3_goesPacked yX3_goesPacked, .code yX3_goesPacked cX3_goesPacked 1 (some .boolean), .methodLink RX3 31 yX0_size, .instanceMethod yX0_size, .selects RX0 yX0_size yX0_size, .initialized RX0, .code yX0_size cX0_size 1 (some .int), .fieldLink RX0 13 "OssuaryVault$Bytes" "size" "I"] ++ wsX20 ++ wsX30 ++ wsX00)
def wsX3_writeTo_r1 : List Cond := [Cond.fieldLink RX3 20 "OssuaryVault$DeskFile" "packed" "LOssuaryVault$Bytes;", Cond.fieldLink RX3 14 "OssuaryVault$DeskFile" "content" "LOssuaryVault$Bytes;", Cond.fieldLink RX3 23 "OssuaryVault$DeskFile" "key" "I", Cond.fieldLink RX3 41 "OssuaryVault$DeskFile" "contentCheck" "I", Cond.methodLink RX3 50 yX3_goesPacked, Cond.instanceMethod yX3_goesPacked, Cond.selects RX3 yX3_goesPacked yX3_goesPacked, Cond.initialized RX3, Cond.code yX3_goesPacked cX3_goesPacked 1 (some .boolean), Cond.methodLink RX3 31 yX0_size, Cond.instanceMethod yX0_size, Cond.selects RX0 yX0_size yX0_size, Cond.initialized RX0, Cond.code yX0_size cX0_size 1 (some .int), Cond.fieldLink RX0 13 "OssuaryVault$Bytes" "size" "I", Cond.methodLink RX3 54 yX0_add, Cond.instanceMethod yX0_add, Cond.selects RX0 yX0_add yX0_add, Cond.code yX0_add cX0_add 2 none, Cond.fieldLink RX0 7 "OssuaryVault$Bytes" "cells" "[I", Cond.methodLink RX3 57 yX0_addWord, Cond.instanceMethod yX0_addWord, Cond.selects RX0 yX0_addWord yX0_addWord, Cond.code yX0_addWord cX0_addWord 2 none]
def wsX3_writeTo_r2 : List Cond := [Cond.methodLink RX0 25 yX0_add, Cond.methodLink RX3 60 yX0_addPart, Cond.instanceMethod yX0_addPart, Cond.selects RX0 yX0_addPart yX0_addPart, Cond.code yX0_addPart cX0_addPart 5 none, Cond.methodLink RX0 17 yX0_at, Cond.instanceMethod yX0_at, Cond.selects RX0 yX0_at yX0_at, Cond.code yX0_at cX0_at 2 (some .int)]
def wsX3_writeTo : List Cond := .code yX3_writeTo cX3_writeTo 3 none :: ((wsX3_writeTo_r1 ++ wsX3_writeTo_r2) ++ wsX30 ++ wsX00)
def wsX2_writeIndex_r1 : List Cond := [Cond.fieldLink RX2 34 "OssuaryVault$Desk" "count" "I", Cond.fieldLink RX2 20 "OssuaryVault$Desk" "stream" "LOssuaryVault$Bytes;", Cond.fieldLink RX2 25 "OssuaryVault$Desk" "slots" "[LOssuaryVault$DeskFile;", Cond.methodLink RX2 85 yX0_addWord, Cond.instanceMethod yX0_addWord, Cond.selects RX0 yX0_addWord yX0_addWord, Cond.initialized RX0, Cond.code yX0_addWord cX0_addWord 2 none, Cond.methodLink RX0 25 yX0_add, Cond.instanceMethod yX0_add, Cond.selects RX0 yX0_add yX0_add, Cond.code yX0_add cX0_add 2 none, Cond.fieldLink RX0 13 "OssuaryVault$Bytes" "size" "I", Cond.fieldLink RX0 7 "OssuaryVault$Bytes" "cells" "[I", Cond.methodLink RX2 59 yX0_size, Cond.instanceMethod yX0_size, Cond.selects RX0 yX0_size yX0_size, Cond.code yX0_size cX0_size 1 (some .int), Cond.methodLink RX2 63 yX3_streamSize, Cond.instanceMethod yX3_streamSize, Cond.selects RX3 yX3_streamSize yX3_streamSize, Cond.initialized RX3, Cond.code yX3_streamSize cX3_streamSize 1 (some .int), Cond.fieldLink RX3 20 "OssuaryVault$DeskFile" "packed" "LOssuaryVault$Bytes;"]
def wsX2_writeIndex_r2 : List Cond := [Cond.fieldLink RX3 14 "OssuaryVault$DeskFile" "content" "LOssuaryVault$Bytes;", Cond.methodLink RX3 50 yX3_goesPacked, Cond.instanceMethod yX3_goesPacked, Cond.selects RX3 yX3_goesPacked yX3_goesPacked, Cond.code yX3_goesPacked cX3_goesPacked 1 (some .boolean), Cond.methodLink RX3 31 yX0_size]
def wsX2_writeIndex : List Cond := .code yX2_writeIndex cX2_writeIndex 3 none :: ((wsX2_writeIndex_r1 ++ wsX2_writeIndex_r2) ++ wsX20 ++ wsX30 ++ wsX00)
def wsX2_writtenStream_r1 : List Cond := [Cond.fieldLink RX2 20 "OssuaryVault$Desk" "stream" "LOssuaryVault$Bytes;", Cond.fieldLink RX2 34 "OssuaryVault$Desk" "count" "I", Cond.fieldLink RX2 25 "OssuaryVault$Desk" "slots" "[LOssuaryVault$DeskFile;", Cond.fieldLink RX2 29 "OssuaryVault$Desk" "check" "LOssuaryVault$Check;", Cond.methodLink RX2 66 yX0_clear, Cond.instanceMethod yX0_clear, Cond.selects RX0 yX0_clear yX0_clear, Cond.initialized RX0, Cond.code yX0_clear cX0_clear 1 none, Cond.fieldLink RX0 13 "OssuaryVault$Bytes" "size" "I", Cond.methodLink RX2 69 yX3_writeTo, Cond.instanceMethod yX3_writeTo, Cond.selects RX3 yX3_writeTo yX3_writeTo, Cond.initialized RX3, Cond.code yX3_writeTo cX3_writeTo 3 none, Cond.fieldLink RX3 20 "OssuaryVault$DeskFile" "packed" "LOssuaryVault$Bytes;", Cond.fieldLink RX3 14 "OssuaryVault$DeskFile" "content" "LOssuaryVault$Bytes;", Cond.fieldLink RX3 23 "OssuaryVault$DeskFile" "key" "I", Cond.fieldLink RX3 41 "OssuaryVault$DeskFile" "contentCheck" "I", Cond.methodLink RX3 50 yX3_goesPacked, Cond.instanceMethod yX3_goesPacked, Cond.selects RX3 yX3_goesPacked yX3_goesPacked, Cond.code yX3_goesPacked cX3_goesPacked 1 (some .boolean), Cond.methodLink RX3 31 yX0_size]
def wsX2_writtenStream_r2 : List Cond := [Cond.instanceMethod yX0_size, Cond.selects RX0 yX0_size yX0_size, Cond.code yX0_size cX0_size 1 (some .int), Cond.methodLink RX3 54 yX0_add, Cond.instanceMethod yX0_add, Cond.selects RX0 yX0_add yX0_add, Cond.code yX0_add cX0_add 2 none, Cond.fieldLink RX0 7 "OssuaryVault$Bytes" "cells" "[I", Cond.methodLink RX3 57 yX0_addWord, Cond.instanceMethod yX0_addWord, Cond.selects RX0 yX0_addWord yX0_addWord, Cond.code yX0_addWord cX0_addWord 2 none, Cond.methodLink RX0 25 yX0_add, Cond.methodLink RX3 60 yX0_addPart, Cond.instanceMethod yX0_addPart, Cond.selects RX0 yX0_addPart yX0_addPart, Cond.code yX0_addPart cX0_addPart 5 none, Cond.methodLink RX0 17 yX0_at, Cond.instanceMethod yX0_at, Cond.selects RX0 yX0_at yX0_at, Cond.code yX0_at cX0_at 2 (some .int), Cond.methodLink RX2 59 yX0_size, Cond.methodLink RX2 73 yX2_writeIndex, Cond.instanceMethod yX2_writeIndex]
def wsX2_writtenStream_r3 : List Cond := [Cond.selects RX2 yX2_writeIndex yX2_writeIndex, Cond.initialized RX2, Cond.code yX2_writeIndex cX2_writeIndex 3 none, Cond.methodLink RX2 85 yX0_addWord, Cond.methodLink RX2 63 yX3_streamSize, Cond.instanceMethod yX3_streamSize, Cond.selects RX3 yX3_streamSize yX3_streamSize, Cond.code yX3_streamSize cX3_streamSize 1 (some .int), Cond.methodLink RX2 76 yX1_over, Cond.instanceMethod yX1_over, Cond.selects RX1 yX1_over yX1_over, Cond.initialized RX1, Cond.code yX1_over cX1_over 4 (some .int), Cond.constant RX1 18 (65535), Cond.methodLink RX1 24 yX1_after, Cond.instanceMethod yX1_after, Cond.selects RX1 yX1_after yX1_after, Cond.code yX1_after cX1_after 7 (some .int), Cond.fieldLink RX1 7 "OssuaryVault$Check" "steps" "[I", Cond.methodLink RX1 19 yX0_at, Cond.methodLink RX2 82 yX0_add]
def wsX2_writtenStream : List Cond := .code yX2_writtenStream cX2_writtenStream 3 (some (.object "OssuaryVault$Bytes")) :: ((wsX2_writtenStream_r1 ++ (wsX2_writtenStream_r2 ++ wsX2_writtenStream_r3)) ++ wsX20 ++ wsX00 ++ wsX30 ++ wsX10)
def wsX4_init : List Cond := .code yX4_init cX4_init 3 none :: ([.methodLink RX4 1 objectInit, .instanceMethod objectInit, .code objectInit ⟨#[0xb1]⟩ 1 none, .arrayClass .int, .fieldLink RX4 9 "OssuaryVault$Field" "powers" "[I", .fieldLink RX4 13 "OssuaryVault$Field" "logs" "[I"] ++ wsX40)
def wsX4_times : List Cond := .code yX4_times cX4_times 3 (some .int) :: ([.fieldLink RX4 9 "OssuaryVault$Field" "powers" "[I", .fieldLink RX4 13 "OssuaryVault$Field" "logs" "[I"] ++ wsX40)
def wsX4_oneOver : List Cond := .code yX4_oneOver cX4_oneOver 2 (some .int) :: ([.fieldLink RX4 9 "OssuaryVault$Field" "powers" "[I", .fieldLink RX4 13 "OssuaryVault$Field" "logs" "[I"] ++ wsX40)
def wsX4_raised : List Cond := .code yX4_raised cX4_raised 3 (some .int) :: ([.fieldLink RX4 9 "OssuaryVault$Field" "powers" "[I", .fieldLink RX4 13 "OssuaryVault$Field" "logs" "[I"] ++ wsX40)
def wsX4_parityWeight : List Cond := .code yX4_parityWeight cX4_parityWeight 3 (some .int) :: ([.methodLink RX4 16 yX4_oneOver, .instanceMethod yX4_oneOver, .selects RX4 yX4_oneOver yX4_oneOver, .initialized RX4, .code yX4_oneOver cX4_oneOver 2 (some .int), .fieldLink RX4 9 "OssuaryVault$Field" "powers" "[I", .fieldLink RX4 13 "OssuaryVault$Field" "logs" "[I"] ++ wsX40)
def wsX4_addProducts : List Cond := .code yX4_addProducts cX4_addProducts 9 none :: ([.methodLink RX4 20 yX0_at, .instanceMethod yX0_at, .selects RX0 yX0_at yX0_at, .initialized RX0, .code yX0_at cX0_at 2 (some .int), .fieldLink RX0 13 "OssuaryVault$Bytes" "size" "I", .fieldLink RX0 7 "OssuaryVault$Bytes" "cells" "[I", .methodLink RX4 25 yX4_times, .instanceMethod yX4_times, .selects RX4 yX4_times yX4_times, .initialized RX4, .code yX4_times cX4_times 3 (some .int), .fieldLink RX4 9 "OssuaryVault$Field" "powers" "[I", .fieldLink RX4 13 "OssuaryVault$Field" "logs" "[I", .methodLink RX4 29 yX0_put, .instanceMethod yX0_put, .selects RX0 yX0_put yX0_put, .code yX0_put cX0_put 3 none] ++ wsX00 ++ wsX40)
def wsX4_weight : List Cond := .code yX4_weight cX4_weight 4 (some .int) :: ([.methodLink RX4 33 yX4_parityWeight, .instanceMethod yX4_parityWeight, .selects RX4 yX4_parityWeight yX4_parityWeight, .initialized RX4, .code yX4_parityWeight cX4_parityWeight 3 (some .int), .methodLink RX4 16 yX4_oneOver, .instanceMethod yX4_oneOver, .selects RX4 yX4_oneOver yX4_oneOver, .code yX4_oneOver cX4_oneOver 2 (some .int), .fieldLink RX4 9 "OssuaryVault$Field" "powers" "[I", .fieldLink RX4 13 "OssuaryVault$Field" "logs" "[I"] ++ wsX40)
def wsX5_init : List Cond := .code yX5_init cX5_init 1 none :: ([.methodLink RX5 3 objectInit, .instanceMethod objectInit, .code objectInit ⟨#[0xb1]⟩ 1 none, .classLink RX5 9 RX0, .instantiable RX0 2, .initialized RX0, .fieldLink RX5 14 "OssuaryVault$FoundFile" "content" "LOssuaryVault$Bytes;", .methodLink RX5 11 yX0_init, .instanceMethod yX0_init, .code yX0_init cX0_init 2 none, .methodLink RX0 1 objectInit, .arrayClass .int, .fieldLink RX0 7 "OssuaryVault$Bytes" "cells" "[I"] ++ wsX00 ++ wsX50)
def wsX5_size : List Cond := .code yX5_size cX5_size 1 (some .int) :: ([.fieldLink RX5 20 "OssuaryVault$FoundFile" "good" "Z", .fieldLink RX5 14 "OssuaryVault$FoundFile" "content" "LOssuaryVault$Bytes;", .methodLink RX5 24 yX0_size, .instanceMethod yX0_size, .selects RX0 yX0_size yX0_size, .initialized RX0, .code yX0_size cX0_size 1 (some .int), .fieldLink RX0 13 "OssuaryVault$Bytes" "size" "I"] ++ wsX50 ++ wsX00)
def wsX6_unpack_r1 : List Cond := [Cond.methodLink RX6 9 yX0_clear, Cond.instanceMethod yX0_clear, Cond.selects RX0 yX0_clear yX0_clear, Cond.initialized RX0, Cond.code yX0_clear cX0_clear 1 none, Cond.fieldLink RX0 13 "OssuaryVault$Bytes" "size" "I", Cond.methodLink RX6 32 yX0_at, Cond.instanceMethod yX0_at, Cond.selects RX0 yX0_at yX0_at, Cond.code yX0_at cX0_at 2 (some .int), Cond.fieldLink RX0 7 "OssuaryVault$Bytes" "cells" "[I", Cond.methodLink RX6 14 yX0_size, Cond.instanceMethod yX0_size, Cond.selects RX0 yX0_size yX0_size, Cond.code yX0_size cX0_size 1 (some .int), Cond.methodLink RX6 49 yX0_addTimes, Cond.instanceMethod yX0_addTimes, Cond.selects RX0 yX0_addTimes yX0_addTimes, Cond.code yX0_addTimes cX0_addTimes 4 none, Cond.methodLink RX0 25 yX0_add, Cond.instanceMethod yX0_add, Cond.selects RX0 yX0_add yX0_add, Cond.code yX0_add cX0_add 2 none, Cond.methodLink RX6 39 yX0_addPart]
def wsX6_unpack_r2 : List Cond := [Cond.instanceMethod yX0_addPart, Cond.selects RX0 yX0_addPart yX0_addPart, Cond.code yX0_addPart cX0_addPart 5 none, Cond.methodLink RX0 17 yX0_at]
def wsX6_unpack : List Cond := .code yX6_unpack cX6_unpack 10 (some .boolean) :: ((wsX6_unpack_r1 ++ wsX6_unpack_r2) ++ wsX00)
def wsX7_init_r1 : List Cond := [Cond.methodLink RX7 3 objectInit, Cond.instanceMethod objectInit, Cond.code objectInit ⟨#[0xb1]⟩ 1 none, Cond.classLink RX7 9 RX0, Cond.instantiable RX0 2, Cond.initialized RX0, Cond.constant RX7 11 (40700), Cond.fieldLink RX7 15 "OssuaryVault$Reading" "stream" "LOssuaryVault$Bytes;", Cond.classLink RX7 21 RX5, Cond.fieldLink RX7 23 "OssuaryVault$Reading" "entries" "[LOssuaryVault$FoundFile;", Cond.fieldLink RX7 27 "OssuaryVault$Reading" "check" "LOssuaryVault$Check;", Cond.instantiable RX5 5, Cond.initialized RX5, Cond.methodLink RX7 12 yX0_init, Cond.instanceMethod yX0_init, Cond.code yX0_init cX0_init 2 none, Cond.methodLink RX0 1 objectInit, Cond.arrayClass .int, Cond.fieldLink RX0 7 "OssuaryVault$Bytes" "cells" "[I", Cond.instanceMethod yX5_init, Cond.code yX5_init cX5_init 1 none, Cond.methodLink RX5 3 objectInit, Cond.classLink RX5 9 RX0, Cond.fieldLink RX5 14 "OssuaryVault$FoundFile" "content" "LOssuaryVault$Bytes;"]
def wsX7_init_r2 : List Cond := [Cond.methodLink RX5 11 yX0_init]
def wsX7_init : List Cond := .code yX7_init cX7_init 3 none :: ((wsX7_init_r1 ++ wsX7_init_r2) ++ wsX00 ++ wsX70 ++ wsX50)
def wsX7_at : List Cond := .code yX7_at cX7_at 2 (some (.object "OssuaryVault$FoundFile")) :: ([.fieldLink RX7 32 "OssuaryVault$Reading" "count" "I", .fieldLink RX7 23 "OssuaryVault$Reading" "entries" "[LOssuaryVault$FoundFile;"] ++ wsX70)
def wsX7_close : List Cond := .code yX7_close cX7_close 1 none :: ([.fieldLink RX7 36 "OssuaryVault$Reading" "isOpen" "Z"] ++ wsX70)
def wsX7_tailPlace : List Cond := .code yX7_tailPlace cX7_tailPlace 1 (some .int) :: ([.fieldLink RX7 15 "OssuaryVault$Reading" "stream" "LOssuaryVault$Bytes;", .methodLink RX7 66 yX0_size, .instanceMethod yX0_size, .selects RX0 yX0_size yX0_size, .initialized RX0, .code yX0_size cX0_size 1 (some .int), .fieldLink RX0 13 "OssuaryVault$Bytes" "size" "I"] ++ wsX70 ++ wsX00)
def wsX7_indexStands_r1 : List Cond := [Cond.fieldLink RX7 15 "OssuaryVault$Reading" "stream" "LOssuaryVault$Bytes;", Cond.fieldLink RX7 27 "OssuaryVault$Reading" "check" "LOssuaryVault$Check;", Cond.methodLink RX7 70 yX7_tailPlace, Cond.instanceMethod yX7_tailPlace, Cond.selects RX7 yX7_tailPlace yX7_tailPlace, Cond.initialized RX7, Cond.code yX7_tailPlace cX7_tailPlace 1 (some .int), Cond.methodLink RX7 66 yX0_size, Cond.instanceMethod yX0_size, Cond.selects RX0 yX0_size yX0_size, Cond.initialized RX0, Cond.code yX0_size cX0_size 1 (some .int), Cond.fieldLink RX0 13 "OssuaryVault$Bytes" "size" "I", Cond.methodLink RX7 73 yX0_word, Cond.instanceMethod yX0_word, Cond.selects RX0 yX0_word yX0_word, Cond.code yX0_word cX0_word 2 (some .int), Cond.methodLink RX0 17 yX0_at, Cond.instanceMethod yX0_at, Cond.selects RX0 yX0_at yX0_at, Cond.code yX0_at cX0_at 2 (some .int), Cond.fieldLink RX0 7 "OssuaryVault$Bytes" "cells" "[I", Cond.methodLink RX7 77 yX0_at, Cond.methodLink RX7 80 yX1_over]
def wsX7_indexStands_r2 : List Cond := [Cond.instanceMethod yX1_over, Cond.selects RX1 yX1_over yX1_over, Cond.initialized RX1, Cond.code yX1_over cX1_over 4 (some .int), Cond.constant RX1 18 (65535), Cond.methodLink RX1 24 yX1_after, Cond.instanceMethod yX1_after, Cond.selects RX1 yX1_after yX1_after, Cond.code yX1_after cX1_after 7 (some .int), Cond.fieldLink RX1 7 "OssuaryVault$Check" "steps" "[I", Cond.methodLink RX1 19 yX0_at]
def wsX7_indexStands : List Cond := .code yX7_indexStands cX7_indexStands 3 (some .boolean) :: ((wsX7_indexStands_r1 ++ wsX7_indexStands_r2) ++ wsX70 ++ wsX00 ++ wsX10)
def wsX7_takeIndexed_r1 : List Cond := [Cond.fieldLink RX7 15 "OssuaryVault$Reading" "stream" "LOssuaryVault$Bytes;", Cond.fieldLink RX7 23 "OssuaryVault$Reading" "entries" "[LOssuaryVault$FoundFile;", Cond.methodLink RX7 86 Lib.Math.min.name, Cond.static Lib.Math.min.name, Cond.initialized "java/lang/Math", Cond.code Lib.Math.min.name Lib.Math.min.code 2 (some .int), Cond.fieldLink RX7 32 "OssuaryVault$Reading" "count" "I", Cond.methodLink RX7 70 yX7_tailPlace, Cond.instanceMethod yX7_tailPlace, Cond.selects RX7 yX7_tailPlace yX7_tailPlace, Cond.initialized RX7, Cond.code yX7_tailPlace cX7_tailPlace 1 (some .int), Cond.methodLink RX7 66 yX0_size, Cond.instanceMethod yX0_size, Cond.selects RX0 yX0_size yX0_size, Cond.initialized RX0, Cond.code yX0_size cX0_size 1 (some .int), Cond.fieldLink RX0 13 "OssuaryVault$Bytes" "size" "I", Cond.methodLink RX7 73 yX0_word, Cond.instanceMethod yX0_word, Cond.selects RX0 yX0_word yX0_word, Cond.code yX0_word cX0_word 2 (some .int), Cond.methodLink RX0 17 yX0_at, Cond.instanceMethod yX0_at]
def wsX7_takeIndexed_r2 : List Cond := [Cond.selects RX0 yX0_at yX0_at, Cond.code yX0_at cX0_at 2 (some .int), Cond.fieldLink RX0 7 "OssuaryVault$Bytes" "cells" "[I", Cond.methodLink RX7 77 yX0_at]
def wsX7_takeIndexed : List Cond := .code yX7_takeIndexed cX7_takeIndexed 6 none :: ((wsX7_takeIndexed_r1 ++ wsX7_takeIndexed_r2) ++ wsX70 ++ wsX50 ++ wsX00)
def wsX7_endOfFile : List Cond := .code yX7_endOfFile cX7_endOfFile 2 (some .int) :: ([.fieldLink RX7 15 "OssuaryVault$Reading" "stream" "LOssuaryVault$Bytes;", .methodLink RX7 73 yX0_word, .instanceMethod yX0_word, .selects RX0 yX0_word yX0_word, .initialized RX0, .code yX0_word cX0_word 2 (some .int), .methodLink RX0 17 yX0_at, .instanceMethod yX0_at, .selects RX0 yX0_at yX0_at, .code yX0_at cX0_at 2 (some .int), .fieldLink RX0 13 "OssuaryVault$Bytes" "size" "I", .fieldLink RX0 7 "OssuaryVault$Bytes" "cells" "[I"] ++ wsX70 ++ wsX00)
def wsX7_liesAt : List Cond := .code yX7_liesAt cX7_liesAt 2 (some .boolean) :: ([.fieldLink RX7 15 "OssuaryVault$Reading" "stream" "LOssuaryVault$Bytes;", .methodLink RX7 66 yX0_size, .instanceMethod yX0_size, .selects RX0 yX0_size yX0_size, .initialized RX0, .code yX0_size cX0_size 1 (some .int), .fieldLink RX0 13 "OssuaryVault$Bytes" "size" "I", .methodLink RX7 77 yX0_at, .instanceMethod yX0_at, .selects RX0 yX0_at yX0_at, .code yX0_at cX0_at 2 (some .int), .fieldLink RX0 7 "OssuaryVault$Bytes" "cells" "[I", .methodLink RX7 105 yX7_endOfFile, .instanceMethod yX7_endOfFile, .selects RX7 yX7_endOfFile yX7_endOfFile, .initialized RX7, .code yX7_endOfFile cX7_endOfFile 2 (some .int), .methodLink RX7 73 yX0_word, .instanceMethod yX0_word, .selects RX0 yX0_word yX0_word, .code yX0_word cX0_word 2 (some .int), .methodLink RX0 17 yX0_at] ++ wsX70 ++ wsX00)
def wsX7_lookForFiles_r1 : List Cond := [Cond.fieldLink RX7 32 "OssuaryVault$Reading" "count" "I", Cond.fieldLink RX7 23 "OssuaryVault$Reading" "entries" "[LOssuaryVault$FoundFile;", Cond.fieldLink RX7 15 "OssuaryVault$Reading" "stream" "LOssuaryVault$Bytes;", Cond.methodLink RX7 101 yX7_liesAt, Cond.instanceMethod yX7_liesAt, Cond.selects RX7 yX7_liesAt yX7_liesAt, Cond.initialized RX7, Cond.code yX7_liesAt cX7_liesAt 2 (some .boolean), Cond.methodLink RX7 66 yX0_size, Cond.instanceMethod yX0_size, Cond.selects RX0 yX0_size yX0_size, Cond.initialized RX0, Cond.code yX0_size cX0_size 1 (some .int), Cond.fieldLink RX0 13 "OssuaryVault$Bytes" "size" "I", Cond.methodLink RX7 77 yX0_at, Cond.instanceMethod yX0_at, Cond.selects RX0 yX0_at yX0_at, Cond.code yX0_at cX0_at 2 (some .int), Cond.fieldLink RX0 7 "OssuaryVault$Bytes" "cells" "[I", Cond.methodLink RX7 105 yX7_endOfFile, Cond.instanceMethod yX7_endOfFile, Cond.selects RX7 yX7_endOfFile yX7_endOfFile, Cond.code yX7_endOfFile cX7_endOfFile 2 (some .int), Cond.methodLink RX7 73 yX0_word]
def wsX7_lookForFiles_r2 : List Cond := [Cond.instanceMethod yX0_word, Cond.selects RX0 yX0_word yX0_word, Cond.code yX0_word cX0_word 2 (some .int), Cond.methodLink RX0 17 yX0_at]
def wsX7_lookForFiles : List Cond := .code yX7_lookForFiles cX7_lookForFiles 3 none :: ((wsX7_lookForFiles_r1 ++ wsX7_lookForFiles_r2) ++ wsX70 ++ wsX50 ++ wsX00)
def wsX7_begin_r1 : List Cond := [Cond.fieldLink RX7 36 "OssuaryVault$Reading" "isOpen" "Z", Cond.fieldLink RX7 40 "OssuaryVault$Reading" "data" "I", Cond.fieldLink RX7 43 "OssuaryVault$Reading" "parity" "I", Cond.fieldLink RX7 50 "OssuaryVault$Reading" "indexed" "Z", Cond.fieldLink RX7 32 "OssuaryVault$Reading" "count" "I", Cond.methodLink RX7 46 yX7_indexStands, Cond.instanceMethod yX7_indexStands, Cond.selects RX7 yX7_indexStands yX7_indexStands, Cond.initialized RX7, Cond.code yX7_indexStands cX7_indexStands 3 (some .boolean), Cond.fieldLink RX7 15 "OssuaryVault$Reading" "stream" "LOssuaryVault$Bytes;", Cond.fieldLink RX7 27 "OssuaryVault$Reading" "check" "LOssuaryVault$Check;", Cond.methodLink RX7 70 yX7_tailPlace, Cond.instanceMethod yX7_tailPlace, Cond.selects RX7 yX7_tailPlace yX7_tailPlace, Cond.code yX7_tailPlace cX7_tailPlace 1 (some .int), Cond.methodLink RX7 66 yX0_size, Cond.instanceMethod yX0_size, Cond.selects RX0 yX0_size yX0_size, Cond.initialized RX0, Cond.code yX0_size cX0_size 1 (some .int), Cond.fieldLink RX0 13 "OssuaryVault$Bytes" "size" "I", Cond.methodLink RX7 73 yX0_word, Cond.instanceMethod yX0_word]
def wsX7_begin_r2 : List Cond := [Cond.selects RX0 yX0_word yX0_word, Cond.code yX0_word cX0_word 2 (some .int), Cond.methodLink RX0 17 yX0_at, Cond.instanceMethod yX0_at, Cond.selects RX0 yX0_at yX0_at, Cond.code yX0_at cX0_at 2 (some .int), Cond.fieldLink RX0 7 "OssuaryVault$Bytes" "cells" "[I", Cond.methodLink RX7 77 yX0_at, Cond.methodLink RX7 80 yX1_over, Cond.instanceMethod yX1_over, Cond.selects RX1 yX1_over yX1_over, Cond.initialized RX1, Cond.code yX1_over cX1_over 4 (some .int), Cond.constant RX1 18 (65535), Cond.methodLink RX1 24 yX1_after, Cond.instanceMethod yX1_after, Cond.selects RX1 yX1_after yX1_after, Cond.code yX1_after cX1_after 7 (some .int), Cond.fieldLink RX1 7 "OssuaryVault$Check" "steps" "[I", Cond.methodLink RX1 19 yX0_at, Cond.methodLink RX7 53 yX7_takeIndexed, Cond.instanceMethod yX7_takeIndexed, Cond.selects RX7 yX7_takeIndexed yX7_takeIndexed, Cond.code yX7_takeIndexed cX7_takeIndexed 6 none]
def wsX7_begin_r3 : List Cond := [Cond.fieldLink RX7 23 "OssuaryVault$Reading" "entries" "[LOssuaryVault$FoundFile;", Cond.methodLink RX7 86 Lib.Math.min.name, Cond.static Lib.Math.min.name, Cond.initialized "java/lang/Math", Cond.code Lib.Math.min.name Lib.Math.min.code 2 (some .int), Cond.methodLink RX7 56 yX7_lookForFiles, Cond.instanceMethod yX7_lookForFiles, Cond.selects RX7 yX7_lookForFiles yX7_lookForFiles, Cond.code yX7_lookForFiles cX7_lookForFiles 3 none, Cond.methodLink RX7 101 yX7_liesAt, Cond.instanceMethod yX7_liesAt, Cond.selects RX7 yX7_liesAt yX7_liesAt, Cond.code yX7_liesAt cX7_liesAt 2 (some .boolean), Cond.methodLink RX7 105 yX7_endOfFile, Cond.instanceMethod yX7_endOfFile, Cond.selects RX7 yX7_endOfFile yX7_endOfFile, Cond.code yX7_endOfFile cX7_endOfFile 2 (some .int)]
def wsX7_begin : List Cond := .code yX7_begin cX7_begin 3 none :: ((wsX7_begin_r1 ++ (wsX7_begin_r2 ++ wsX7_begin_r3)) ++ wsX70 ++ wsX00 ++ wsX10 ++ wsX50)
def wsX7_takeContent_r1 : List Cond := [Cond.fieldLink RX7 15 "OssuaryVault$Reading" "stream" "LOssuaryVault$Bytes;", Cond.methodLink RX7 105 yX7_endOfFile, Cond.instanceMethod yX7_endOfFile, Cond.selects RX7 yX7_endOfFile yX7_endOfFile, Cond.initialized RX7, Cond.code yX7_endOfFile cX7_endOfFile 2 (some .int), Cond.methodLink RX7 73 yX0_word, Cond.instanceMethod yX0_word, Cond.selects RX0 yX0_word yX0_word, Cond.initialized RX0, Cond.code yX0_word cX0_word 2 (some .int), Cond.methodLink RX0 17 yX0_at, Cond.instanceMethod yX0_at, Cond.selects RX0 yX0_at yX0_at, Cond.code yX0_at cX0_at 2 (some .int), Cond.fieldLink RX0 13 "OssuaryVault$Bytes" "size" "I", Cond.fieldLink RX0 7 "OssuaryVault$Bytes" "cells" "[I", Cond.methodLink RX7 77 yX0_at, Cond.methodLink RX7 114 yX6_unpack, Cond.static yX6_unpack, Cond.initialized RX6, Cond.code yX6_unpack cX6_unpack 10 (some .boolean), Cond.methodLink RX6 9 yX0_clear, Cond.instanceMethod yX0_clear]
def wsX7_takeContent_r2 : List Cond := [Cond.selects RX0 yX0_clear yX0_clear, Cond.code yX0_clear cX0_clear 1 none, Cond.methodLink RX6 32 yX0_at, Cond.methodLink RX6 14 yX0_size, Cond.instanceMethod yX0_size, Cond.selects RX0 yX0_size yX0_size, Cond.code yX0_size cX0_size 1 (some .int), Cond.methodLink RX6 49 yX0_addTimes, Cond.instanceMethod yX0_addTimes, Cond.selects RX0 yX0_addTimes yX0_addTimes, Cond.code yX0_addTimes cX0_addTimes 4 none, Cond.methodLink RX0 25 yX0_add, Cond.instanceMethod yX0_add, Cond.selects RX0 yX0_add yX0_add, Cond.code yX0_add cX0_add 2 none, Cond.methodLink RX6 39 yX0_addPart, Cond.instanceMethod yX0_addPart, Cond.selects RX0 yX0_addPart yX0_addPart, Cond.code yX0_addPart cX0_addPart 5 none, Cond.methodLink RX7 120 yX0_clear, Cond.methodLink RX7 123 yX0_addPart]
def wsX7_takeContent : List Cond := .code yX7_takeContent cX7_takeContent 4 (some .boolean) :: ((wsX7_takeContent_r1 ++ wsX7_takeContent_r2) ++ wsX50 ++ wsX70 ++ wsX00)
def wsX7_readsWell_r1 : List Cond := [Cond.fieldLink RX7 15 "OssuaryVault$Reading" "stream" "LOssuaryVault$Bytes;", Cond.fieldLink RX7 27 "OssuaryVault$Reading" "check" "LOssuaryVault$Check;", Cond.methodLink RX7 101 yX7_liesAt, Cond.instanceMethod yX7_liesAt, Cond.selects RX7 yX7_liesAt yX7_liesAt, Cond.initialized RX7, Cond.code yX7_liesAt cX7_liesAt 2 (some .boolean), Cond.methodLink RX7 66 yX0_size, Cond.instanceMethod yX0_size, Cond.selects RX0 yX0_size yX0_size, Cond.initialized RX0, Cond.code yX0_size cX0_size 1 (some .int), Cond.fieldLink RX0 13 "OssuaryVault$Bytes" "size" "I", Cond.methodLink RX7 77 yX0_at, Cond.instanceMethod yX0_at, Cond.selects RX0 yX0_at yX0_at, Cond.code yX0_at cX0_at 2 (some .int), Cond.fieldLink RX0 7 "OssuaryVault$Bytes" "cells" "[I", Cond.methodLink RX7 105 yX7_endOfFile, Cond.instanceMethod yX7_endOfFile, Cond.selects RX7 yX7_endOfFile yX7_endOfFile, Cond.code yX7_endOfFile cX7_endOfFile 2 (some .int), Cond.methodLink RX7 73 yX0_word, Cond.instanceMethod yX0_word]
def wsX7_readsWell_r2 : List Cond := [Cond.selects RX0 yX0_word yX0_word, Cond.code yX0_word cX0_word 2 (some .int), Cond.methodLink RX0 17 yX0_at, Cond.methodLink RX7 108 yX7_takeContent, Cond.instanceMethod yX7_takeContent, Cond.selects RX7 yX7_takeContent yX7_takeContent, Cond.code yX7_takeContent cX7_takeContent 4 (some .boolean), Cond.methodLink RX7 114 yX6_unpack, Cond.static yX6_unpack, Cond.initialized RX6, Cond.code yX6_unpack cX6_unpack 10 (some .boolean), Cond.methodLink RX6 9 yX0_clear, Cond.instanceMethod yX0_clear, Cond.selects RX0 yX0_clear yX0_clear, Cond.code yX0_clear cX0_clear 1 none, Cond.methodLink RX6 32 yX0_at, Cond.methodLink RX6 14 yX0_size, Cond.methodLink RX6 49 yX0_addTimes, Cond.instanceMethod yX0_addTimes, Cond.selects RX0 yX0_addTimes yX0_addTimes, Cond.code yX0_addTimes cX0_addTimes 4 none, Cond.methodLink RX0 25 yX0_add, Cond.instanceMethod yX0_add, Cond.selects RX0 yX0_add yX0_add]
def wsX7_readsWell_r3 : List Cond := [Cond.code yX0_add cX0_add 2 none, Cond.methodLink RX6 39 yX0_addPart, Cond.instanceMethod yX0_addPart, Cond.selects RX0 yX0_addPart yX0_addPart, Cond.code yX0_addPart cX0_addPart 5 none, Cond.methodLink RX7 120 yX0_clear, Cond.methodLink RX7 123 yX0_addPart, Cond.methodLink RX7 80 yX1_over, Cond.instanceMethod yX1_over, Cond.selects RX1 yX1_over yX1_over, Cond.initialized RX1, Cond.code yX1_over cX1_over 4 (some .int), Cond.constant RX1 18 (65535), Cond.methodLink RX1 24 yX1_after, Cond.instanceMethod yX1_after, Cond.selects RX1 yX1_after yX1_after, Cond.code yX1_after cX1_after 7 (some .int), Cond.fieldLink RX1 7 "OssuaryVault$Check" "steps" "[I", Cond.methodLink RX1 19 yX0_at]
def wsX7_readsWell : List Cond := .code yX7_readsWell cX7_readsWell 2 (some .boolean) :: ((wsX7_readsWell_r1 ++ (wsX7_readsWell_r2 ++ wsX7_readsWell_r3)) ++ wsX50 ++ wsX70 ++ wsX00 ++ wsX10)
def wsX7_judgeFiles_r1 : List Cond := [Cond.fieldLink RX7 32 "OssuaryVault$Reading" "count" "I", Cond.fieldLink RX7 23 "OssuaryVault$Reading" "entries" "[LOssuaryVault$FoundFile;", Cond.methodLink RX7 59 yX7_readsWell, Cond.instanceMethod yX7_readsWell, Cond.selects RX7 yX7_readsWell yX7_readsWell, Cond.initialized RX7, Cond.code yX7_readsWell cX7_readsWell 2 (some .boolean), Cond.fieldLink RX7 15 "OssuaryVault$Reading" "stream" "LOssuaryVault$Bytes;", Cond.fieldLink RX7 27 "OssuaryVault$Reading" "check" "LOssuaryVault$Check;", Cond.methodLink RX7 101 yX7_liesAt, Cond.instanceMethod yX7_liesAt, Cond.selects RX7 yX7_liesAt yX7_liesAt, Cond.code yX7_liesAt cX7_liesAt 2 (some .boolean), Cond.methodLink RX7 66 yX0_size, Cond.instanceMethod yX0_size, Cond.selects RX0 yX0_size yX0_size, Cond.initialized RX0, Cond.code yX0_size cX0_size 1 (some .int), Cond.fieldLink RX0 13 "OssuaryVault$Bytes" "size" "I", Cond.methodLink RX7 77 yX0_at, Cond.instanceMethod yX0_at, Cond.selects RX0 yX0_at yX0_at, Cond.code yX0_at cX0_at 2 (some .int), Cond.fieldLink RX0 7 "OssuaryVault$Bytes" "cells" "[I"]
def wsX7_judgeFiles_r2 : List Cond := [Cond.methodLink RX7 105 yX7_endOfFile, Cond.instanceMethod yX7_endOfFile, Cond.selects RX7 yX7_endOfFile yX7_endOfFile, Cond.code yX7_endOfFile cX7_endOfFile 2 (some .int), Cond.methodLink RX7 73 yX0_word, Cond.instanceMethod yX0_word, Cond.selects RX0 yX0_word yX0_word, Cond.code yX0_word cX0_word 2 (some .int), Cond.methodLink RX0 17 yX0_at, Cond.methodLink RX7 108 yX7_takeContent, Cond.instanceMethod yX7_takeContent, Cond.selects RX7 yX7_takeContent yX7_takeContent, Cond.code yX7_takeContent cX7_takeContent 4 (some .boolean), Cond.methodLink RX7 114 yX6_unpack, Cond.static yX6_unpack, Cond.initialized RX6, Cond.code yX6_unpack cX6_unpack 10 (some .boolean), Cond.methodLink RX6 9 yX0_clear, Cond.instanceMethod yX0_clear, Cond.selects RX0 yX0_clear yX0_clear, Cond.code yX0_clear cX0_clear 1 none, Cond.methodLink RX6 32 yX0_at, Cond.methodLink RX6 14 yX0_size, Cond.methodLink RX6 49 yX0_addTimes]
def wsX7_judgeFiles_r3 : List Cond := [Cond.instanceMethod yX0_addTimes, Cond.selects RX0 yX0_addTimes yX0_addTimes, Cond.code yX0_addTimes cX0_addTimes 4 none, Cond.methodLink RX0 25 yX0_add, Cond.instanceMethod yX0_add, Cond.selects RX0 yX0_add yX0_add, Cond.code yX0_add cX0_add 2 none, Cond.methodLink RX6 39 yX0_addPart, Cond.instanceMethod yX0_addPart, Cond.selects RX0 yX0_addPart yX0_addPart, Cond.code yX0_addPart cX0_addPart 5 none, Cond.methodLink RX7 120 yX0_clear, Cond.methodLink RX7 123 yX0_addPart, Cond.methodLink RX7 80 yX1_over, Cond.instanceMethod yX1_over, Cond.selects RX1 yX1_over yX1_over, Cond.initialized RX1, Cond.code yX1_over cX1_over 4 (some .int), Cond.constant RX1 18 (65535), Cond.methodLink RX1 24 yX1_after, Cond.instanceMethod yX1_after, Cond.selects RX1 yX1_after yX1_after, Cond.code yX1_after cX1_after 7 (some .int), Cond.fieldLink RX1 7 "OssuaryVault$Check" "steps" "[I"]
def wsX7_judgeFiles_r4 : List Cond := [Cond.methodLink RX1 19 yX0_at]
def wsX7_judgeFiles : List Cond := .code yX7_judgeFiles cX7_judgeFiles 2 none :: ((wsX7_judgeFiles_r1 ++ (wsX7_judgeFiles_r2 ++ (wsX7_judgeFiles_r3 ++ wsX7_judgeFiles_r4))) ++ wsX70 ++ wsX50 ++ wsX00 ++ wsX10)
def wsX8_init : List Cond := .code yX8_init cX8_init 2 none :: ([.methodLink RX8 3 objectInit, .instanceMethod objectInit, .code objectInit ⟨#[0xb1]⟩ 1 none, .classLink RX8 9 RX0, .instantiable RX0 2, .initialized RX0, .fieldLink RX8 16 "OssuaryVault$Recovery" "matrix" "LOssuaryVault$Bytes;", .arrayClass .int, .fieldLink RX8 20 "OssuaryVault$Recovery" "chosen" "[I", .fieldLink RX8 24 "OssuaryVault$Recovery" "field" "LOssuaryVault$Field;", .methodLink RX8 13 yX0_init, .instanceMethod yX0_init, .code yX0_init cX0_init 2 none, .methodLink RX0 1 objectInit, .fieldLink RX0 7 "OssuaryVault$Bytes" "cells" "[I"] ++ wsX00 ++ wsX80)
def wsX10_dataTold : List Cond := .code yX10_dataTold cX10_dataTold 1 (some .int) :: ([.fieldLink RX10 14 "OssuaryVault$Volume" "bytes" "LOssuaryVault$Bytes;", .methodLink RX10 32 yX0_at, .instanceMethod yX0_at, .selects RX0 yX0_at yX0_at, .initialized RX0, .code yX0_at cX0_at 2 (some .int), .fieldLink RX0 13 "OssuaryVault$Bytes" "size" "I", .fieldLink RX0 7 "OssuaryVault$Bytes" "cells" "[I"] ++ wsX100 ++ wsX00)
def wsX10_bodyTold : List Cond := .code yX10_bodyTold cX10_bodyTold 1 (some .int) :: ([.fieldLink RX10 14 "OssuaryVault$Volume" "bytes" "LOssuaryVault$Bytes;", .methodLink RX10 36 yX0_word, .instanceMethod yX0_word, .selects RX0 yX0_word yX0_word, .initialized RX0, .code yX0_word cX0_word 2 (some .int), .methodLink RX0 17 yX0_at, .instanceMethod yX0_at, .selects RX0 yX0_at yX0_at, .code yX0_at cX0_at 2 (some .int), .fieldLink RX0 13 "OssuaryVault$Bytes" "size" "I", .fieldLink RX0 7 "OssuaryVault$Bytes" "cells" "[I"] ++ wsX100 ++ wsX00)
def wsX9_at : List Cond := .code yX9_at cX9_at 2 (some (.object "OssuaryVault$Volume")) :: ([.fieldLink RX9 11 "OssuaryVault$Shelf" "places" "[LOssuaryVault$Volume;"] ++ wsX90)
def wsX9_memberWith : List Cond := .code yX9_memberWith cX9_memberWith 2 (some (.object "OssuaryVault$Volume")) :: ([.fieldLink RX9 21 "OssuaryVault$Shelf" "holders" "[I", .methodLink RX9 35 yX9_at, .instanceMethod yX9_at, .selects RX9 yX9_at yX9_at, .initialized RX9, .code yX9_at cX9_at 2 (some (.object "OssuaryVault$Volume")), .fieldLink RX9 11 "OssuaryVault$Shelf" "places" "[LOssuaryVault$Volume;"] ++ wsX90)
def wsX8_choose : List Cond := .code yX8_choose cX8_choose 6 (some .int) :: ([.fieldLink RX8 20 "OssuaryVault$Recovery" "chosen" "[I", .methodLink RX8 56 yX9_memberWith, .instanceMethod yX9_memberWith, .selects RX9 yX9_memberWith yX9_memberWith, .initialized RX9, .code yX9_memberWith cX9_memberWith 2 (some (.object "OssuaryVault$Volume")), .fieldLink RX9 21 "OssuaryVault$Shelf" "holders" "[I", .methodLink RX9 35 yX9_at, .instanceMethod yX9_at, .selects RX9 yX9_at yX9_at, .code yX9_at cX9_at 2 (some (.object "OssuaryVault$Volume")), .fieldLink RX9 11 "OssuaryVault$Shelf" "places" "[LOssuaryVault$Volume;"] ++ wsX80 ++ wsX90)
def wsX8_writeWeights_r1 : List Cond := [Cond.fieldLink RX8 16 "OssuaryVault$Recovery" "matrix" "LOssuaryVault$Bytes;", Cond.fieldLink RX8 20 "OssuaryVault$Recovery" "chosen" "[I", Cond.fieldLink RX8 24 "OssuaryVault$Recovery" "field" "LOssuaryVault$Field;", Cond.methodLink RX8 53 yX0_clear, Cond.instanceMethod yX0_clear, Cond.selects RX0 yX0_clear yX0_clear, Cond.initialized RX0, Cond.code yX0_clear cX0_clear 1 none, Cond.fieldLink RX0 13 "OssuaryVault$Bytes" "size" "I", Cond.methodLink RX8 79 yX0_addTimes, Cond.instanceMethod yX0_addTimes, Cond.selects RX0 yX0_addTimes yX0_addTimes, Cond.code yX0_addTimes cX0_addTimes 4 none, Cond.methodLink RX0 25 yX0_add, Cond.instanceMethod yX0_add, Cond.selects RX0 yX0_add yX0_add, Cond.code yX0_add cX0_add 2 none, Cond.fieldLink RX0 7 "OssuaryVault$Bytes" "cells" "[I", Cond.methodLink RX8 83 yX4_weight, Cond.instanceMethod yX4_weight, Cond.selects RX4 yX4_weight yX4_weight, Cond.initialized RX4, Cond.code yX4_weight cX4_weight 4 (some .int), Cond.methodLink RX4 33 yX4_parityWeight]
def wsX8_writeWeights_r2 : List Cond := [Cond.instanceMethod yX4_parityWeight, Cond.selects RX4 yX4_parityWeight yX4_parityWeight, Cond.code yX4_parityWeight cX4_parityWeight 3 (some .int), Cond.methodLink RX4 16 yX4_oneOver, Cond.instanceMethod yX4_oneOver, Cond.selects RX4 yX4_oneOver yX4_oneOver, Cond.code yX4_oneOver cX4_oneOver 2 (some .int), Cond.fieldLink RX4 9 "OssuaryVault$Field" "powers" "[I", Cond.fieldLink RX4 13 "OssuaryVault$Field" "logs" "[I", Cond.methodLink RX8 89 yX0_put, Cond.instanceMethod yX0_put, Cond.selects RX0 yX0_put yX0_put, Cond.code yX0_put cX0_put 3 none]
def wsX8_writeWeights : List Cond := .code yX8_writeWeights cX8_writeWeights 4 none :: ((wsX8_writeWeights_r1 ++ wsX8_writeWeights_r2) ++ wsX80 ++ wsX00 ++ wsX40)
def wsX8_scaleRow : List Cond := .code yX8_scaleRow cX8_scaleRow 4 none :: ([.fieldLink RX8 16 "OssuaryVault$Recovery" "matrix" "LOssuaryVault$Bytes;", .fieldLink RX8 24 "OssuaryVault$Recovery" "field" "LOssuaryVault$Field;", .methodLink RX8 92 yX0_at, .instanceMethod yX0_at, .selects RX0 yX0_at yX0_at, .initialized RX0, .code yX0_at cX0_at 2 (some .int), .fieldLink RX0 13 "OssuaryVault$Bytes" "size" "I", .fieldLink RX0 7 "OssuaryVault$Bytes" "cells" "[I", .methodLink RX8 106 yX4_times, .instanceMethod yX4_times, .selects RX4 yX4_times yX4_times, .initialized RX4, .code yX4_times cX4_times 3 (some .int), .fieldLink RX4 9 "OssuaryVault$Field" "powers" "[I", .fieldLink RX4 13 "OssuaryVault$Field" "logs" "[I", .methodLink RX8 89 yX0_put, .instanceMethod yX0_put, .selects RX0 yX0_put yX0_put, .code yX0_put cX0_put 3 none] ++ wsX80 ++ wsX00 ++ wsX40)
def wsX8_invert_r1 : List Cond := [Cond.fieldLink RX8 24 "OssuaryVault$Recovery" "field" "LOssuaryVault$Field;", Cond.fieldLink RX8 16 "OssuaryVault$Recovery" "matrix" "LOssuaryVault$Bytes;", Cond.methodLink RX8 92 yX0_at, Cond.instanceMethod yX0_at, Cond.selects RX0 yX0_at yX0_at, Cond.initialized RX0, Cond.code yX0_at cX0_at 2 (some .int), Cond.fieldLink RX0 13 "OssuaryVault$Bytes" "size" "I", Cond.fieldLink RX0 7 "OssuaryVault$Bytes" "cells" "[I", Cond.methodLink RX8 96 yX4_oneOver, Cond.instanceMethod yX4_oneOver, Cond.selects RX4 yX4_oneOver yX4_oneOver, Cond.initialized RX4, Cond.code yX4_oneOver cX4_oneOver 2 (some .int), Cond.fieldLink RX4 9 "OssuaryVault$Field" "powers" "[I", Cond.fieldLink RX4 13 "OssuaryVault$Field" "logs" "[I", Cond.methodLink RX8 99 yX8_scaleRow, Cond.instanceMethod yX8_scaleRow, Cond.selects RX8 yX8_scaleRow yX8_scaleRow, Cond.initialized RX8, Cond.code yX8_scaleRow cX8_scaleRow 4 none, Cond.methodLink RX8 106 yX4_times, Cond.instanceMethod yX4_times, Cond.selects RX4 yX4_times yX4_times]
def wsX8_invert_r2 : List Cond := [Cond.code yX4_times cX4_times 3 (some .int), Cond.methodLink RX8 89 yX0_put, Cond.instanceMethod yX0_put, Cond.selects RX0 yX0_put yX0_put, Cond.code yX0_put cX0_put 3 none, Cond.methodLink RX8 102 yX4_addProducts, Cond.instanceMethod yX4_addProducts, Cond.selects RX4 yX4_addProducts yX4_addProducts, Cond.code yX4_addProducts cX4_addProducts 9 none, Cond.methodLink RX4 20 yX0_at, Cond.methodLink RX4 25 yX4_times, Cond.methodLink RX4 29 yX0_put]
def wsX8_invert : List Cond := .code yX8_invert cX8_invert 6 none :: ((wsX8_invert_r1 ++ wsX8_invert_r2) ++ wsX80 ++ wsX00 ++ wsX40)
def wsX8_workOut_r1 : List Cond := [Cond.fieldLink RX8 20 "OssuaryVault$Recovery" "chosen" "[I", Cond.fieldLink RX8 16 "OssuaryVault$Recovery" "matrix" "LOssuaryVault$Bytes;", Cond.fieldLink RX8 24 "OssuaryVault$Recovery" "field" "LOssuaryVault$Field;", Cond.methodLink RX8 109 yX0_size, Cond.instanceMethod yX0_size, Cond.selects RX0 yX0_size yX0_size, Cond.initialized RX0, Cond.code yX0_size cX0_size 1 (some .int), Cond.fieldLink RX0 13 "OssuaryVault$Bytes" "size" "I", Cond.methodLink RX8 79 yX0_addTimes, Cond.instanceMethod yX0_addTimes, Cond.selects RX0 yX0_addTimes yX0_addTimes, Cond.code yX0_addTimes cX0_addTimes 4 none, Cond.methodLink RX0 25 yX0_add, Cond.instanceMethod yX0_add, Cond.selects RX0 yX0_add yX0_add, Cond.code yX0_add cX0_add 2 none, Cond.fieldLink RX0 7 "OssuaryVault$Bytes" "cells" "[I", Cond.methodLink RX8 56 yX9_memberWith, Cond.instanceMethod yX9_memberWith, Cond.selects RX9 yX9_memberWith yX9_memberWith, Cond.initialized RX9, Cond.code yX9_memberWith cX9_memberWith 2 (some (.object "OssuaryVault$Volume")), Cond.fieldLink RX9 21 "OssuaryVault$Shelf" "holders" "[I"]
def wsX8_workOut_r2 : List Cond := [Cond.methodLink RX9 35 yX9_at, Cond.instanceMethod yX9_at, Cond.selects RX9 yX9_at yX9_at, Cond.code yX9_at cX9_at 2 (some (.object "OssuaryVault$Volume")), Cond.fieldLink RX9 11 "OssuaryVault$Shelf" "places" "[LOssuaryVault$Volume;", Cond.methodLink RX8 92 yX0_at, Cond.instanceMethod yX0_at, Cond.selects RX0 yX0_at yX0_at, Cond.code yX0_at cX0_at 2 (some .int), Cond.methodLink RX8 102 yX4_addProducts, Cond.instanceMethod yX4_addProducts, Cond.selects RX4 yX4_addProducts yX4_addProducts, Cond.initialized RX4, Cond.code yX4_addProducts cX4_addProducts 9 none, Cond.methodLink RX4 20 yX0_at, Cond.methodLink RX4 25 yX4_times, Cond.instanceMethod yX4_times, Cond.selects RX4 yX4_times yX4_times, Cond.code yX4_times cX4_times 3 (some .int), Cond.fieldLink RX4 9 "OssuaryVault$Field" "powers" "[I", Cond.fieldLink RX4 13 "OssuaryVault$Field" "logs" "[I", Cond.methodLink RX4 29 yX0_put, Cond.instanceMethod yX0_put, Cond.selects RX0 yX0_put yX0_put]
def wsX8_workOut_r3 : List Cond := [Cond.code yX0_put cX0_put 3 none]
def wsX8_workOut : List Cond := .code yX8_workOut cX8_workOut 10 none :: ((wsX8_workOut_r1 ++ (wsX8_workOut_r2 ++ wsX8_workOut_r3)) ++ wsX80 ++ wsX100 ++ wsX00 ++ wsX90 ++ wsX40)
def wsX10_streamTold : List Cond := .code yX10_streamTold cX10_streamTold 1 (some .int) :: ([.fieldLink RX10 14 "OssuaryVault$Volume" "bytes" "LOssuaryVault$Bytes;", .methodLink RX10 36 yX0_word, .instanceMethod yX0_word, .selects RX0 yX0_word yX0_word, .initialized RX0, .code yX0_word cX0_word 2 (some .int), .methodLink RX0 17 yX0_at, .instanceMethod yX0_at, .selects RX0 yX0_at yX0_at, .code yX0_at cX0_at 2 (some .int), .fieldLink RX0 13 "OssuaryVault$Bytes" "size" "I", .fieldLink RX0 7 "OssuaryVault$Bytes" "cells" "[I"] ++ wsX100 ++ wsX00)
def wsX8_recover_r1 : List Cond := [Cond.methodLink RX8 34 Lib.Math.min.name, Cond.static Lib.Math.min.name, Cond.initialized "java/lang/Math", Cond.code Lib.Math.min.name Lib.Math.min.code 2 (some .int), Cond.methodLink RX8 28 yX10_dataTold, Cond.instanceMethod yX10_dataTold, Cond.selects RX10 yX10_dataTold yX10_dataTold, Cond.initialized RX10, Cond.code yX10_dataTold cX10_dataTold 1 (some .int), Cond.fieldLink RX10 14 "OssuaryVault$Volume" "bytes" "LOssuaryVault$Bytes;", Cond.methodLink RX10 32 yX0_at, Cond.instanceMethod yX0_at, Cond.selects RX0 yX0_at yX0_at, Cond.initialized RX0, Cond.code yX0_at cX0_at 2 (some .int), Cond.fieldLink RX0 13 "OssuaryVault$Bytes" "size" "I", Cond.fieldLink RX0 7 "OssuaryVault$Bytes" "cells" "[I", Cond.methodLink RX8 40 yX10_bodyTold, Cond.instanceMethod yX10_bodyTold, Cond.selects RX10 yX10_bodyTold yX10_bodyTold, Cond.code yX10_bodyTold cX10_bodyTold 1 (some .int), Cond.methodLink RX10 36 yX0_word, Cond.instanceMethod yX0_word, Cond.selects RX0 yX0_word yX0_word]
def wsX8_recover_r2 : List Cond := [Cond.code yX0_word cX0_word 2 (some .int), Cond.methodLink RX0 17 yX0_at, Cond.methodLink RX8 43 yX8_choose, Cond.instanceMethod yX8_choose, Cond.selects RX8 yX8_choose yX8_choose, Cond.initialized RX8, Cond.code yX8_choose cX8_choose 6 (some .int), Cond.fieldLink RX8 20 "OssuaryVault$Recovery" "chosen" "[I", Cond.methodLink RX8 56 yX9_memberWith, Cond.instanceMethod yX9_memberWith, Cond.selects RX9 yX9_memberWith yX9_memberWith, Cond.initialized RX9, Cond.code yX9_memberWith cX9_memberWith 2 (some (.object "OssuaryVault$Volume")), Cond.fieldLink RX9 21 "OssuaryVault$Shelf" "holders" "[I", Cond.methodLink RX9 35 yX9_at, Cond.instanceMethod yX9_at, Cond.selects RX9 yX9_at yX9_at, Cond.code yX9_at cX9_at 2 (some (.object "OssuaryVault$Volume")), Cond.fieldLink RX9 11 "OssuaryVault$Shelf" "places" "[LOssuaryVault$Volume;", Cond.methodLink RX8 47 yX8_writeWeights, Cond.instanceMethod yX8_writeWeights, Cond.selects RX8 yX8_writeWeights yX8_writeWeights, Cond.code yX8_writeWeights cX8_writeWeights 4 none, Cond.fieldLink RX8 16 "OssuaryVault$Recovery" "matrix" "LOssuaryVault$Bytes;"]
def wsX8_recover_r3 : List Cond := [Cond.fieldLink RX8 24 "OssuaryVault$Recovery" "field" "LOssuaryVault$Field;", Cond.methodLink RX8 53 yX0_clear, Cond.instanceMethod yX0_clear, Cond.selects RX0 yX0_clear yX0_clear, Cond.code yX0_clear cX0_clear 1 none, Cond.methodLink RX8 79 yX0_addTimes, Cond.instanceMethod yX0_addTimes, Cond.selects RX0 yX0_addTimes yX0_addTimes, Cond.code yX0_addTimes cX0_addTimes 4 none, Cond.methodLink RX0 25 yX0_add, Cond.instanceMethod yX0_add, Cond.selects RX0 yX0_add yX0_add, Cond.code yX0_add cX0_add 2 none, Cond.methodLink RX8 83 yX4_weight, Cond.instanceMethod yX4_weight, Cond.selects RX4 yX4_weight yX4_weight, Cond.initialized RX4, Cond.code yX4_weight cX4_weight 4 (some .int), Cond.methodLink RX4 33 yX4_parityWeight, Cond.instanceMethod yX4_parityWeight, Cond.selects RX4 yX4_parityWeight yX4_parityWeight, Cond.code yX4_parityWeight cX4_parityWeight 3 (some .int), Cond.methodLink RX4 16 yX4_oneOver, Cond.instanceMethod yX4_oneOver]
def wsX8_recover_r4 : List Cond := [Cond.selects RX4 yX4_oneOver yX4_oneOver, Cond.code yX4_oneOver cX4_oneOver 2 (some .int), Cond.fieldLink RX4 9 "OssuaryVault$Field" "powers" "[I", Cond.fieldLink RX4 13 "OssuaryVault$Field" "logs" "[I", Cond.methodLink RX8 89 yX0_put, Cond.instanceMethod yX0_put, Cond.selects RX0 yX0_put yX0_put, Cond.code yX0_put cX0_put 3 none, Cond.methodLink RX8 50 yX8_invert, Cond.instanceMethod yX8_invert, Cond.selects RX8 yX8_invert yX8_invert, Cond.code yX8_invert cX8_invert 6 none, Cond.methodLink RX8 92 yX0_at, Cond.methodLink RX8 96 yX4_oneOver, Cond.methodLink RX8 99 yX8_scaleRow, Cond.instanceMethod yX8_scaleRow, Cond.selects RX8 yX8_scaleRow yX8_scaleRow, Cond.code yX8_scaleRow cX8_scaleRow 4 none, Cond.methodLink RX8 106 yX4_times, Cond.instanceMethod yX4_times, Cond.selects RX4 yX4_times yX4_times, Cond.code yX4_times cX4_times 3 (some .int), Cond.methodLink RX8 102 yX4_addProducts, Cond.instanceMethod yX4_addProducts]
def wsX8_recover_r5 : List Cond := [Cond.selects RX4 yX4_addProducts yX4_addProducts, Cond.code yX4_addProducts cX4_addProducts 9 none, Cond.methodLink RX4 20 yX0_at, Cond.methodLink RX4 25 yX4_times, Cond.methodLink RX4 29 yX0_put, Cond.methodLink RX8 65 yX0_addPart, Cond.instanceMethod yX0_addPart, Cond.selects RX0 yX0_addPart yX0_addPart, Cond.code yX0_addPart cX0_addPart 5 none, Cond.methodLink RX8 69 yX8_workOut, Cond.instanceMethod yX8_workOut, Cond.selects RX8 yX8_workOut yX8_workOut, Cond.code yX8_workOut cX8_workOut 10 none, Cond.methodLink RX8 109 yX0_size, Cond.instanceMethod yX0_size, Cond.selects RX0 yX0_size yX0_size, Cond.code yX0_size cX0_size 1 (some .int), Cond.methodLink RX8 73 yX10_streamTold, Cond.instanceMethod yX10_streamTold, Cond.selects RX10 yX10_streamTold yX10_streamTold, Cond.code yX10_streamTold cX10_streamTold 1 (some .int), Cond.methodLink RX8 76 yX0_shorten, Cond.instanceMethod yX0_shorten, Cond.selects RX0 yX0_shorten yX0_shorten]
def wsX8_recover_r6 : List Cond := [Cond.code yX0_shorten cX0_shorten 2 none]
def wsX8_recover : List Cond := .code yX8_recover cX8_recover 9 (some .int) :: ((wsX8_recover_r1 ++ (wsX8_recover_r2 ++ (wsX8_recover_r3 ++ (wsX8_recover_r4 ++ (wsX8_recover_r5 ++ wsX8_recover_r6))))) ++ wsX100 ++ wsX00 ++ wsX80 ++ wsX90 ++ wsX40)
def wsX10_init : List Cond := .code yX10_init cX10_init 2 none :: ([.methodLink RX10 3 objectInit, .instanceMethod objectInit, .code objectInit ⟨#[0xb1]⟩ 1 none, .classLink RX10 9 RX0, .instantiable RX0 2, .initialized RX0, .fieldLink RX10 14 "OssuaryVault$Volume" "bytes" "LOssuaryVault$Bytes;", .fieldLink RX10 20 "OssuaryVault$Volume" "check" "LOssuaryVault$Check;", .methodLink RX10 11 yX0_init, .instanceMethod yX0_init, .code yX0_init cX0_init 2 none, .methodLink RX0 1 objectInit, .arrayClass .int, .fieldLink RX0 7 "OssuaryVault$Bytes" "cells" "[I"] ++ wsX00 ++ wsX100)
def wsX9_init_r1 : List Cond := [Cond.methodLink RX9 3 objectInit, Cond.instanceMethod objectInit, Cond.code objectInit ⟨#[0xb1]⟩ 1 none, Cond.classLink RX9 9 RX10, Cond.fieldLink RX9 11 "OssuaryVault$Shelf" "places" "[LOssuaryVault$Volume;", Cond.arrayClass .int, Cond.fieldLink RX9 17 "OssuaryVault$Shelf" "numbers" "[I", Cond.fieldLink RX9 21 "OssuaryVault$Shelf" "holders" "[I", Cond.fieldLink RX9 24 "OssuaryVault$Shelf" "field" "LOssuaryVault$Field;", Cond.instantiable RX10 4, Cond.initialized RX10, Cond.fieldLink RX9 31 "OssuaryVault$Shelf" "blank" "LOssuaryVault$Volume;", Cond.methodLink RX9 28 yX10_init, Cond.instanceMethod yX10_init, Cond.code yX10_init cX10_init 2 none, Cond.methodLink RX10 3 objectInit, Cond.classLink RX10 9 RX0, Cond.instantiable RX0 2, Cond.initialized RX0, Cond.fieldLink RX10 14 "OssuaryVault$Volume" "bytes" "LOssuaryVault$Bytes;", Cond.fieldLink RX10 20 "OssuaryVault$Volume" "check" "LOssuaryVault$Check;", Cond.methodLink RX10 11 yX0_init, Cond.instanceMethod yX0_init, Cond.code yX0_init cX0_init 2 none]
def wsX9_init_r2 : List Cond := [Cond.methodLink RX0 1 objectInit, Cond.fieldLink RX0 7 "OssuaryVault$Bytes" "cells" "[I"]
def wsX9_init : List Cond := .code yX9_init cX9_init 4 none :: ((wsX9_init_r1 ++ wsX9_init_r2) ++ wsX90 ++ wsX100 ++ wsX00)
def wsX9_swap : List Cond := .code yX9_swap cX9_swap 5 none :: ([.fieldLink RX9 11 "OssuaryVault$Shelf" "places" "[LOssuaryVault$Volume;", .methodLink RX9 35 yX9_at, .instanceMethod yX9_at, .selects RX9 yX9_at yX9_at, .initialized RX9, .code yX9_at cX9_at 2 (some (.object "OssuaryVault$Volume"))] ++ wsX90)
def wsX10_parityTold : List Cond := .code yX10_parityTold cX10_parityTold 1 (some .int) :: ([.fieldLink RX10 14 "OssuaryVault$Volume" "bytes" "LOssuaryVault$Bytes;", .methodLink RX10 32 yX0_at, .instanceMethod yX0_at, .selects RX0 yX0_at yX0_at, .initialized RX0, .code yX0_at cX0_at 2 (some .int), .fieldLink RX0 13 "OssuaryVault$Bytes" "size" "I", .fieldLink RX0 7 "OssuaryVault$Bytes" "cells" "[I"] ++ wsX100 ++ wsX00)
def wsX10_number : List Cond := .code yX10_number cX10_number 1 (some .int) :: ([.fieldLink RX10 14 "OssuaryVault$Volume" "bytes" "LOssuaryVault$Bytes;", .methodLink RX10 32 yX0_at, .instanceMethod yX0_at, .selects RX0 yX0_at yX0_at, .initialized RX0, .code yX0_at cX0_at 2 (some .int), .fieldLink RX0 13 "OssuaryVault$Bytes" "size" "I", .fieldLink RX0 7 "OssuaryVault$Bytes" "cells" "[I"] ++ wsX100 ++ wsX00)
def wsX11_bodySize : List Cond := .code yX11_bodySize cX11_bodySize 2 (some .int) :: ([])
def wsX10_headFits_r1 : List Cond := [Cond.fieldLink RX10 24 "OssuaryVault$Volume" "here" "Z", Cond.fieldLink RX10 14 "OssuaryVault$Volume" "bytes" "LOssuaryVault$Bytes;", Cond.methodLink RX10 28 yX0_size, Cond.instanceMethod yX0_size, Cond.selects RX0 yX0_size yX0_size, Cond.initialized RX0, Cond.code yX0_size cX0_size 1 (some .int), Cond.fieldLink RX0 13 "OssuaryVault$Bytes" "size" "I", Cond.methodLink RX10 32 yX0_at, Cond.instanceMethod yX0_at, Cond.selects RX0 yX0_at yX0_at, Cond.code yX0_at cX0_at 2 (some .int), Cond.fieldLink RX0 7 "OssuaryVault$Bytes" "cells" "[I", Cond.methodLink RX10 91 yX10_dataTold, Cond.instanceMethod yX10_dataTold, Cond.selects RX10 yX10_dataTold yX10_dataTold, Cond.initialized RX10, Cond.code yX10_dataTold cX10_dataTold 1 (some .int), Cond.methodLink RX10 94 yX10_parityTold, Cond.instanceMethod yX10_parityTold, Cond.selects RX10 yX10_parityTold yX10_parityTold, Cond.code yX10_parityTold cX10_parityTold 1 (some .int), Cond.methodLink RX10 97 yX10_number, Cond.instanceMethod yX10_number]
def wsX10_headFits_r2 : List Cond := [Cond.selects RX10 yX10_number yX10_number, Cond.code yX10_number cX10_number 1 (some .int), Cond.methodLink RX10 100 yX10_bodyTold, Cond.instanceMethod yX10_bodyTold, Cond.selects RX10 yX10_bodyTold yX10_bodyTold, Cond.code yX10_bodyTold cX10_bodyTold 1 (some .int), Cond.methodLink RX10 36 yX0_word, Cond.instanceMethod yX0_word, Cond.selects RX0 yX0_word yX0_word, Cond.code yX0_word cX0_word 2 (some .int), Cond.methodLink RX0 17 yX0_at, Cond.methodLink RX10 103 yX10_streamTold, Cond.instanceMethod yX10_streamTold, Cond.selects RX10 yX10_streamTold yX10_streamTold, Cond.code yX10_streamTold cX10_streamTold 1 (some .int), Cond.static yX11_bodySize, Cond.initialized RX11, Cond.code yX11_bodySize cX11_bodySize 2 (some .int)]
def wsX10_headFits : List Cond := .code yX10_headFits cX10_headFits 1 (some .boolean) :: ((wsX10_headFits_r1 ++ wsX10_headFits_r2) ++ wsX100 ++ wsX00)
def wsX10_rightCheck : List Cond := .code yX10_rightCheck cX10_rightCheck 2 (some .int) :: ([.fieldLink RX10 20 "OssuaryVault$Volume" "check" "LOssuaryVault$Check;", .constant RX10 82 (65535), .fieldLink RX10 14 "OssuaryVault$Volume" "bytes" "LOssuaryVault$Bytes;", .methodLink RX10 83 yX1_after, .instanceMethod yX1_after, .selects RX1 yX1_after yX1_after, .initialized RX1, .code yX1_after cX1_after 7 (some .int), .constant RX1 18 (65535), .fieldLink RX1 7 "OssuaryVault$Check" "steps" "[I", .methodLink RX1 19 yX0_at, .instanceMethod yX0_at, .selects RX0 yX0_at yX0_at, .initialized RX0, .code yX0_at cX0_at 2 (some .int), .fieldLink RX0 13 "OssuaryVault$Bytes" "size" "I", .fieldLink RX0 7 "OssuaryVault$Bytes" "cells" "[I", .methodLink RX10 28 yX0_size, .instanceMethod yX0_size, .selects RX0 yX0_size yX0_size, .code yX0_size cX0_size 1 (some .int)] ++ wsX100 ++ wsX10 ++ wsX00)
def wsX10_isWhole_r1 : List Cond := [Cond.fieldLink RX10 42 "OssuaryVault$Volume" "verdict" "I", Cond.fieldLink RX10 14 "OssuaryVault$Volume" "bytes" "LOssuaryVault$Bytes;", Cond.methodLink RX10 87 yX10_headFits, Cond.instanceMethod yX10_headFits, Cond.selects RX10 yX10_headFits yX10_headFits, Cond.initialized RX10, Cond.code yX10_headFits cX10_headFits 1 (some .boolean), Cond.fieldLink RX10 24 "OssuaryVault$Volume" "here" "Z", Cond.methodLink RX10 28 yX0_size, Cond.instanceMethod yX0_size, Cond.selects RX0 yX0_size yX0_size, Cond.initialized RX0, Cond.code yX0_size cX0_size 1 (some .int), Cond.fieldLink RX0 13 "OssuaryVault$Bytes" "size" "I", Cond.methodLink RX10 32 yX0_at, Cond.instanceMethod yX0_at, Cond.selects RX0 yX0_at yX0_at, Cond.code yX0_at cX0_at 2 (some .int), Cond.fieldLink RX0 7 "OssuaryVault$Bytes" "cells" "[I", Cond.methodLink RX10 91 yX10_dataTold, Cond.instanceMethod yX10_dataTold, Cond.selects RX10 yX10_dataTold yX10_dataTold, Cond.code yX10_dataTold cX10_dataTold 1 (some .int), Cond.methodLink RX10 94 yX10_parityTold]
def wsX10_isWhole_r2 : List Cond := [Cond.instanceMethod yX10_parityTold, Cond.selects RX10 yX10_parityTold yX10_parityTold, Cond.code yX10_parityTold cX10_parityTold 1 (some .int), Cond.methodLink RX10 97 yX10_number, Cond.instanceMethod yX10_number, Cond.selects RX10 yX10_number yX10_number, Cond.code yX10_number cX10_number 1 (some .int), Cond.methodLink RX10 100 yX10_bodyTold, Cond.instanceMethod yX10_bodyTold, Cond.selects RX10 yX10_bodyTold yX10_bodyTold, Cond.code yX10_bodyTold cX10_bodyTold 1 (some .int), Cond.methodLink RX10 36 yX0_word, Cond.instanceMethod yX0_word, Cond.selects RX0 yX0_word yX0_word, Cond.code yX0_word cX0_word 2 (some .int), Cond.methodLink RX0 17 yX0_at, Cond.methodLink RX10 103 yX10_streamTold, Cond.instanceMethod yX10_streamTold, Cond.selects RX10 yX10_streamTold yX10_streamTold, Cond.code yX10_streamTold cX10_streamTold 1 (some .int), Cond.static yX11_bodySize, Cond.initialized RX11, Cond.code yX11_bodySize cX11_bodySize 2 (some .int), Cond.methodLink RX10 74 yX10_rightCheck]
def wsX10_isWhole_r3 : List Cond := [Cond.instanceMethod yX10_rightCheck, Cond.selects RX10 yX10_rightCheck yX10_rightCheck, Cond.code yX10_rightCheck cX10_rightCheck 2 (some .int), Cond.fieldLink RX10 20 "OssuaryVault$Volume" "check" "LOssuaryVault$Check;", Cond.constant RX10 82 (65535), Cond.methodLink RX10 83 yX1_after, Cond.instanceMethod yX1_after, Cond.selects RX1 yX1_after yX1_after, Cond.initialized RX1, Cond.code yX1_after cX1_after 7 (some .int), Cond.constant RX1 18 (65535), Cond.fieldLink RX1 7 "OssuaryVault$Check" "steps" "[I", Cond.methodLink RX1 19 yX0_at]
def wsX10_isWhole : List Cond := .code yX10_isWhole cX10_isWhole 1 (some .boolean) :: ((wsX10_isWhole_r1 ++ (wsX10_isWhole_r2 ++ wsX10_isWhole_r3)) ++ wsX100 ++ wsX00 ++ wsX10)
def wsX10_isOfOneWith_r1 : List Cond := [Cond.methodLink RX10 91 yX10_dataTold, Cond.instanceMethod yX10_dataTold, Cond.selects RX10 yX10_dataTold yX10_dataTold, Cond.initialized RX10, Cond.code yX10_dataTold cX10_dataTold 1 (some .int), Cond.fieldLink RX10 14 "OssuaryVault$Volume" "bytes" "LOssuaryVault$Bytes;", Cond.methodLink RX10 32 yX0_at, Cond.instanceMethod yX0_at, Cond.selects RX0 yX0_at yX0_at, Cond.initialized RX0, Cond.code yX0_at cX0_at 2 (some .int), Cond.fieldLink RX0 13 "OssuaryVault$Bytes" "size" "I", Cond.fieldLink RX0 7 "OssuaryVault$Bytes" "cells" "[I", Cond.methodLink RX10 94 yX10_parityTold, Cond.instanceMethod yX10_parityTold, Cond.selects RX10 yX10_parityTold yX10_parityTold, Cond.code yX10_parityTold cX10_parityTold 1 (some .int), Cond.methodLink RX10 100 yX10_bodyTold, Cond.instanceMethod yX10_bodyTold, Cond.selects RX10 yX10_bodyTold yX10_bodyTold, Cond.code yX10_bodyTold cX10_bodyTold 1 (some .int), Cond.methodLink RX10 36 yX0_word, Cond.instanceMethod yX0_word, Cond.selects RX0 yX0_word yX0_word]
def wsX10_isOfOneWith_r2 : List Cond := [Cond.code yX0_word cX0_word 2 (some .int), Cond.methodLink RX0 17 yX0_at, Cond.methodLink RX10 103 yX10_streamTold, Cond.instanceMethod yX10_streamTold, Cond.selects RX10 yX10_streamTold yX10_streamTold, Cond.code yX10_streamTold cX10_streamTold 1 (some .int)]
def wsX10_isOfOneWith : List Cond := .code yX10_isOfOneWith cX10_isOfOneWith 2 (some .boolean) :: ((wsX10_isOfOneWith_r1 ++ wsX10_isOfOneWith_r2) ++ wsX100 ++ wsX00)
def wsX9_seeWhole_r1 : List Cond := [Cond.fieldLink RX9 39 "OssuaryVault$Shelf" "leaderPlace" "I", Cond.fieldLink RX9 21 "OssuaryVault$Shelf" "holders" "[I", Cond.fieldLink RX9 17 "OssuaryVault$Shelf" "numbers" "[I", Cond.fieldLink RX9 43 "OssuaryVault$Shelf" "members" "I", Cond.methodLink RX9 35 yX9_at, Cond.instanceMethod yX9_at, Cond.selects RX9 yX9_at yX9_at, Cond.initialized RX9, Cond.code yX9_at cX9_at 2 (some (.object "OssuaryVault$Volume")), Cond.fieldLink RX9 11 "OssuaryVault$Shelf" "places" "[LOssuaryVault$Volume;", Cond.methodLink RX9 54 yX10_isOfOneWith, Cond.instanceMethod yX10_isOfOneWith, Cond.selects RX10 yX10_isOfOneWith yX10_isOfOneWith, Cond.initialized RX10, Cond.code yX10_isOfOneWith cX10_isOfOneWith 2 (some .boolean), Cond.methodLink RX10 91 yX10_dataTold, Cond.instanceMethod yX10_dataTold, Cond.selects RX10 yX10_dataTold yX10_dataTold, Cond.code yX10_dataTold cX10_dataTold 1 (some .int), Cond.fieldLink RX10 14 "OssuaryVault$Volume" "bytes" "LOssuaryVault$Bytes;", Cond.methodLink RX10 32 yX0_at, Cond.instanceMethod yX0_at, Cond.selects RX0 yX0_at yX0_at, Cond.initialized RX0]
def wsX9_seeWhole_r2 : List Cond := [Cond.code yX0_at cX0_at 2 (some .int), Cond.fieldLink RX0 13 "OssuaryVault$Bytes" "size" "I", Cond.fieldLink RX0 7 "OssuaryVault$Bytes" "cells" "[I", Cond.methodLink RX10 94 yX10_parityTold, Cond.instanceMethod yX10_parityTold, Cond.selects RX10 yX10_parityTold yX10_parityTold, Cond.code yX10_parityTold cX10_parityTold 1 (some .int), Cond.methodLink RX10 100 yX10_bodyTold, Cond.instanceMethod yX10_bodyTold, Cond.selects RX10 yX10_bodyTold yX10_bodyTold, Cond.code yX10_bodyTold cX10_bodyTold 1 (some .int), Cond.methodLink RX10 36 yX0_word, Cond.instanceMethod yX0_word, Cond.selects RX0 yX0_word yX0_word, Cond.code yX0_word cX0_word 2 (some .int), Cond.methodLink RX0 17 yX0_at, Cond.methodLink RX10 103 yX10_streamTold, Cond.instanceMethod yX10_streamTold, Cond.selects RX10 yX10_streamTold yX10_streamTold, Cond.code yX10_streamTold cX10_streamTold 1 (some .int), Cond.methodLink RX9 58 yX10_number, Cond.instanceMethod yX10_number, Cond.selects RX10 yX10_number yX10_number, Cond.code yX10_number cX10_number 1 (some .int)]
def wsX9_seeWhole : List Cond := .code yX9_seeWhole cX9_seeWhole 5 none :: ((wsX9_seeWhole_r1 ++ wsX9_seeWhole_r2) ++ wsX90 ++ wsX100 ++ wsX00)
def wsX9_survey_r1 : List Cond := [Cond.fieldLink RX9 39 "OssuaryVault$Shelf" "leaderPlace" "I", Cond.fieldLink RX9 43 "OssuaryVault$Shelf" "members" "I", Cond.fieldLink RX9 17 "OssuaryVault$Shelf" "numbers" "[I", Cond.fieldLink RX9 21 "OssuaryVault$Shelf" "holders" "[I", Cond.fieldLink RX9 11 "OssuaryVault$Shelf" "places" "[LOssuaryVault$Volume;", Cond.methodLink RX9 46 yX10_isWhole, Cond.instanceMethod yX10_isWhole, Cond.selects RX10 yX10_isWhole yX10_isWhole, Cond.initialized RX10, Cond.code yX10_isWhole cX10_isWhole 1 (some .boolean), Cond.fieldLink RX10 42 "OssuaryVault$Volume" "verdict" "I", Cond.fieldLink RX10 14 "OssuaryVault$Volume" "bytes" "LOssuaryVault$Bytes;", Cond.methodLink RX10 87 yX10_headFits, Cond.instanceMethod yX10_headFits, Cond.selects RX10 yX10_headFits yX10_headFits, Cond.code yX10_headFits cX10_headFits 1 (some .boolean), Cond.fieldLink RX10 24 "OssuaryVault$Volume" "here" "Z", Cond.methodLink RX10 28 yX0_size, Cond.instanceMethod yX0_size, Cond.selects RX0 yX0_size yX0_size, Cond.initialized RX0, Cond.code yX0_size cX0_size 1 (some .int), Cond.fieldLink RX0 13 "OssuaryVault$Bytes" "size" "I", Cond.methodLink RX10 32 yX0_at]
def wsX9_survey_r2 : List Cond := [Cond.instanceMethod yX0_at, Cond.selects RX0 yX0_at yX0_at, Cond.code yX0_at cX0_at 2 (some .int), Cond.fieldLink RX0 7 "OssuaryVault$Bytes" "cells" "[I", Cond.methodLink RX10 91 yX10_dataTold, Cond.instanceMethod yX10_dataTold, Cond.selects RX10 yX10_dataTold yX10_dataTold, Cond.code yX10_dataTold cX10_dataTold 1 (some .int), Cond.methodLink RX10 94 yX10_parityTold, Cond.instanceMethod yX10_parityTold, Cond.selects RX10 yX10_parityTold yX10_parityTold, Cond.code yX10_parityTold cX10_parityTold 1 (some .int), Cond.methodLink RX10 97 yX10_number, Cond.instanceMethod yX10_number, Cond.selects RX10 yX10_number yX10_number, Cond.code yX10_number cX10_number 1 (some .int), Cond.methodLink RX10 100 yX10_bodyTold, Cond.instanceMethod yX10_bodyTold, Cond.selects RX10 yX10_bodyTold yX10_bodyTold, Cond.code yX10_bodyTold cX10_bodyTold 1 (some .int), Cond.methodLink RX10 36 yX0_word, Cond.instanceMethod yX0_word, Cond.selects RX0 yX0_word yX0_word, Cond.code yX0_word cX0_word 2 (some .int)]
def wsX9_survey_r3 : List Cond := [Cond.methodLink RX0 17 yX0_at, Cond.methodLink RX10 103 yX10_streamTold, Cond.instanceMethod yX10_streamTold, Cond.selects RX10 yX10_streamTold yX10_streamTold, Cond.code yX10_streamTold cX10_streamTold 1 (some .int), Cond.static yX11_bodySize, Cond.initialized RX11, Cond.code yX11_bodySize cX11_bodySize 2 (some .int), Cond.methodLink RX10 74 yX10_rightCheck, Cond.instanceMethod yX10_rightCheck, Cond.selects RX10 yX10_rightCheck yX10_rightCheck, Cond.code yX10_rightCheck cX10_rightCheck 2 (some .int), Cond.fieldLink RX10 20 "OssuaryVault$Volume" "check" "LOssuaryVault$Check;", Cond.constant RX10 82 (65535), Cond.methodLink RX10 83 yX1_after, Cond.instanceMethod yX1_after, Cond.selects RX1 yX1_after yX1_after, Cond.initialized RX1, Cond.code yX1_after cX1_after 7 (some .int), Cond.constant RX1 18 (65535), Cond.fieldLink RX1 7 "OssuaryVault$Check" "steps" "[I", Cond.methodLink RX1 19 yX0_at, Cond.methodLink RX9 50 yX9_seeWhole, Cond.instanceMethod yX9_seeWhole]
def wsX9_survey_r4 : List Cond := [Cond.selects RX9 yX9_seeWhole yX9_seeWhole, Cond.initialized RX9, Cond.code yX9_seeWhole cX9_seeWhole 5 none, Cond.methodLink RX9 35 yX9_at, Cond.instanceMethod yX9_at, Cond.selects RX9 yX9_at yX9_at, Cond.code yX9_at cX9_at 2 (some (.object "OssuaryVault$Volume")), Cond.methodLink RX9 54 yX10_isOfOneWith, Cond.instanceMethod yX10_isOfOneWith, Cond.selects RX10 yX10_isOfOneWith yX10_isOfOneWith, Cond.code yX10_isOfOneWith cX10_isOfOneWith 2 (some .boolean), Cond.methodLink RX9 58 yX10_number]
def wsX9_survey : List Cond := .code yX9_survey cX9_survey 2 none :: ((wsX9_survey_r1 ++ (wsX9_survey_r2 ++ (wsX9_survey_r3 ++ wsX9_survey_r4))) ++ wsX90 ++ wsX100 ++ wsX00 ++ wsX10)
def wsX9_memberNumber : List Cond := .code yX9_memberNumber cX9_memberNumber 2 (some .int) :: ([.fieldLink RX9 17 "OssuaryVault$Shelf" "numbers" "[I"] ++ wsX90)
def wsX9_surplus_r1 : List Cond := [Cond.fieldLink RX9 39 "OssuaryVault$Shelf" "leaderPlace" "I", Cond.fieldLink RX9 43 "OssuaryVault$Shelf" "members" "I", Cond.methodLink RX9 65 Lib.Math.max.name, Cond.static Lib.Math.max.name, Cond.initialized "java/lang/Math", Cond.code Lib.Math.max.name Lib.Math.max.code 2 (some .int), Cond.methodLink RX9 35 yX9_at, Cond.instanceMethod yX9_at, Cond.selects RX9 yX9_at yX9_at, Cond.initialized RX9, Cond.code yX9_at cX9_at 2 (some (.object "OssuaryVault$Volume")), Cond.fieldLink RX9 11 "OssuaryVault$Shelf" "places" "[LOssuaryVault$Volume;", Cond.methodLink RX9 62 yX10_dataTold, Cond.instanceMethod yX10_dataTold, Cond.selects RX10 yX10_dataTold yX10_dataTold, Cond.initialized RX10, Cond.code yX10_dataTold cX10_dataTold 1 (some .int), Cond.fieldLink RX10 14 "OssuaryVault$Volume" "bytes" "LOssuaryVault$Bytes;", Cond.methodLink RX10 32 yX0_at, Cond.instanceMethod yX0_at, Cond.selects RX0 yX0_at yX0_at, Cond.initialized RX0, Cond.code yX0_at cX0_at 2 (some .int), Cond.fieldLink RX0 13 "OssuaryVault$Bytes" "size" "I"]
def wsX9_surplus_r2 : List Cond := [Cond.fieldLink RX0 7 "OssuaryVault$Bytes" "cells" "[I"]
def wsX9_surplus : List Cond := .code yX9_surplus cX9_surplus 2 (some .int) :: ((wsX9_surplus_r1 ++ wsX9_surplus_r2) ++ wsX90 ++ wsX100 ++ wsX00)
def wsX10_size : List Cond := .code yX10_size cX10_size 1 (some .int) :: ([.fieldLink RX10 24 "OssuaryVault$Volume" "here" "Z", .fieldLink RX10 14 "OssuaryVault$Volume" "bytes" "LOssuaryVault$Bytes;", .methodLink RX10 28 yX0_size, .instanceMethod yX0_size, .selects RX0 yX0_size yX0_size, .initialized RX0, .code yX0_size cX0_size 1 (some .int), .fieldLink RX0 13 "OssuaryVault$Bytes" "size" "I"] ++ wsX100 ++ wsX00)
def wsX9_allBytes : List Cond := .code yX9_allBytes cX9_allBytes 3 (some .int) :: ([.fieldLink RX9 11 "OssuaryVault$Shelf" "places" "[LOssuaryVault$Volume;", .methodLink RX9 65 Lib.Math.max.name, .static Lib.Math.max.name, .initialized "java/lang/Math", .code Lib.Math.max.name Lib.Math.max.code 2 (some .int), .methodLink RX9 71 yX10_size, .instanceMethod yX10_size, .selects RX10 yX10_size yX10_size, .initialized RX10, .code yX10_size cX10_size 1 (some .int), .fieldLink RX10 24 "OssuaryVault$Volume" "here" "Z", .fieldLink RX10 14 "OssuaryVault$Volume" "bytes" "LOssuaryVault$Bytes;", .methodLink RX10 28 yX0_size, .instanceMethod yX0_size, .selects RX0 yX0_size yX0_size, .initialized RX0, .code yX0_size cX0_size 1 (some .int), .fieldLink RX0 13 "OssuaryVault$Bytes" "size" "I"] ++ wsX90 ++ wsX100 ++ wsX00)
def wsX10_begin_r1 : List Cond := [Cond.fieldLink RX10 24 "OssuaryVault$Volume" "here" "Z", Cond.fieldLink RX10 42 "OssuaryVault$Volume" "verdict" "I", Cond.fieldLink RX10 14 "OssuaryVault$Volume" "bytes" "LOssuaryVault$Bytes;", Cond.static yX11_bodySize, Cond.initialized RX11, Cond.code yX11_bodySize cX11_bodySize 2 (some .int), Cond.methodLink RX10 39 yX0_clear, Cond.instanceMethod yX0_clear, Cond.selects RX0 yX0_clear yX0_clear, Cond.initialized RX0, Cond.code yX0_clear cX0_clear 1 none, Cond.fieldLink RX0 13 "OssuaryVault$Bytes" "size" "I", Cond.methodLink RX10 58 yX0_add, Cond.instanceMethod yX0_add, Cond.selects RX0 yX0_add yX0_add, Cond.code yX0_add cX0_add 2 none, Cond.fieldLink RX0 7 "OssuaryVault$Bytes" "cells" "[I", Cond.methodLink RX10 61 yX0_addWord, Cond.instanceMethod yX0_addWord, Cond.selects RX0 yX0_addWord yX0_addWord, Cond.code yX0_addWord cX0_addWord 2 none, Cond.methodLink RX0 25 yX0_add, Cond.methodLink RX10 64 yX0_addTimes, Cond.instanceMethod yX0_addTimes]
def wsX10_begin_r2 : List Cond := [Cond.selects RX0 yX0_addTimes yX0_addTimes, Cond.code yX0_addTimes cX0_addTimes 4 none]
def wsX10_begin : List Cond := .code yX10_begin cX10_begin 6 none :: ((wsX10_begin_r1 ++ wsX10_begin_r2) ++ wsX100 ++ wsX00)
def wsX10_seal_r1 : List Cond := [Cond.fieldLink RX10 42 "OssuaryVault$Volume" "verdict" "I", Cond.fieldLink RX10 14 "OssuaryVault$Volume" "bytes" "LOssuaryVault$Bytes;", Cond.methodLink RX10 74 yX10_rightCheck, Cond.instanceMethod yX10_rightCheck, Cond.selects RX10 yX10_rightCheck yX10_rightCheck, Cond.initialized RX10, Cond.code yX10_rightCheck cX10_rightCheck 2 (some .int), Cond.fieldLink RX10 20 "OssuaryVault$Volume" "check" "LOssuaryVault$Check;", Cond.constant RX10 82 (65535), Cond.methodLink RX10 83 yX1_after, Cond.instanceMethod yX1_after, Cond.selects RX1 yX1_after yX1_after, Cond.initialized RX1, Cond.code yX1_after cX1_after 7 (some .int), Cond.constant RX1 18 (65535), Cond.fieldLink RX1 7 "OssuaryVault$Check" "steps" "[I", Cond.methodLink RX1 19 yX0_at, Cond.instanceMethod yX0_at, Cond.selects RX0 yX0_at yX0_at, Cond.initialized RX0, Cond.code yX0_at cX0_at 2 (some .int), Cond.fieldLink RX0 13 "OssuaryVault$Bytes" "size" "I", Cond.fieldLink RX0 7 "OssuaryVault$Bytes" "cells" "[I", Cond.methodLink RX10 28 yX0_size]
def wsX10_seal_r2 : List Cond := [Cond.instanceMethod yX0_size, Cond.selects RX0 yX0_size yX0_size, Cond.code yX0_size cX0_size 1 (some .int), Cond.methodLink RX10 77 yX0_putWord, Cond.instanceMethod yX0_putWord, Cond.selects RX0 yX0_putWord yX0_putWord, Cond.code yX0_putWord cX0_putWord 3 none, Cond.methodLink RX0 21 yX0_put, Cond.instanceMethod yX0_put, Cond.selects RX0 yX0_put yX0_put, Cond.code yX0_put cX0_put 3 none]
def wsX10_seal : List Cond := .code yX10_seal cX10_seal 2 (some .int) :: ((wsX10_seal_r1 ++ wsX10_seal_r2) ++ wsX100 ++ wsX10 ++ wsX00)
def wsX9_form_r1 : List Cond := [Cond.fieldLink RX9 24 "OssuaryVault$Shelf" "field" "LOssuaryVault$Field;", Cond.methodLink RX9 84 yX0_size, Cond.instanceMethod yX0_size, Cond.selects RX0 yX0_size yX0_size, Cond.initialized RX0, Cond.code yX0_size cX0_size 1 (some .int), Cond.fieldLink RX0 13 "OssuaryVault$Bytes" "size" "I", Cond.methodLink RX9 87 yX10_begin, Cond.instanceMethod yX10_begin, Cond.selects RX10 yX10_begin yX10_begin, Cond.initialized RX10, Cond.code yX10_begin cX10_begin 6 none, Cond.fieldLink RX10 24 "OssuaryVault$Volume" "here" "Z", Cond.fieldLink RX10 42 "OssuaryVault$Volume" "verdict" "I", Cond.fieldLink RX10 14 "OssuaryVault$Volume" "bytes" "LOssuaryVault$Bytes;", Cond.static yX11_bodySize, Cond.initialized RX11, Cond.code yX11_bodySize cX11_bodySize 2 (some .int), Cond.methodLink RX10 39 yX0_clear, Cond.instanceMethod yX0_clear, Cond.selects RX0 yX0_clear yX0_clear, Cond.code yX0_clear cX0_clear 1 none, Cond.methodLink RX10 58 yX0_add, Cond.instanceMethod yX0_add]
def wsX9_form_r2 : List Cond := [Cond.selects RX0 yX0_add yX0_add, Cond.code yX0_add cX0_add 2 none, Cond.fieldLink RX0 7 "OssuaryVault$Bytes" "cells" "[I", Cond.methodLink RX10 61 yX0_addWord, Cond.instanceMethod yX0_addWord, Cond.selects RX0 yX0_addWord yX0_addWord, Cond.code yX0_addWord cX0_addWord 2 none, Cond.methodLink RX0 25 yX0_add, Cond.methodLink RX10 64 yX0_addTimes, Cond.instanceMethod yX0_addTimes, Cond.selects RX0 yX0_addTimes yX0_addTimes, Cond.code yX0_addTimes cX0_addTimes 4 none, Cond.methodLink RX9 94 yX4_weight, Cond.instanceMethod yX4_weight, Cond.selects RX4 yX4_weight yX4_weight, Cond.initialized RX4, Cond.code yX4_weight cX4_weight 4 (some .int), Cond.methodLink RX4 33 yX4_parityWeight, Cond.instanceMethod yX4_parityWeight, Cond.selects RX4 yX4_parityWeight yX4_parityWeight, Cond.code yX4_parityWeight cX4_parityWeight 3 (some .int), Cond.methodLink RX4 16 yX4_oneOver, Cond.instanceMethod yX4_oneOver, Cond.selects RX4 yX4_oneOver yX4_oneOver]
def wsX9_form_r3 : List Cond := [Cond.code yX4_oneOver cX4_oneOver 2 (some .int), Cond.fieldLink RX4 9 "OssuaryVault$Field" "powers" "[I", Cond.fieldLink RX4 13 "OssuaryVault$Field" "logs" "[I", Cond.methodLink RX9 104 yX4_addProducts, Cond.instanceMethod yX4_addProducts, Cond.selects RX4 yX4_addProducts yX4_addProducts, Cond.code yX4_addProducts cX4_addProducts 9 none, Cond.methodLink RX4 20 yX0_at, Cond.instanceMethod yX0_at, Cond.selects RX0 yX0_at yX0_at, Cond.code yX0_at cX0_at 2 (some .int), Cond.methodLink RX4 25 yX4_times, Cond.instanceMethod yX4_times, Cond.selects RX4 yX4_times yX4_times, Cond.code yX4_times cX4_times 3 (some .int), Cond.methodLink RX4 29 yX0_put, Cond.instanceMethod yX0_put, Cond.selects RX0 yX0_put yX0_put, Cond.code yX0_put cX0_put 3 none, Cond.methodLink RX9 108 yX10_seal, Cond.instanceMethod yX10_seal, Cond.selects RX10 yX10_seal yX10_seal, Cond.code yX10_seal cX10_seal 2 (some .int), Cond.methodLink RX10 74 yX10_rightCheck]
def wsX9_form_r4 : List Cond := [Cond.instanceMethod yX10_rightCheck, Cond.selects RX10 yX10_rightCheck yX10_rightCheck, Cond.code yX10_rightCheck cX10_rightCheck 2 (some .int), Cond.fieldLink RX10 20 "OssuaryVault$Volume" "check" "LOssuaryVault$Check;", Cond.constant RX10 82 (65535), Cond.methodLink RX10 83 yX1_after, Cond.instanceMethod yX1_after, Cond.selects RX1 yX1_after yX1_after, Cond.initialized RX1, Cond.code yX1_after cX1_after 7 (some .int), Cond.constant RX1 18 (65535), Cond.fieldLink RX1 7 "OssuaryVault$Check" "steps" "[I", Cond.methodLink RX1 19 yX0_at, Cond.methodLink RX10 28 yX0_size, Cond.methodLink RX10 77 yX0_putWord, Cond.instanceMethod yX0_putWord, Cond.selects RX0 yX0_putWord yX0_putWord, Cond.code yX0_putWord cX0_putWord 3 none, Cond.methodLink RX0 21 yX0_put]
def wsX9_form : List Cond := .code yX9_form cX9_form 9 none :: ((wsX9_form_r1 ++ (wsX9_form_r2 ++ (wsX9_form_r3 ++ wsX9_form_r4))) ++ wsX90 ++ wsX100 ++ wsX00 ++ wsX40 ++ wsX10)
def wsX10_vanish : List Cond := .code yX10_vanish cX10_vanish 1 none :: ([.fieldLink RX10 24 "OssuaryVault$Volume" "here" "Z", .fieldLink RX10 14 "OssuaryVault$Volume" "bytes" "LOssuaryVault$Bytes;", .fieldLink RX10 42 "OssuaryVault$Volume" "verdict" "I", .methodLink RX10 39 yX0_clear, .instanceMethod yX0_clear, .selects RX0 yX0_clear yX0_clear, .initialized RX0, .code yX0_clear cX0_clear 1 none, .fieldLink RX0 13 "OssuaryVault$Bytes" "size" "I"] ++ wsX100 ++ wsX00)
def wsX10_sameAs : List Cond := .code yX10_sameAs cX10_sameAs 2 (some .boolean) :: ([.fieldLink RX10 24 "OssuaryVault$Volume" "here" "Z", .fieldLink RX10 14 "OssuaryVault$Volume" "bytes" "LOssuaryVault$Bytes;", .methodLink RX10 50 yX0_sameAs, .instanceMethod yX0_sameAs, .selects RX0 yX0_sameAs yX0_sameAs, .initialized RX0, .code yX0_sameAs cX0_sameAs 3 (some .boolean), .fieldLink RX0 13 "OssuaryVault$Bytes" "size" "I", .methodLink RX0 32 yX0_size, .instanceMethod yX0_size, .selects RX0 yX0_size yX0_size, .code yX0_size cX0_size 1 (some .int), .methodLink RX0 17 yX0_at, .instanceMethod yX0_at, .selects RX0 yX0_at yX0_at, .code yX0_at cX0_at 2 (some .int), .fieldLink RX0 7 "OssuaryVault$Bytes" "cells" "[I"] ++ wsX100 ++ wsX00)
def wsX9_fillWith_r1 : List Cond := [Cond.fieldLink RX9 11 "OssuaryVault$Shelf" "places" "[LOssuaryVault$Volume;", Cond.fieldLink RX9 31 "OssuaryVault$Shelf" "blank" "LOssuaryVault$Volume;", Cond.methodLink RX9 74 yX9_form, Cond.instanceMethod yX9_form, Cond.selects RX9 yX9_form yX9_form, Cond.initialized RX9, Cond.code yX9_form cX9_form 9 none, Cond.fieldLink RX9 24 "OssuaryVault$Shelf" "field" "LOssuaryVault$Field;", Cond.methodLink RX9 84 yX0_size, Cond.instanceMethod yX0_size, Cond.selects RX0 yX0_size yX0_size, Cond.initialized RX0, Cond.code yX0_size cX0_size 1 (some .int), Cond.fieldLink RX0 13 "OssuaryVault$Bytes" "size" "I", Cond.methodLink RX9 87 yX10_begin, Cond.instanceMethod yX10_begin, Cond.selects RX10 yX10_begin yX10_begin, Cond.initialized RX10, Cond.code yX10_begin cX10_begin 6 none, Cond.fieldLink RX10 24 "OssuaryVault$Volume" "here" "Z", Cond.fieldLink RX10 42 "OssuaryVault$Volume" "verdict" "I", Cond.fieldLink RX10 14 "OssuaryVault$Volume" "bytes" "LOssuaryVault$Bytes;", Cond.static yX11_bodySize, Cond.initialized RX11]
def wsX9_fillWith_r2 : List Cond := [Cond.code yX11_bodySize cX11_bodySize 2 (some .int), Cond.methodLink RX10 39 yX0_clear, Cond.instanceMethod yX0_clear, Cond.selects RX0 yX0_clear yX0_clear, Cond.code yX0_clear cX0_clear 1 none, Cond.methodLink RX10 58 yX0_add, Cond.instanceMethod yX0_add, Cond.selects RX0 yX0_add yX0_add, Cond.code yX0_add cX0_add 2 none, Cond.fieldLink RX0 7 "OssuaryVault$Bytes" "cells" "[I", Cond.methodLink RX10 61 yX0_addWord, Cond.instanceMethod yX0_addWord, Cond.selects RX0 yX0_addWord yX0_addWord, Cond.code yX0_addWord cX0_addWord 2 none, Cond.methodLink RX0 25 yX0_add, Cond.methodLink RX10 64 yX0_addTimes, Cond.instanceMethod yX0_addTimes, Cond.selects RX0 yX0_addTimes yX0_addTimes, Cond.code yX0_addTimes cX0_addTimes 4 none, Cond.methodLink RX9 94 yX4_weight, Cond.instanceMethod yX4_weight, Cond.selects RX4 yX4_weight yX4_weight, Cond.initialized RX4, Cond.code yX4_weight cX4_weight 4 (some .int)]
def wsX9_fillWith_r3 : List Cond := [Cond.methodLink RX4 33 yX4_parityWeight, Cond.instanceMethod yX4_parityWeight, Cond.selects RX4 yX4_parityWeight yX4_parityWeight, Cond.code yX4_parityWeight cX4_parityWeight 3 (some .int), Cond.methodLink RX4 16 yX4_oneOver, Cond.instanceMethod yX4_oneOver, Cond.selects RX4 yX4_oneOver yX4_oneOver, Cond.code yX4_oneOver cX4_oneOver 2 (some .int), Cond.fieldLink RX4 9 "OssuaryVault$Field" "powers" "[I", Cond.fieldLink RX4 13 "OssuaryVault$Field" "logs" "[I", Cond.methodLink RX9 104 yX4_addProducts, Cond.instanceMethod yX4_addProducts, Cond.selects RX4 yX4_addProducts yX4_addProducts, Cond.code yX4_addProducts cX4_addProducts 9 none, Cond.methodLink RX4 20 yX0_at, Cond.instanceMethod yX0_at, Cond.selects RX0 yX0_at yX0_at, Cond.code yX0_at cX0_at 2 (some .int), Cond.methodLink RX4 25 yX4_times, Cond.instanceMethod yX4_times, Cond.selects RX4 yX4_times yX4_times, Cond.code yX4_times cX4_times 3 (some .int), Cond.methodLink RX4 29 yX0_put, Cond.instanceMethod yX0_put]
def wsX9_fillWith_r4 : List Cond := [Cond.selects RX0 yX0_put yX0_put, Cond.code yX0_put cX0_put 3 none, Cond.methodLink RX9 108 yX10_seal, Cond.instanceMethod yX10_seal, Cond.selects RX10 yX10_seal yX10_seal, Cond.code yX10_seal cX10_seal 2 (some .int), Cond.methodLink RX10 74 yX10_rightCheck, Cond.instanceMethod yX10_rightCheck, Cond.selects RX10 yX10_rightCheck yX10_rightCheck, Cond.code yX10_rightCheck cX10_rightCheck 2 (some .int), Cond.fieldLink RX10 20 "OssuaryVault$Volume" "check" "LOssuaryVault$Check;", Cond.constant RX10 82 (65535), Cond.methodLink RX10 83 yX1_after, Cond.instanceMethod yX1_after, Cond.selects RX1 yX1_after yX1_after, Cond.initialized RX1, Cond.code yX1_after cX1_after 7 (some .int), Cond.constant RX1 18 (65535), Cond.fieldLink RX1 7 "OssuaryVault$Check" "steps" "[I", Cond.methodLink RX1 19 yX0_at, Cond.methodLink RX10 28 yX0_size, Cond.methodLink RX10 77 yX0_putWord, Cond.instanceMethod yX0_putWord, Cond.selects RX0 yX0_putWord yX0_putWord]
def wsX9_fillWith_r5 : List Cond := [Cond.code yX0_putWord cX0_putWord 3 none, Cond.methodLink RX0 21 yX0_put, Cond.methodLink RX9 78 yX10_vanish, Cond.instanceMethod yX10_vanish, Cond.selects RX10 yX10_vanish yX10_vanish, Cond.code yX10_vanish cX10_vanish 1 none, Cond.methodLink RX9 81 yX10_sameAs, Cond.instanceMethod yX10_sameAs, Cond.selects RX10 yX10_sameAs yX10_sameAs, Cond.code yX10_sameAs cX10_sameAs 2 (some .boolean), Cond.methodLink RX10 50 yX0_sameAs, Cond.instanceMethod yX0_sameAs, Cond.selects RX0 yX0_sameAs yX0_sameAs, Cond.code yX0_sameAs cX0_sameAs 3 (some .boolean), Cond.methodLink RX0 32 yX0_size, Cond.methodLink RX0 17 yX0_at]
def wsX9_fillWith : List Cond := .code yX9_fillWith cX9_fillWith 7 (some .int) :: ((wsX9_fillWith_r1 ++ (wsX9_fillWith_r2 ++ (wsX9_fillWith_r3 ++ (wsX9_fillWith_r4 ++ wsX9_fillWith_r5)))) ++ wsX90 ++ wsX100 ++ wsX00 ++ wsX40 ++ wsX10)
def wsX10_isHere : List Cond := .code yX10_isHere cX10_isHere 1 (some .boolean) :: ([.fieldLink RX10 24 "OssuaryVault$Volume" "here" "Z"] ++ wsX100)
def wsX10_become_r1 : List Cond := [Cond.fieldLink RX10 24 "OssuaryVault$Volume" "here" "Z", Cond.fieldLink RX10 14 "OssuaryVault$Volume" "bytes" "LOssuaryVault$Bytes;", Cond.fieldLink RX10 42 "OssuaryVault$Volume" "verdict" "I", Cond.methodLink RX10 46 yX0_fillFrom, Cond.instanceMethod yX0_fillFrom, Cond.selects RX0 yX0_fillFrom yX0_fillFrom, Cond.initialized RX0, Cond.code yX0_fillFrom cX0_fillFrom 2 none, Cond.methodLink RX0 29 yX0_clear, Cond.instanceMethod yX0_clear, Cond.selects RX0 yX0_clear yX0_clear, Cond.code yX0_clear cX0_clear 1 none, Cond.fieldLink RX0 13 "OssuaryVault$Bytes" "size" "I", Cond.methodLink RX0 32 yX0_size, Cond.instanceMethod yX0_size, Cond.selects RX0 yX0_size yX0_size, Cond.code yX0_size cX0_size 1 (some .int), Cond.methodLink RX0 35 yX0_addPart, Cond.instanceMethod yX0_addPart, Cond.selects RX0 yX0_addPart yX0_addPart, Cond.code yX0_addPart cX0_addPart 5 none, Cond.methodLink RX0 17 yX0_at, Cond.instanceMethod yX0_at, Cond.selects RX0 yX0_at yX0_at]
def wsX10_become_r2 : List Cond := [Cond.code yX0_at cX0_at 2 (some .int), Cond.fieldLink RX0 7 "OssuaryVault$Bytes" "cells" "[I", Cond.methodLink RX0 25 yX0_add, Cond.instanceMethod yX0_add, Cond.selects RX0 yX0_add yX0_add, Cond.code yX0_add cX0_add 2 none]
def wsX10_become : List Cond := .code yX10_become cX10_become 2 none :: ((wsX10_become_r1 ++ wsX10_become_r2) ++ wsX100 ++ wsX00)
def wsX10_mix : List Cond := .code yX10_mix cX10_mix 3 (some .int) :: ([.fieldLink RX10 42 "OssuaryVault$Volume" "verdict" "I", .fieldLink RX10 14 "OssuaryVault$Volume" "bytes" "LOssuaryVault$Bytes;", .methodLink RX10 32 yX0_at, .instanceMethod yX0_at, .selects RX0 yX0_at yX0_at, .initialized RX0, .code yX0_at cX0_at 2 (some .int), .fieldLink RX0 13 "OssuaryVault$Bytes" "size" "I", .fieldLink RX0 7 "OssuaryVault$Bytes" "cells" "[I", .methodLink RX10 68 yX0_put, .instanceMethod yX0_put, .selects RX0 yX0_put yX0_put, .code yX0_put cX0_put 3 none] ++ wsX100 ++ wsX00)
def wsX10_shorten : List Cond := .code yX10_shorten cX10_shorten 2 none :: ([.fieldLink RX10 42 "OssuaryVault$Volume" "verdict" "I", .fieldLink RX10 14 "OssuaryVault$Volume" "bytes" "LOssuaryVault$Bytes;", .methodLink RX10 71 yX0_shorten, .instanceMethod yX0_shorten, .selects RX0 yX0_shorten yX0_shorten, .initialized RX0, .code yX0_shorten cX0_shorten 2 none, .fieldLink RX0 13 "OssuaryVault$Bytes" "size" "I"] ++ wsX100 ++ wsX00)
def wsX11_init_r1 : List Cond := [Cond.methodLink RX11 3 objectInit, Cond.instanceMethod objectInit, Cond.code objectInit ⟨#[0xb1]⟩ 1 none, Cond.classLink RX11 9 RX1, Cond.instantiable RX1 1, Cond.initialized RX1, Cond.classLink RX11 12 RX4, Cond.instantiable RX4 2, Cond.initialized RX4, Cond.fieldLink RX11 15 "OssuaryVault" "field" "LOssuaryVault$Field;", Cond.classLink RX11 19 RX2, Cond.instantiable RX2 5, Cond.initialized RX2, Cond.fieldLink RX11 24 "OssuaryVault" "desk" "LOssuaryVault$Desk;", Cond.classLink RX11 28 RX9, Cond.instantiable RX9 7, Cond.initialized RX9, Cond.fieldLink RX11 33 "OssuaryVault" "shelf" "LOssuaryVault$Shelf;", Cond.classLink RX11 37 RX8, Cond.instantiable RX8 3, Cond.initialized RX8, Cond.fieldLink RX11 42 "OssuaryVault" "recovery" "LOssuaryVault$Recovery;", Cond.classLink RX11 46 RX7, Cond.instantiable RX7 8]
def wsX11_init_r2 : List Cond := [Cond.initialized RX7, Cond.fieldLink RX11 49 "OssuaryVault" "reading" "LOssuaryVault$Reading;", Cond.methodLink RX11 11 yX1_init, Cond.instanceMethod yX1_init, Cond.code yX1_init cX1_init 2 none, Cond.methodLink RX1 1 objectInit, Cond.arrayClass .int, Cond.fieldLink RX1 7 "OssuaryVault$Check" "steps" "[I", Cond.methodLink RX1 13 yX1_eightSteps, Cond.static yX1_eightSteps, Cond.code yX1_eightSteps cX1_eightSteps 3 (some .int), Cond.constant RX1 17 (65536), Cond.methodLink RX11 14 yX4_init, Cond.instanceMethod yX4_init, Cond.code yX4_init cX4_init 3 none, Cond.methodLink RX4 1 objectInit, Cond.fieldLink RX4 9 "OssuaryVault$Field" "powers" "[I", Cond.fieldLink RX4 13 "OssuaryVault$Field" "logs" "[I", Cond.methodLink RX11 21 yX2_init, Cond.instanceMethod yX2_init, Cond.code yX2_init cX2_init 3 none, Cond.methodLink RX2 3 objectInit, Cond.classLink RX2 9 RX0, Cond.instantiable RX0 2]
def wsX11_init_r3 : List Cond := [Cond.initialized RX0, Cond.fieldLink RX2 14 "OssuaryVault$Desk" "sheet" "LOssuaryVault$Bytes;", Cond.fieldLink RX2 20 "OssuaryVault$Desk" "stream" "LOssuaryVault$Bytes;", Cond.classLink RX2 23 RX3, Cond.fieldLink RX2 25 "OssuaryVault$Desk" "slots" "[LOssuaryVault$DeskFile;", Cond.fieldLink RX2 29 "OssuaryVault$Desk" "check" "LOssuaryVault$Check;", Cond.instantiable RX3 4, Cond.initialized RX3, Cond.methodLink RX2 11 yX0_init, Cond.instanceMethod yX0_init, Cond.code yX0_init cX0_init 2 none, Cond.methodLink RX0 1 objectInit, Cond.fieldLink RX0 7 "OssuaryVault$Bytes" "cells" "[I", Cond.instanceMethod yX3_init, Cond.code yX3_init cX3_init 1 none, Cond.methodLink RX3 3 objectInit, Cond.classLink RX3 9 RX0, Cond.fieldLink RX3 14 "OssuaryVault$DeskFile" "content" "LOssuaryVault$Bytes;", Cond.fieldLink RX3 20 "OssuaryVault$DeskFile" "packed" "LOssuaryVault$Bytes;", Cond.methodLink RX3 11 yX0_init, Cond.methodLink RX11 30 yX9_init, Cond.instanceMethod yX9_init, Cond.code yX9_init cX9_init 4 none, Cond.methodLink RX9 3 objectInit]
def wsX11_init_r4 : List Cond := [Cond.classLink RX9 9 RX10, Cond.fieldLink RX9 11 "OssuaryVault$Shelf" "places" "[LOssuaryVault$Volume;", Cond.fieldLink RX9 17 "OssuaryVault$Shelf" "numbers" "[I", Cond.fieldLink RX9 21 "OssuaryVault$Shelf" "holders" "[I", Cond.fieldLink RX9 24 "OssuaryVault$Shelf" "field" "LOssuaryVault$Field;", Cond.instantiable RX10 4, Cond.initialized RX10, Cond.fieldLink RX9 31 "OssuaryVault$Shelf" "blank" "LOssuaryVault$Volume;", Cond.methodLink RX9 28 yX10_init, Cond.instanceMethod yX10_init, Cond.code yX10_init cX10_init 2 none, Cond.methodLink RX10 3 objectInit, Cond.classLink RX10 9 RX0, Cond.fieldLink RX10 14 "OssuaryVault$Volume" "bytes" "LOssuaryVault$Bytes;", Cond.fieldLink RX10 20 "OssuaryVault$Volume" "check" "LOssuaryVault$Check;", Cond.methodLink RX10 11 yX0_init, Cond.methodLink RX11 39 yX8_init, Cond.instanceMethod yX8_init, Cond.code yX8_init cX8_init 2 none, Cond.methodLink RX8 3 objectInit, Cond.classLink RX8 9 RX0, Cond.fieldLink RX8 16 "OssuaryVault$Recovery" "matrix" "LOssuaryVault$Bytes;", Cond.fieldLink RX8 20 "OssuaryVault$Recovery" "chosen" "[I", Cond.fieldLink RX8 24 "OssuaryVault$Recovery" "field" "LOssuaryVault$Field;"]
def wsX11_init_r5 : List Cond := [Cond.methodLink RX8 13 yX0_init, Cond.methodLink RX11 48 yX7_init, Cond.instanceMethod yX7_init, Cond.code yX7_init cX7_init 3 none, Cond.methodLink RX7 3 objectInit, Cond.classLink RX7 9 RX0, Cond.constant RX7 11 (40700), Cond.fieldLink RX7 15 "OssuaryVault$Reading" "stream" "LOssuaryVault$Bytes;", Cond.classLink RX7 21 RX5, Cond.fieldLink RX7 23 "OssuaryVault$Reading" "entries" "[LOssuaryVault$FoundFile;", Cond.fieldLink RX7 27 "OssuaryVault$Reading" "check" "LOssuaryVault$Check;", Cond.instantiable RX5 5, Cond.initialized RX5, Cond.methodLink RX7 12 yX0_init, Cond.instanceMethod yX5_init, Cond.code yX5_init cX5_init 1 none, Cond.methodLink RX5 3 objectInit, Cond.classLink RX5 9 RX0, Cond.fieldLink RX5 14 "OssuaryVault$FoundFile" "content" "LOssuaryVault$Bytes;", Cond.methodLink RX5 11 yX0_init]
def wsX11_init : List Cond := .code yX11_init cX11_init 2 none :: ((wsX11_init_r1 ++ (wsX11_init_r2 ++ (wsX11_init_r3 ++ (wsX11_init_r4 ++ wsX11_init_r5)))) ++ wsX10 ++ wsX40 ++ wsX110 ++ wsX20 ++ wsX90 ++ wsX80 ++ wsX70 ++ wsX00 ++ wsX30 ++ wsX100 ++ wsX50)
def wsX11_isByte : List Cond := .code yX11_isByte cX11_isByte 1 (some .boolean) :: ([])
def wsX11_product : List Cond := .code yX11_product cX11_product 3 (some .int) :: ([.classLink RX11 57 "java/lang/IllegalArgumentException", .initialized "java/lang/IllegalArgumentException", .fieldLink RX11 15 "OssuaryVault" "field" "LOssuaryVault$Field;", .methodLink RX11 53 yX11_isByte, .static yX11_isByte, .initialized RX11, .code yX11_isByte cX11_isByte 1 (some .boolean), .methodLink RX11 64 yX4_times, .instanceMethod yX4_times, .selects RX4 yX4_times yX4_times, .initialized RX4, .code yX4_times cX4_times 3 (some .int), .fieldLink RX4 9 "OssuaryVault$Field" "powers" "[I", .fieldLink RX4 13 "OssuaryVault$Field" "logs" "[I"] ++ wsX110 ++ wsX40 ++ (vx_atS RX11 61 "java/lang/IllegalArgumentException" ["java/lang/RuntimeException", "java/lang/Exception"]).filter goodWord)
def wsX11_inverse : List Cond := .code yX11_inverse cX11_inverse 2 (some .int) :: ([.classLink RX11 57 "java/lang/IllegalArgumentException", .initialized "java/lang/IllegalArgumentException", .fieldLink RX11 15 "OssuaryVault" "field" "LOssuaryVault$Field;", .methodLink RX11 53 yX11_isByte, .static yX11_isByte, .initialized RX11, .code yX11_isByte cX11_isByte 1 (some .boolean), .methodLink RX11 70 yX4_oneOver, .instanceMethod yX4_oneOver, .selects RX4 yX4_oneOver yX4_oneOver, .initialized RX4, .code yX4_oneOver cX4_oneOver 2 (some .int), .fieldLink RX4 9 "OssuaryVault$Field" "powers" "[I", .fieldLink RX4 13 "OssuaryVault$Field" "logs" "[I"] ++ wsX110 ++ wsX40 ++ (vx_atS RX11 61 "java/lang/IllegalArgumentException" ["java/lang/RuntimeException", "java/lang/Exception"]).filter goodWord)
def wsX11_power : List Cond := .code yX11_power cX11_power 3 (some .int) :: ([.classLink RX11 57 "java/lang/IllegalArgumentException", .initialized "java/lang/IllegalArgumentException", .fieldLink RX11 15 "OssuaryVault" "field" "LOssuaryVault$Field;", .methodLink RX11 53 yX11_isByte, .static yX11_isByte, .initialized RX11, .code yX11_isByte cX11_isByte 1 (some .boolean), .methodLink RX11 76 yX4_raised, .instanceMethod yX4_raised, .selects RX4 yX4_raised yX4_raised, .initialized RX4, .code yX4_raised cX4_raised 3 (some .int), .fieldLink RX4 9 "OssuaryVault$Field" "powers" "[I", .fieldLink RX4 13 "OssuaryVault$Field" "logs" "[I"] ++ wsX110 ++ wsX40 ++ (vx_atS RX11 61 "java/lang/IllegalArgumentException" ["java/lang/RuntimeException", "java/lang/Exception"]).filter goodWord)
def wsX11_coefficient : List Cond := .code yX11_coefficient cX11_coefficient 3 (some .int) :: ([.classLink RX11 79 "java/lang/IndexOutOfBoundsException", .initialized "java/lang/IndexOutOfBoundsException", .fieldLink RX11 15 "OssuaryVault" "field" "LOssuaryVault$Field;", .methodLink RX11 84 yX4_parityWeight, .instanceMethod yX4_parityWeight, .selects RX4 yX4_parityWeight yX4_parityWeight, .initialized RX4, .code yX4_parityWeight cX4_parityWeight 3 (some .int), .methodLink RX4 16 yX4_oneOver, .instanceMethod yX4_oneOver, .selects RX4 yX4_oneOver yX4_oneOver, .code yX4_oneOver cX4_oneOver 2 (some .int), .fieldLink RX4 9 "OssuaryVault$Field" "powers" "[I", .fieldLink RX4 13 "OssuaryVault$Field" "logs" "[I"] ++ wsX110 ++ wsX40 ++ (vx_atS RX11 83 "java/lang/IndexOutOfBoundsException" ["java/lang/RuntimeException", "java/lang/Exception"]).filter goodWord)
def wsX11_write : List Cond := .code yX11_write cX11_write 3 (some .int) :: ([.classLink RX11 57 "java/lang/IllegalArgumentException", .initialized "java/lang/IllegalArgumentException", .classLink RX11 99 "java/lang/IllegalStateException", .initialized "java/lang/IllegalStateException", .fieldLink RX11 24 "OssuaryVault" "desk" "LOssuaryVault$Desk;", .methodLink RX11 53 yX11_isByte, .static yX11_isByte, .initialized RX11, .code yX11_isByte cX11_isByte 1 (some .boolean), .methodLink RX11 93 yX0_size, .instanceMethod yX0_size, .selects RX0 yX0_size yX0_size, .initialized RX0, .code yX0_size cX0_size 1 (some .int), .fieldLink RX0 13 "OssuaryVault$Bytes" "size" "I", .methodLink RX11 104 yX0_addTimes, .instanceMethod yX0_addTimes, .selects RX0 yX0_addTimes yX0_addTimes, .code yX0_addTimes cX0_addTimes 4 none, .methodLink RX0 25 yX0_add, .instanceMethod yX0_add, .selects RX0 yX0_add yX0_add, .code yX0_add cX0_add 2 none, .fieldLink RX0 7 "OssuaryVault$Bytes" "cells" "[I"] ++ wsX110 ++ wsX20 ++ wsX00 ++ (vx_atS RX11 61 "java/lang/IllegalArgumentException" ["java/lang/RuntimeException", "java/lang/Exception"]).filter goodWord ++ (vx_atS RX11 103 "java/lang/IllegalStateException" ["java/lang/RuntimeException", "java/lang/Exception"]).filter goodWord)
def wsX11_isWord : List Cond := .code yX11_isWord cX11_isWord 1 (some .boolean) :: ([.constant RX11 344 (65535)])
def wsX11_noise : List Cond := .code yX11_noise cX11_noise 5 (some .int) :: ([.classLink RX11 57 "java/lang/IllegalArgumentException", .initialized "java/lang/IllegalArgumentException", .classLink RX11 99 "java/lang/IllegalStateException", .initialized "java/lang/IllegalStateException", .fieldLink RX11 24 "OssuaryVault" "desk" "LOssuaryVault$Desk;", .constant RX11 113 (65537), .methodLink RX11 108 yX11_isWord, .static yX11_isWord, .initialized RX11, .code yX11_isWord cX11_isWord 1 (some .boolean), .constant RX11 344 (65535), .methodLink RX11 93 yX0_size, .instanceMethod yX0_size, .selects RX0 yX0_size yX0_size, .initialized RX0, .code yX0_size cX0_size 1 (some .int), .fieldLink RX0 13 "OssuaryVault$Bytes" "size" "I", .methodLink RX11 114 yX0_add, .instanceMethod yX0_add, .selects RX0 yX0_add yX0_add, .code yX0_add cX0_add 2 none, .fieldLink RX0 7 "OssuaryVault$Bytes" "cells" "[I"] ++ wsX110 ++ wsX20 ++ wsX00 ++ (vx_atS RX11 61 "java/lang/IllegalArgumentException" ["java/lang/RuntimeException", "java/lang/Exception"]).filter goodWord ++ (vx_atS RX11 103 "java/lang/IllegalStateException" ["java/lang/RuntimeException", "java/lang/Exception"]).filter goodWord)
def wsX11_cutSheet : List Cond := .code yX11_cutSheet cX11_cutSheet 3 (some .int) :: ([.classLink RX11 57 "java/lang/IllegalArgumentException", .initialized "java/lang/IllegalArgumentException", .fieldLink RX11 24 "OssuaryVault" "desk" "LOssuaryVault$Desk;", .methodLink RX11 93 yX0_size, .instanceMethod yX0_size, .selects RX0 yX0_size yX0_size, .initialized RX0, .code yX0_size cX0_size 1 (some .int), .fieldLink RX0 13 "OssuaryVault$Bytes" "size" "I", .methodLink RX11 120 yX0_shorten, .instanceMethod yX0_shorten, .selects RX0 yX0_shorten yX0_shorten, .code yX0_shorten cX0_shorten 2 none] ++ wsX110 ++ wsX20 ++ wsX00 ++ (vx_atS RX11 61 "java/lang/IllegalArgumentException" ["java/lang/RuntimeException", "java/lang/Exception"]).filter goodWord)
def wsX11_store_r1 : List Cond := [Cond.classLink RX11 57 "java/lang/IllegalArgumentException", Cond.initialized "java/lang/IllegalArgumentException", Cond.classLink RX11 99 "java/lang/IllegalStateException", Cond.initialized "java/lang/IllegalStateException", Cond.fieldLink RX11 24 "OssuaryVault" "desk" "LOssuaryVault$Desk;", Cond.methodLink RX11 108 yX11_isWord, Cond.static yX11_isWord, Cond.initialized RX11, Cond.code yX11_isWord cX11_isWord 1 (some .boolean), Cond.constant RX11 344 (65535), Cond.methodLink RX11 125 yX2_hasRoomFor, Cond.instanceMethod yX2_hasRoomFor, Cond.selects RX2 yX2_hasRoomFor yX2_hasRoomFor, Cond.initialized RX2, Cond.code yX2_hasRoomFor cX2_hasRoomFor 2 (some .boolean), Cond.fieldLink RX2 34 "OssuaryVault$Desk" "count" "I", Cond.fieldLink RX2 25 "OssuaryVault$Desk" "slots" "[LOssuaryVault$DeskFile;", Cond.methodLink RX2 38 yX2_placeOf, Cond.instanceMethod yX2_placeOf, Cond.selects RX2 yX2_placeOf yX2_placeOf, Cond.code yX2_placeOf cX2_placeOf 4 (some .int), Cond.methodLink RX2 42 yX2_placeFor, Cond.instanceMethod yX2_placeFor, Cond.selects RX2 yX2_placeFor yX2_placeFor]
def wsX11_store_r2 : List Cond := [Cond.code yX2_placeFor cX2_placeFor 3 (some .int), Cond.methodLink RX2 45 yX2_at, Cond.instanceMethod yX2_at, Cond.selects RX2 yX2_at yX2_at, Cond.code yX2_at cX2_at 2 (some (.object "OssuaryVault$DeskFile")), Cond.methodLink RX11 130 yX2_put, Cond.instanceMethod yX2_put, Cond.selects RX2 yX2_put yX2_put, Cond.code yX2_put cX2_put 6 none, Cond.fieldLink RX2 29 "OssuaryVault$Desk" "check" "LOssuaryVault$Check;", Cond.methodLink RX2 52 yX3_fill, Cond.instanceMethod yX3_fill, Cond.selects RX3 yX3_fill yX3_fill, Cond.initialized RX3, Cond.code yX3_fill cX3_fill 4 none, Cond.fieldLink RX3 23 "OssuaryVault$DeskFile" "key" "I", Cond.fieldLink RX3 14 "OssuaryVault$DeskFile" "content" "LOssuaryVault$Bytes;", Cond.fieldLink RX3 41 "OssuaryVault$DeskFile" "contentCheck" "I", Cond.fieldLink RX3 20 "OssuaryVault$DeskFile" "packed" "LOssuaryVault$Bytes;", Cond.methodLink RX3 27 yX0_fillFrom, Cond.instanceMethod yX0_fillFrom, Cond.selects RX0 yX0_fillFrom yX0_fillFrom, Cond.initialized RX0, Cond.code yX0_fillFrom cX0_fillFrom 2 none]
def wsX11_store_r3 : List Cond := [Cond.methodLink RX0 29 yX0_clear, Cond.instanceMethod yX0_clear, Cond.selects RX0 yX0_clear yX0_clear, Cond.code yX0_clear cX0_clear 1 none, Cond.fieldLink RX0 13 "OssuaryVault$Bytes" "size" "I", Cond.methodLink RX0 32 yX0_size, Cond.instanceMethod yX0_size, Cond.selects RX0 yX0_size yX0_size, Cond.code yX0_size cX0_size 1 (some .int), Cond.methodLink RX0 35 yX0_addPart, Cond.instanceMethod yX0_addPart, Cond.selects RX0 yX0_addPart yX0_addPart, Cond.code yX0_addPart cX0_addPart 5 none, Cond.methodLink RX0 17 yX0_at, Cond.instanceMethod yX0_at, Cond.selects RX0 yX0_at yX0_at, Cond.code yX0_at cX0_at 2 (some .int), Cond.fieldLink RX0 7 "OssuaryVault$Bytes" "cells" "[I", Cond.methodLink RX0 25 yX0_add, Cond.instanceMethod yX0_add, Cond.selects RX0 yX0_add yX0_add, Cond.code yX0_add cX0_add 2 none, Cond.methodLink RX3 31 yX0_size, Cond.methodLink RX3 35 yX1_over]
def wsX11_store_r4 : List Cond := [Cond.instanceMethod yX1_over, Cond.selects RX1 yX1_over yX1_over, Cond.initialized RX1, Cond.code yX1_over cX1_over 4 (some .int), Cond.constant RX1 18 (65535), Cond.methodLink RX1 24 yX1_after, Cond.instanceMethod yX1_after, Cond.selects RX1 yX1_after yX1_after, Cond.code yX1_after cX1_after 7 (some .int), Cond.fieldLink RX1 7 "OssuaryVault$Check" "steps" "[I", Cond.methodLink RX1 19 yX0_at, Cond.methodLink RX3 44 yX6_pack, Cond.static yX6_pack, Cond.initialized RX6, Cond.code yX6_pack cX6_pack 5 none, Cond.methodLink RX6 9 yX0_clear, Cond.methodLink RX6 14 yX0_size, Cond.methodLink RX6 18 yX6_isRun, Cond.static yX6_isRun, Cond.code yX6_isRun cX6_isRun 2 (some .boolean), Cond.methodLink RX6 32 yX0_at, Cond.methodLink RX6 24 yX6_alikeFrom, Cond.static yX6_alikeFrom, Cond.code yX6_alikeFrom cX6_alikeFrom 4 (some .int)]
def wsX11_store_r5 : List Cond := [Cond.methodLink RX6 43 Lib.Math.min.name, Cond.static Lib.Math.min.name, Cond.initialized "java/lang/Math", Cond.code Lib.Math.min.name Lib.Math.min.code 2 (some .int), Cond.methodLink RX6 28 yX0_add, Cond.methodLink RX6 36 yX6_apartFrom, Cond.static yX6_apartFrom, Cond.code yX6_apartFrom cX6_apartFrom 4 (some .int), Cond.methodLink RX6 39 yX0_addPart, Cond.methodLink RX11 134 yX0_clear, Cond.methodLink RX11 137 yX2_count, Cond.instanceMethod yX2_count, Cond.selects RX2 yX2_count yX2_count, Cond.code yX2_count cX2_count 1 (some .int)]
def wsX11_store : List Cond := .code yX11_store cX11_store 2 (some .int) :: ((wsX11_store_r1 ++ (wsX11_store_r2 ++ (wsX11_store_r3 ++ (wsX11_store_r4 ++ wsX11_store_r5)))) ++ wsX110 ++ wsX20 ++ wsX30 ++ wsX00 ++ wsX10 ++ (vx_atS RX11 61 "java/lang/IllegalArgumentException" ["java/lang/RuntimeException", "java/lang/Exception"]).filter goodWord ++ (vx_atS RX11 103 "java/lang/IllegalStateException" ["java/lang/RuntimeException", "java/lang/Exception"]).filter goodWord)
def wsX11_remove_r1 : List Cond := [Cond.fieldLink RX11 24 "OssuaryVault" "desk" "LOssuaryVault$Desk;", Cond.methodLink RX11 140 yX2_takeOff, Cond.instanceMethod yX2_takeOff, Cond.selects RX2 yX2_takeOff yX2_takeOff, Cond.initialized RX2, Cond.code yX2_takeOff cX2_takeOff 5 (some .int), Cond.fieldLink RX2 34 "OssuaryVault$Desk" "count" "I", Cond.fieldLink RX2 25 "OssuaryVault$Desk" "slots" "[LOssuaryVault$DeskFile;", Cond.methodLink RX2 38 yX2_placeOf, Cond.instanceMethod yX2_placeOf, Cond.selects RX2 yX2_placeOf yX2_placeOf, Cond.code yX2_placeOf cX2_placeOf 4 (some .int), Cond.methodLink RX2 42 yX2_placeFor, Cond.instanceMethod yX2_placeFor, Cond.selects RX2 yX2_placeFor yX2_placeFor, Cond.code yX2_placeFor cX2_placeFor 3 (some .int), Cond.methodLink RX2 45 yX2_at, Cond.instanceMethod yX2_at, Cond.selects RX2 yX2_at yX2_at, Cond.code yX2_at cX2_at 2 (some (.object "OssuaryVault$DeskFile")), Cond.methodLink RX2 59 yX0_size, Cond.instanceMethod yX0_size, Cond.selects RX0 yX0_size yX0_size, Cond.initialized RX0]
def wsX11_remove_r2 : List Cond := [Cond.code yX0_size cX0_size 1 (some .int), Cond.fieldLink RX0 13 "OssuaryVault$Bytes" "size" "I"]
def wsX11_remove : List Cond := .code yX11_remove cX11_remove 2 (some .int) :: ((wsX11_remove_r1 ++ wsX11_remove_r2) ++ wsX110 ++ wsX20 ++ wsX30 ++ wsX00)
def wsX11_files : List Cond := .code yX11_files cX11_files 1 (some .int) :: ([.fieldLink RX11 24 "OssuaryVault" "desk" "LOssuaryVault$Desk;", .methodLink RX11 137 yX2_count, .instanceMethod yX2_count, .selects RX2 yX2_count yX2_count, .initialized RX2, .code yX2_count cX2_count 1 (some .int), .fieldLink RX2 34 "OssuaryVault$Desk" "count" "I"] ++ wsX110 ++ wsX20)
def wsX11_deskFile : List Cond := .code yX11_deskFile cX11_deskFile 3 (some (.object "OssuaryVault$DeskFile")) :: ([.classLink RX11 79 "java/lang/IndexOutOfBoundsException", .initialized "java/lang/IndexOutOfBoundsException", .fieldLink RX11 24 "OssuaryVault" "desk" "LOssuaryVault$Desk;", .methodLink RX11 323 yX2_at, .instanceMethod yX2_at, .selects RX2 yX2_at yX2_at, .initialized RX2, .code yX2_at cX2_at 2 (some (.object "OssuaryVault$DeskFile")), .fieldLink RX2 34 "OssuaryVault$Desk" "count" "I", .fieldLink RX2 25 "OssuaryVault$Desk" "slots" "[LOssuaryVault$DeskFile;"] ++ wsX110 ++ wsX20 ++ (vx_atS RX11 83 "java/lang/IndexOutOfBoundsException" ["java/lang/RuntimeException", "java/lang/Exception"]).filter goodWord)
def wsX11_keyOf : List Cond := .code yX11_keyOf cX11_keyOf 2 (some .int) :: ([.methodLink RX11 143 yX11_deskFile, .instanceMethod yX11_deskFile, .selects RX11 yX11_deskFile yX11_deskFile, .initialized RX11, .code yX11_deskFile cX11_deskFile 3 (some (.object "OssuaryVault$DeskFile")), .classLink RX11 79 "java/lang/IndexOutOfBoundsException", .initialized "java/lang/IndexOutOfBoundsException", .fieldLink RX11 24 "OssuaryVault" "desk" "LOssuaryVault$Desk;", .methodLink RX11 323 yX2_at, .instanceMethod yX2_at, .selects RX2 yX2_at yX2_at, .initialized RX2, .code yX2_at cX2_at 2 (some (.object "OssuaryVault$DeskFile")), .fieldLink RX2 34 "OssuaryVault$Desk" "count" "I", .fieldLink RX2 25 "OssuaryVault$Desk" "slots" "[LOssuaryVault$DeskFile;"] ++ wsX30 ++ wsX110 ++ wsX20 ++ (vx_atS RX11 83 "java/lang/IndexOutOfBoundsException" ["java/lang/RuntimeException", "java/lang/Exception"]).filter goodWord)
def wsX11_lengthOf : List Cond := .code yX11_lengthOf cX11_lengthOf 2 (some .int) :: ([.methodLink RX11 143 yX11_deskFile, .instanceMethod yX11_deskFile, .selects RX11 yX11_deskFile yX11_deskFile, .initialized RX11, .code yX11_deskFile cX11_deskFile 3 (some (.object "OssuaryVault$DeskFile")), .classLink RX11 79 "java/lang/IndexOutOfBoundsException", .initialized "java/lang/IndexOutOfBoundsException", .fieldLink RX11 24 "OssuaryVault" "desk" "LOssuaryVault$Desk;", .methodLink RX11 323 yX2_at, .instanceMethod yX2_at, .selects RX2 yX2_at yX2_at, .initialized RX2, .code yX2_at cX2_at 2 (some (.object "OssuaryVault$DeskFile")), .fieldLink RX2 34 "OssuaryVault$Desk" "count" "I", .fieldLink RX2 25 "OssuaryVault$Desk" "slots" "[LOssuaryVault$DeskFile;", .methodLink RX11 93 yX0_size, .instanceMethod yX0_size, .selects RX0 yX0_size yX0_size, .initialized RX0, .code yX0_size cX0_size 1 (some .int), .fieldLink RX0 13 "OssuaryVault$Bytes" "size" "I"] ++ wsX30 ++ wsX110 ++ wsX20 ++ wsX00 ++ (vx_atS RX11 83 "java/lang/IndexOutOfBoundsException" ["java/lang/RuntimeException", "java/lang/Exception"]).filter goodWord)
def wsX11_byteIn : List Cond := .code yX11_byteIn cX11_byteIn 2 (some .int) :: ([.classLink RX11 79 "java/lang/IndexOutOfBoundsException", .initialized "java/lang/IndexOutOfBoundsException", .methodLink RX11 93 yX0_size, .instanceMethod yX0_size, .selects RX0 yX0_size yX0_size, .initialized RX0, .code yX0_size cX0_size 1 (some .int), .fieldLink RX0 13 "OssuaryVault$Bytes" "size" "I", .methodLink RX11 325 yX0_at, .instanceMethod yX0_at, .selects RX0 yX0_at yX0_at, .code yX0_at cX0_at 2 (some .int), .fieldLink RX0 7 "OssuaryVault$Bytes" "cells" "[I"] ++ wsX00 ++ (vx_atS RX11 83 "java/lang/IndexOutOfBoundsException" ["java/lang/RuntimeException", "java/lang/Exception"]).filter goodWord)
def wsX11_contentAt_r1 : List Cond := [Cond.methodLink RX11 143 yX11_deskFile, Cond.instanceMethod yX11_deskFile, Cond.selects RX11 yX11_deskFile yX11_deskFile, Cond.initialized RX11, Cond.code yX11_deskFile cX11_deskFile 3 (some (.object "OssuaryVault$DeskFile")), Cond.classLink RX11 79 "java/lang/IndexOutOfBoundsException", Cond.initialized "java/lang/IndexOutOfBoundsException", Cond.fieldLink RX11 24 "OssuaryVault" "desk" "LOssuaryVault$Desk;", Cond.methodLink RX11 323 yX2_at, Cond.instanceMethod yX2_at, Cond.selects RX2 yX2_at yX2_at, Cond.initialized RX2, Cond.code yX2_at cX2_at 2 (some (.object "OssuaryVault$DeskFile")), Cond.fieldLink RX2 34 "OssuaryVault$Desk" "count" "I", Cond.fieldLink RX2 25 "OssuaryVault$Desk" "slots" "[LOssuaryVault$DeskFile;", Cond.methodLink RX11 156 yX11_byteIn, Cond.static yX11_byteIn, Cond.code yX11_byteIn cX11_byteIn 2 (some .int), Cond.methodLink RX11 93 yX0_size, Cond.instanceMethod yX0_size, Cond.selects RX0 yX0_size yX0_size, Cond.initialized RX0, Cond.code yX0_size cX0_size 1 (some .int), Cond.fieldLink RX0 13 "OssuaryVault$Bytes" "size" "I"]
def wsX11_contentAt_r2 : List Cond := [Cond.methodLink RX11 325 yX0_at, Cond.instanceMethod yX0_at, Cond.selects RX0 yX0_at yX0_at, Cond.code yX0_at cX0_at 2 (some .int), Cond.fieldLink RX0 7 "OssuaryVault$Bytes" "cells" "[I"]
def wsX11_contentAt : List Cond := .code yX11_contentAt cX11_contentAt 3 (some .int) :: ((wsX11_contentAt_r1 ++ wsX11_contentAt_r2) ++ wsX30 ++ wsX110 ++ wsX20 ++ wsX00 ++ (vx_atS RX11 83 "java/lang/IndexOutOfBoundsException" ["java/lang/RuntimeException", "java/lang/Exception"]).filter goodWord)
def wsX11_checkOf : List Cond := .code yX11_checkOf cX11_checkOf 2 (some .int) :: ([.methodLink RX11 143 yX11_deskFile, .instanceMethod yX11_deskFile, .selects RX11 yX11_deskFile yX11_deskFile, .initialized RX11, .code yX11_deskFile cX11_deskFile 3 (some (.object "OssuaryVault$DeskFile")), .classLink RX11 79 "java/lang/IndexOutOfBoundsException", .initialized "java/lang/IndexOutOfBoundsException", .fieldLink RX11 24 "OssuaryVault" "desk" "LOssuaryVault$Desk;", .methodLink RX11 323 yX2_at, .instanceMethod yX2_at, .selects RX2 yX2_at yX2_at, .initialized RX2, .code yX2_at cX2_at 2 (some (.object "OssuaryVault$DeskFile")), .fieldLink RX2 34 "OssuaryVault$Desk" "count" "I", .fieldLink RX2 25 "OssuaryVault$Desk" "slots" "[LOssuaryVault$DeskFile;"] ++ wsX30 ++ wsX110 ++ wsX20 ++ (vx_atS RX11 83 "java/lang/IndexOutOfBoundsException" ["java/lang/RuntimeException", "java/lang/Exception"]).filter goodWord)
def wsX11_packedLength : List Cond := .code yX11_packedLength cX11_packedLength 2 (some .int) :: ([.methodLink RX11 143 yX11_deskFile, .instanceMethod yX11_deskFile, .selects RX11 yX11_deskFile yX11_deskFile, .initialized RX11, .code yX11_deskFile cX11_deskFile 3 (some (.object "OssuaryVault$DeskFile")), .classLink RX11 79 "java/lang/IndexOutOfBoundsException", .initialized "java/lang/IndexOutOfBoundsException", .fieldLink RX11 24 "OssuaryVault" "desk" "LOssuaryVault$Desk;", .methodLink RX11 323 yX2_at, .instanceMethod yX2_at, .selects RX2 yX2_at yX2_at, .initialized RX2, .code yX2_at cX2_at 2 (some (.object "OssuaryVault$DeskFile")), .fieldLink RX2 34 "OssuaryVault$Desk" "count" "I", .fieldLink RX2 25 "OssuaryVault$Desk" "slots" "[LOssuaryVault$DeskFile;", .methodLink RX11 93 yX0_size, .instanceMethod yX0_size, .selects RX0 yX0_size yX0_size, .initialized RX0, .code yX0_size cX0_size 1 (some .int), .fieldLink RX0 13 "OssuaryVault$Bytes" "size" "I"] ++ wsX30 ++ wsX110 ++ wsX20 ++ wsX00 ++ (vx_atS RX11 83 "java/lang/IndexOutOfBoundsException" ["java/lang/RuntimeException", "java/lang/Exception"]).filter goodWord)
def wsX11_packedAt_r1 : List Cond := [Cond.methodLink RX11 143 yX11_deskFile, Cond.instanceMethod yX11_deskFile, Cond.selects RX11 yX11_deskFile yX11_deskFile, Cond.initialized RX11, Cond.code yX11_deskFile cX11_deskFile 3 (some (.object "OssuaryVault$DeskFile")), Cond.classLink RX11 79 "java/lang/IndexOutOfBoundsException", Cond.initialized "java/lang/IndexOutOfBoundsException", Cond.fieldLink RX11 24 "OssuaryVault" "desk" "LOssuaryVault$Desk;", Cond.methodLink RX11 323 yX2_at, Cond.instanceMethod yX2_at, Cond.selects RX2 yX2_at yX2_at, Cond.initialized RX2, Cond.code yX2_at cX2_at 2 (some (.object "OssuaryVault$DeskFile")), Cond.fieldLink RX2 34 "OssuaryVault$Desk" "count" "I", Cond.fieldLink RX2 25 "OssuaryVault$Desk" "slots" "[LOssuaryVault$DeskFile;", Cond.methodLink RX11 156 yX11_byteIn, Cond.static yX11_byteIn, Cond.code yX11_byteIn cX11_byteIn 2 (some .int), Cond.methodLink RX11 93 yX0_size, Cond.instanceMethod yX0_size, Cond.selects RX0 yX0_size yX0_size, Cond.initialized RX0, Cond.code yX0_size cX0_size 1 (some .int), Cond.fieldLink RX0 13 "OssuaryVault$Bytes" "size" "I"]
def wsX11_packedAt_r2 : List Cond := [Cond.methodLink RX11 325 yX0_at, Cond.instanceMethod yX0_at, Cond.selects RX0 yX0_at yX0_at, Cond.code yX0_at cX0_at 2 (some .int), Cond.fieldLink RX0 7 "OssuaryVault$Bytes" "cells" "[I"]
def wsX11_packedAt : List Cond := .code yX11_packedAt cX11_packedAt 3 (some .int) :: ((wsX11_packedAt_r1 ++ wsX11_packedAt_r2) ++ wsX30 ++ wsX110 ++ wsX20 ++ wsX00 ++ (vx_atS RX11 83 "java/lang/IndexOutOfBoundsException" ["java/lang/RuntimeException", "java/lang/Exception"]).filter goodWord)
def wsX11_streamLength_r1 : List Cond := [Cond.fieldLink RX11 24 "OssuaryVault" "desk" "LOssuaryVault$Desk;", Cond.methodLink RX11 166 yX2_streamSize, Cond.instanceMethod yX2_streamSize, Cond.selects RX2 yX2_streamSize yX2_streamSize, Cond.initialized RX2, Cond.code yX2_streamSize cX2_streamSize 3 (some .int), Cond.fieldLink RX2 34 "OssuaryVault$Desk" "count" "I", Cond.fieldLink RX2 25 "OssuaryVault$Desk" "slots" "[LOssuaryVault$DeskFile;", Cond.methodLink RX2 63 yX3_streamSize, Cond.instanceMethod yX3_streamSize, Cond.selects RX3 yX3_streamSize yX3_streamSize, Cond.initialized RX3, Cond.code yX3_streamSize cX3_streamSize 1 (some .int), Cond.fieldLink RX3 20 "OssuaryVault$DeskFile" "packed" "LOssuaryVault$Bytes;", Cond.fieldLink RX3 14 "OssuaryVault$DeskFile" "content" "LOssuaryVault$Bytes;", Cond.methodLink RX3 50 yX3_goesPacked, Cond.instanceMethod yX3_goesPacked, Cond.selects RX3 yX3_goesPacked yX3_goesPacked, Cond.code yX3_goesPacked cX3_goesPacked 1 (some .boolean), Cond.methodLink RX3 31 yX0_size, Cond.instanceMethod yX0_size, Cond.selects RX0 yX0_size yX0_size, Cond.initialized RX0, Cond.code yX0_size cX0_size 1 (some .int)]
def wsX11_streamLength_r2 : List Cond := [Cond.fieldLink RX0 13 "OssuaryVault$Bytes" "size" "I"]
def wsX11_streamLength : List Cond := .code yX11_streamLength cX11_streamLength 1 (some .int) :: ((wsX11_streamLength_r1 ++ wsX11_streamLength_r2) ++ wsX110 ++ wsX20 ++ wsX30 ++ wsX00)
def wsX11_build_r1 : List Cond := [Cond.classLink RX11 57 "java/lang/IllegalArgumentException", Cond.initialized "java/lang/IllegalArgumentException", Cond.fieldLink RX11 49 "OssuaryVault" "reading" "LOssuaryVault$Reading;", Cond.fieldLink RX11 24 "OssuaryVault" "desk" "LOssuaryVault$Desk;", Cond.fieldLink RX11 33 "OssuaryVault" "shelf" "LOssuaryVault$Shelf;", Cond.methodLink RX11 171 yX7_close, Cond.instanceMethod yX7_close, Cond.selects RX7 yX7_close yX7_close, Cond.initialized RX7, Cond.code yX7_close cX7_close 1 none, Cond.fieldLink RX7 36 "OssuaryVault$Reading" "isOpen" "Z", Cond.methodLink RX11 174 yX2_writtenStream, Cond.instanceMethod yX2_writtenStream, Cond.selects RX2 yX2_writtenStream yX2_writtenStream, Cond.initialized RX2, Cond.code yX2_writtenStream cX2_writtenStream 3 (some (.object "OssuaryVault$Bytes")), Cond.fieldLink RX2 20 "OssuaryVault$Desk" "stream" "LOssuaryVault$Bytes;", Cond.fieldLink RX2 34 "OssuaryVault$Desk" "count" "I", Cond.fieldLink RX2 25 "OssuaryVault$Desk" "slots" "[LOssuaryVault$DeskFile;", Cond.fieldLink RX2 29 "OssuaryVault$Desk" "check" "LOssuaryVault$Check;", Cond.methodLink RX2 66 yX0_clear, Cond.instanceMethod yX0_clear, Cond.selects RX0 yX0_clear yX0_clear, Cond.initialized RX0]
def wsX11_build_r2 : List Cond := [Cond.code yX0_clear cX0_clear 1 none, Cond.fieldLink RX0 13 "OssuaryVault$Bytes" "size" "I", Cond.methodLink RX2 69 yX3_writeTo, Cond.instanceMethod yX3_writeTo, Cond.selects RX3 yX3_writeTo yX3_writeTo, Cond.initialized RX3, Cond.code yX3_writeTo cX3_writeTo 3 none, Cond.fieldLink RX3 20 "OssuaryVault$DeskFile" "packed" "LOssuaryVault$Bytes;", Cond.fieldLink RX3 14 "OssuaryVault$DeskFile" "content" "LOssuaryVault$Bytes;", Cond.fieldLink RX3 23 "OssuaryVault$DeskFile" "key" "I", Cond.fieldLink RX3 41 "OssuaryVault$DeskFile" "contentCheck" "I", Cond.methodLink RX3 50 yX3_goesPacked, Cond.instanceMethod yX3_goesPacked, Cond.selects RX3 yX3_goesPacked yX3_goesPacked, Cond.code yX3_goesPacked cX3_goesPacked 1 (some .boolean), Cond.methodLink RX3 31 yX0_size, Cond.instanceMethod yX0_size, Cond.selects RX0 yX0_size yX0_size, Cond.code yX0_size cX0_size 1 (some .int), Cond.methodLink RX3 54 yX0_add, Cond.instanceMethod yX0_add, Cond.selects RX0 yX0_add yX0_add, Cond.code yX0_add cX0_add 2 none, Cond.fieldLink RX0 7 "OssuaryVault$Bytes" "cells" "[I"]
def wsX11_build_r3 : List Cond := [Cond.methodLink RX3 57 yX0_addWord, Cond.instanceMethod yX0_addWord, Cond.selects RX0 yX0_addWord yX0_addWord, Cond.code yX0_addWord cX0_addWord 2 none, Cond.methodLink RX0 25 yX0_add, Cond.methodLink RX3 60 yX0_addPart, Cond.instanceMethod yX0_addPart, Cond.selects RX0 yX0_addPart yX0_addPart, Cond.code yX0_addPart cX0_addPart 5 none, Cond.methodLink RX0 17 yX0_at, Cond.instanceMethod yX0_at, Cond.selects RX0 yX0_at yX0_at, Cond.code yX0_at cX0_at 2 (some .int), Cond.methodLink RX2 59 yX0_size, Cond.methodLink RX2 73 yX2_writeIndex, Cond.instanceMethod yX2_writeIndex, Cond.selects RX2 yX2_writeIndex yX2_writeIndex, Cond.code yX2_writeIndex cX2_writeIndex 3 none, Cond.methodLink RX2 85 yX0_addWord, Cond.methodLink RX2 63 yX3_streamSize, Cond.instanceMethod yX3_streamSize, Cond.selects RX3 yX3_streamSize yX3_streamSize, Cond.code yX3_streamSize cX3_streamSize 1 (some .int), Cond.methodLink RX2 76 yX1_over]
def wsX11_build_r4 : List Cond := [Cond.instanceMethod yX1_over, Cond.selects RX1 yX1_over yX1_over, Cond.initialized RX1, Cond.code yX1_over cX1_over 4 (some .int), Cond.constant RX1 18 (65535), Cond.methodLink RX1 24 yX1_after, Cond.instanceMethod yX1_after, Cond.selects RX1 yX1_after yX1_after, Cond.code yX1_after cX1_after 7 (some .int), Cond.fieldLink RX1 7 "OssuaryVault$Check" "steps" "[I", Cond.methodLink RX1 19 yX0_at, Cond.methodLink RX2 82 yX0_add, Cond.methodLink RX11 178 yX9_fillWith, Cond.instanceMethod yX9_fillWith, Cond.selects RX9 yX9_fillWith yX9_fillWith, Cond.initialized RX9, Cond.code yX9_fillWith cX9_fillWith 7 (some .int), Cond.fieldLink RX9 11 "OssuaryVault$Shelf" "places" "[LOssuaryVault$Volume;", Cond.fieldLink RX9 31 "OssuaryVault$Shelf" "blank" "LOssuaryVault$Volume;", Cond.methodLink RX9 74 yX9_form, Cond.instanceMethod yX9_form, Cond.selects RX9 yX9_form yX9_form, Cond.code yX9_form cX9_form 9 none, Cond.fieldLink RX9 24 "OssuaryVault$Shelf" "field" "LOssuaryVault$Field;"]
def wsX11_build_r5 : List Cond := [Cond.methodLink RX9 84 yX0_size, Cond.methodLink RX9 87 yX10_begin, Cond.instanceMethod yX10_begin, Cond.selects RX10 yX10_begin yX10_begin, Cond.initialized RX10, Cond.code yX10_begin cX10_begin 6 none, Cond.fieldLink RX10 24 "OssuaryVault$Volume" "here" "Z", Cond.fieldLink RX10 42 "OssuaryVault$Volume" "verdict" "I", Cond.fieldLink RX10 14 "OssuaryVault$Volume" "bytes" "LOssuaryVault$Bytes;", Cond.static yX11_bodySize, Cond.initialized RX11, Cond.code yX11_bodySize cX11_bodySize 2 (some .int), Cond.methodLink RX10 39 yX0_clear, Cond.methodLink RX10 58 yX0_add, Cond.methodLink RX10 61 yX0_addWord, Cond.methodLink RX10 64 yX0_addTimes, Cond.instanceMethod yX0_addTimes, Cond.selects RX0 yX0_addTimes yX0_addTimes, Cond.code yX0_addTimes cX0_addTimes 4 none, Cond.methodLink RX9 94 yX4_weight, Cond.instanceMethod yX4_weight, Cond.selects RX4 yX4_weight yX4_weight, Cond.initialized RX4, Cond.code yX4_weight cX4_weight 4 (some .int)]
def wsX11_build_r6 : List Cond := [Cond.methodLink RX4 33 yX4_parityWeight, Cond.instanceMethod yX4_parityWeight, Cond.selects RX4 yX4_parityWeight yX4_parityWeight, Cond.code yX4_parityWeight cX4_parityWeight 3 (some .int), Cond.methodLink RX4 16 yX4_oneOver, Cond.instanceMethod yX4_oneOver, Cond.selects RX4 yX4_oneOver yX4_oneOver, Cond.code yX4_oneOver cX4_oneOver 2 (some .int), Cond.fieldLink RX4 9 "OssuaryVault$Field" "powers" "[I", Cond.fieldLink RX4 13 "OssuaryVault$Field" "logs" "[I", Cond.methodLink RX9 104 yX4_addProducts, Cond.instanceMethod yX4_addProducts, Cond.selects RX4 yX4_addProducts yX4_addProducts, Cond.code yX4_addProducts cX4_addProducts 9 none, Cond.methodLink RX4 20 yX0_at, Cond.methodLink RX4 25 yX4_times, Cond.instanceMethod yX4_times, Cond.selects RX4 yX4_times yX4_times, Cond.code yX4_times cX4_times 3 (some .int), Cond.methodLink RX4 29 yX0_put, Cond.instanceMethod yX0_put, Cond.selects RX0 yX0_put yX0_put, Cond.code yX0_put cX0_put 3 none, Cond.methodLink RX9 108 yX10_seal]
def wsX11_build_r7 : List Cond := [Cond.instanceMethod yX10_seal, Cond.selects RX10 yX10_seal yX10_seal, Cond.code yX10_seal cX10_seal 2 (some .int), Cond.methodLink RX10 74 yX10_rightCheck, Cond.instanceMethod yX10_rightCheck, Cond.selects RX10 yX10_rightCheck yX10_rightCheck, Cond.code yX10_rightCheck cX10_rightCheck 2 (some .int), Cond.fieldLink RX10 20 "OssuaryVault$Volume" "check" "LOssuaryVault$Check;", Cond.constant RX10 82 (65535), Cond.methodLink RX10 83 yX1_after, Cond.methodLink RX10 28 yX0_size, Cond.methodLink RX10 77 yX0_putWord, Cond.instanceMethod yX0_putWord, Cond.selects RX0 yX0_putWord yX0_putWord, Cond.code yX0_putWord cX0_putWord 3 none, Cond.methodLink RX0 21 yX0_put, Cond.methodLink RX9 78 yX10_vanish, Cond.instanceMethod yX10_vanish, Cond.selects RX10 yX10_vanish yX10_vanish, Cond.code yX10_vanish cX10_vanish 1 none, Cond.methodLink RX9 81 yX10_sameAs, Cond.instanceMethod yX10_sameAs, Cond.selects RX10 yX10_sameAs yX10_sameAs, Cond.code yX10_sameAs cX10_sameAs 2 (some .boolean)]
def wsX11_build_r8 : List Cond := [Cond.methodLink RX10 50 yX0_sameAs, Cond.instanceMethod yX0_sameAs, Cond.selects RX0 yX0_sameAs yX0_sameAs, Cond.code yX0_sameAs cX0_sameAs 3 (some .boolean), Cond.methodLink RX0 32 yX0_size, Cond.methodLink RX11 93 yX0_size, Cond.methodLink RX11 182 yX11_bodySize]
def wsX11_build : List Cond := .code yX11_build cX11_build 4 (some .int) :: ((wsX11_build_r1 ++ (wsX11_build_r2 ++ (wsX11_build_r3 ++ (wsX11_build_r4 ++ (wsX11_build_r5 ++ (wsX11_build_r6 ++ (wsX11_build_r7 ++ wsX11_build_r8))))))) ++ wsX110 ++ wsX70 ++ wsX20 ++ wsX00 ++ wsX30 ++ wsX10 ++ wsX90 ++ wsX100 ++ wsX40 ++ (vx_atS RX11 61 "java/lang/IllegalArgumentException" ["java/lang/RuntimeException", "java/lang/Exception"]).filter goodWord)
def wsX11_placeOnShelf : List Cond := .code yX11_placeOnShelf cX11_placeOnShelf 3 (some (.object "OssuaryVault$Volume")) :: ([.classLink RX11 79 "java/lang/IndexOutOfBoundsException", .initialized "java/lang/IndexOutOfBoundsException", .fieldLink RX11 33 "OssuaryVault" "shelf" "LOssuaryVault$Shelf;", .methodLink RX11 257 yX9_at, .instanceMethod yX9_at, .selects RX9 yX9_at yX9_at, .initialized RX9, .code yX9_at cX9_at 2 (some (.object "OssuaryVault$Volume")), .fieldLink RX9 11 "OssuaryVault$Shelf" "places" "[LOssuaryVault$Volume;"] ++ wsX110 ++ wsX90 ++ (vx_atS RX11 83 "java/lang/IndexOutOfBoundsException" ["java/lang/RuntimeException", "java/lang/Exception"]).filter goodWord)
def wsX11_sizeOf_r1 : List Cond := [Cond.methodLink RX11 185 yX11_placeOnShelf, Cond.instanceMethod yX11_placeOnShelf, Cond.selects RX11 yX11_placeOnShelf yX11_placeOnShelf, Cond.initialized RX11, Cond.code yX11_placeOnShelf cX11_placeOnShelf 3 (some (.object "OssuaryVault$Volume")), Cond.classLink RX11 79 "java/lang/IndexOutOfBoundsException", Cond.initialized "java/lang/IndexOutOfBoundsException", Cond.fieldLink RX11 33 "OssuaryVault" "shelf" "LOssuaryVault$Shelf;", Cond.methodLink RX11 257 yX9_at, Cond.instanceMethod yX9_at, Cond.selects RX9 yX9_at yX9_at, Cond.initialized RX9, Cond.code yX9_at cX9_at 2 (some (.object "OssuaryVault$Volume")), Cond.fieldLink RX9 11 "OssuaryVault$Shelf" "places" "[LOssuaryVault$Volume;", Cond.methodLink RX11 189 yX10_size, Cond.instanceMethod yX10_size, Cond.selects RX10 yX10_size yX10_size, Cond.initialized RX10, Cond.code yX10_size cX10_size 1 (some .int), Cond.fieldLink RX10 24 "OssuaryVault$Volume" "here" "Z", Cond.fieldLink RX10 14 "OssuaryVault$Volume" "bytes" "LOssuaryVault$Bytes;", Cond.methodLink RX10 28 yX0_size, Cond.instanceMethod yX0_size, Cond.selects RX0 yX0_size yX0_size]
def wsX11_sizeOf_r2 : List Cond := [Cond.initialized RX0, Cond.code yX0_size cX0_size 1 (some .int), Cond.fieldLink RX0 13 "OssuaryVault$Bytes" "size" "I"]
def wsX11_sizeOf : List Cond := .code yX11_sizeOf cX11_sizeOf 2 (some .int) :: ((wsX11_sizeOf_r1 ++ wsX11_sizeOf_r2) ++ wsX110 ++ wsX90 ++ wsX100 ++ wsX00 ++ (vx_atS RX11 83 "java/lang/IndexOutOfBoundsException" ["java/lang/RuntimeException", "java/lang/Exception"]).filter goodWord)
def wsX11_volumeOnShelf : List Cond := .code yX11_volumeOnShelf cX11_volumeOnShelf 3 (some (.object "OssuaryVault$Volume")) :: ([.classLink RX11 79 "java/lang/IndexOutOfBoundsException", .initialized "java/lang/IndexOutOfBoundsException", .methodLink RX11 185 yX11_placeOnShelf, .instanceMethod yX11_placeOnShelf, .selects RX11 yX11_placeOnShelf yX11_placeOnShelf, .initialized RX11, .code yX11_placeOnShelf cX11_placeOnShelf 3 (some (.object "OssuaryVault$Volume")), .fieldLink RX11 33 "OssuaryVault" "shelf" "LOssuaryVault$Shelf;", .methodLink RX11 257 yX9_at, .instanceMethod yX9_at, .selects RX9 yX9_at yX9_at, .initialized RX9, .code yX9_at cX9_at 2 (some (.object "OssuaryVault$Volume")), .fieldLink RX9 11 "OssuaryVault$Shelf" "places" "[LOssuaryVault$Volume;", .methodLink RX11 213 yX10_isHere, .instanceMethod yX10_isHere, .selects RX10 yX10_isHere yX10_isHere, .initialized RX10, .code yX10_isHere cX10_isHere 1 (some .boolean), .fieldLink RX10 24 "OssuaryVault$Volume" "here" "Z"] ++ wsX110 ++ wsX90 ++ wsX100 ++ (vx_atS RX11 83 "java/lang/IndexOutOfBoundsException" ["java/lang/RuntimeException", "java/lang/Exception"]).filter goodWord)
def wsX11_byteAt_r1 : List Cond := [Cond.methodLink RX11 192 yX11_volumeOnShelf, Cond.instanceMethod yX11_volumeOnShelf, Cond.selects RX11 yX11_volumeOnShelf yX11_volumeOnShelf, Cond.initialized RX11, Cond.code yX11_volumeOnShelf cX11_volumeOnShelf 3 (some (.object "OssuaryVault$Volume")), Cond.classLink RX11 79 "java/lang/IndexOutOfBoundsException", Cond.initialized "java/lang/IndexOutOfBoundsException", Cond.methodLink RX11 185 yX11_placeOnShelf, Cond.instanceMethod yX11_placeOnShelf, Cond.selects RX11 yX11_placeOnShelf yX11_placeOnShelf, Cond.code yX11_placeOnShelf cX11_placeOnShelf 3 (some (.object "OssuaryVault$Volume")), Cond.fieldLink RX11 33 "OssuaryVault" "shelf" "LOssuaryVault$Shelf;", Cond.methodLink RX11 257 yX9_at, Cond.instanceMethod yX9_at, Cond.selects RX9 yX9_at yX9_at, Cond.initialized RX9, Cond.code yX9_at cX9_at 2 (some (.object "OssuaryVault$Volume")), Cond.fieldLink RX9 11 "OssuaryVault$Shelf" "places" "[LOssuaryVault$Volume;", Cond.methodLink RX11 213 yX10_isHere, Cond.instanceMethod yX10_isHere, Cond.selects RX10 yX10_isHere yX10_isHere, Cond.initialized RX10, Cond.code yX10_isHere cX10_isHere 1 (some .boolean), Cond.fieldLink RX10 24 "OssuaryVault$Volume" "here" "Z"]
def wsX11_byteAt_r2 : List Cond := [Cond.methodLink RX11 156 yX11_byteIn, Cond.static yX11_byteIn, Cond.code yX11_byteIn cX11_byteIn 2 (some .int), Cond.methodLink RX11 93 yX0_size, Cond.instanceMethod yX0_size, Cond.selects RX0 yX0_size yX0_size, Cond.initialized RX0, Cond.code yX0_size cX0_size 1 (some .int), Cond.fieldLink RX0 13 "OssuaryVault$Bytes" "size" "I", Cond.methodLink RX11 325 yX0_at, Cond.instanceMethod yX0_at, Cond.selects RX0 yX0_at yX0_at, Cond.code yX0_at cX0_at 2 (some .int), Cond.fieldLink RX0 7 "OssuaryVault$Bytes" "cells" "[I"]
def wsX11_byteAt : List Cond := .code yX11_byteAt cX11_byteAt 3 (some .int) :: ((wsX11_byteAt_r1 ++ wsX11_byteAt_r2) ++ wsX100 ++ wsX110 ++ wsX90 ++ wsX00 ++ (vx_atS RX11 83 "java/lang/IndexOutOfBoundsException" ["java/lang/RuntimeException", "java/lang/Exception"]).filter goodWord)
def wsX11_spoil_r1 : List Cond := [Cond.classLink RX11 79 "java/lang/IndexOutOfBoundsException", Cond.initialized "java/lang/IndexOutOfBoundsException", Cond.classLink RX11 57 "java/lang/IllegalArgumentException", Cond.initialized "java/lang/IllegalArgumentException", Cond.methodLink RX11 192 yX11_volumeOnShelf, Cond.instanceMethod yX11_volumeOnShelf, Cond.selects RX11 yX11_volumeOnShelf yX11_volumeOnShelf, Cond.initialized RX11, Cond.code yX11_volumeOnShelf cX11_volumeOnShelf 3 (some (.object "OssuaryVault$Volume")), Cond.methodLink RX11 185 yX11_placeOnShelf, Cond.instanceMethod yX11_placeOnShelf, Cond.selects RX11 yX11_placeOnShelf yX11_placeOnShelf, Cond.code yX11_placeOnShelf cX11_placeOnShelf 3 (some (.object "OssuaryVault$Volume")), Cond.fieldLink RX11 33 "OssuaryVault" "shelf" "LOssuaryVault$Shelf;", Cond.methodLink RX11 257 yX9_at, Cond.instanceMethod yX9_at, Cond.selects RX9 yX9_at yX9_at, Cond.initialized RX9, Cond.code yX9_at cX9_at 2 (some (.object "OssuaryVault$Volume")), Cond.fieldLink RX9 11 "OssuaryVault$Shelf" "places" "[LOssuaryVault$Volume;", Cond.methodLink RX11 213 yX10_isHere, Cond.instanceMethod yX10_isHere, Cond.selects RX10 yX10_isHere yX10_isHere, Cond.initialized RX10]
def wsX11_spoil_r2 : List Cond := [Cond.code yX10_isHere cX10_isHere 1 (some .boolean), Cond.fieldLink RX10 24 "OssuaryVault$Volume" "here" "Z", Cond.methodLink RX11 189 yX10_size, Cond.instanceMethod yX10_size, Cond.selects RX10 yX10_size yX10_size, Cond.code yX10_size cX10_size 1 (some .int), Cond.fieldLink RX10 14 "OssuaryVault$Volume" "bytes" "LOssuaryVault$Bytes;", Cond.methodLink RX10 28 yX0_size, Cond.instanceMethod yX0_size, Cond.selects RX0 yX0_size yX0_size, Cond.initialized RX0, Cond.code yX0_size cX0_size 1 (some .int), Cond.fieldLink RX0 13 "OssuaryVault$Bytes" "size" "I", Cond.methodLink RX11 53 yX11_isByte, Cond.static yX11_isByte, Cond.code yX11_isByte cX11_isByte 1 (some .boolean), Cond.methodLink RX11 202 yX10_mix, Cond.instanceMethod yX10_mix, Cond.selects RX10 yX10_mix yX10_mix, Cond.code yX10_mix cX10_mix 3 (some .int), Cond.fieldLink RX10 42 "OssuaryVault$Volume" "verdict" "I", Cond.methodLink RX10 32 yX0_at, Cond.instanceMethod yX0_at, Cond.selects RX0 yX0_at yX0_at]
def wsX11_spoil_r3 : List Cond := [Cond.code yX0_at cX0_at 2 (some .int), Cond.fieldLink RX0 7 "OssuaryVault$Bytes" "cells" "[I", Cond.methodLink RX10 68 yX0_put, Cond.instanceMethod yX0_put, Cond.selects RX0 yX0_put yX0_put, Cond.code yX0_put cX0_put 3 none]
def wsX11_spoil : List Cond := .code yX11_spoil cX11_spoil 5 (some .int) :: ((wsX11_spoil_r1 ++ (wsX11_spoil_r2 ++ wsX11_spoil_r3)) ++ wsX110 ++ wsX90 ++ wsX100 ++ wsX00 ++ (vx_atS RX11 83 "java/lang/IndexOutOfBoundsException" ["java/lang/RuntimeException", "java/lang/Exception"]).filter goodWord ++ (vx_atS RX11 61 "java/lang/IllegalArgumentException" ["java/lang/RuntimeException", "java/lang/Exception"]).filter goodWord)
def wsX11_sign_r1 : List Cond := [Cond.classLink RX11 99 "java/lang/IllegalStateException", Cond.initialized "java/lang/IllegalStateException", Cond.methodLink RX11 192 yX11_volumeOnShelf, Cond.instanceMethod yX11_volumeOnShelf, Cond.selects RX11 yX11_volumeOnShelf yX11_volumeOnShelf, Cond.initialized RX11, Cond.code yX11_volumeOnShelf cX11_volumeOnShelf 3 (some (.object "OssuaryVault$Volume")), Cond.classLink RX11 79 "java/lang/IndexOutOfBoundsException", Cond.initialized "java/lang/IndexOutOfBoundsException", Cond.methodLink RX11 185 yX11_placeOnShelf, Cond.instanceMethod yX11_placeOnShelf, Cond.selects RX11 yX11_placeOnShelf yX11_placeOnShelf, Cond.code yX11_placeOnShelf cX11_placeOnShelf 3 (some (.object "OssuaryVault$Volume")), Cond.fieldLink RX11 33 "OssuaryVault" "shelf" "LOssuaryVault$Shelf;", Cond.methodLink RX11 257 yX9_at, Cond.instanceMethod yX9_at, Cond.selects RX9 yX9_at yX9_at, Cond.initialized RX9, Cond.code yX9_at cX9_at 2 (some (.object "OssuaryVault$Volume")), Cond.fieldLink RX9 11 "OssuaryVault$Shelf" "places" "[LOssuaryVault$Volume;", Cond.methodLink RX11 213 yX10_isHere, Cond.instanceMethod yX10_isHere, Cond.selects RX10 yX10_isHere yX10_isHere, Cond.initialized RX10]
def wsX11_sign_r2 : List Cond := [Cond.code yX10_isHere cX10_isHere 1 (some .boolean), Cond.fieldLink RX10 24 "OssuaryVault$Volume" "here" "Z", Cond.methodLink RX11 189 yX10_size, Cond.instanceMethod yX10_size, Cond.selects RX10 yX10_size yX10_size, Cond.code yX10_size cX10_size 1 (some .int), Cond.fieldLink RX10 14 "OssuaryVault$Volume" "bytes" "LOssuaryVault$Bytes;", Cond.methodLink RX10 28 yX0_size, Cond.instanceMethod yX0_size, Cond.selects RX0 yX0_size yX0_size, Cond.initialized RX0, Cond.code yX0_size cX0_size 1 (some .int), Cond.fieldLink RX0 13 "OssuaryVault$Bytes" "size" "I", Cond.methodLink RX11 207 yX10_seal, Cond.instanceMethod yX10_seal, Cond.selects RX10 yX10_seal yX10_seal, Cond.code yX10_seal cX10_seal 2 (some .int), Cond.fieldLink RX10 42 "OssuaryVault$Volume" "verdict" "I", Cond.methodLink RX10 74 yX10_rightCheck, Cond.instanceMethod yX10_rightCheck, Cond.selects RX10 yX10_rightCheck yX10_rightCheck, Cond.code yX10_rightCheck cX10_rightCheck 2 (some .int), Cond.fieldLink RX10 20 "OssuaryVault$Volume" "check" "LOssuaryVault$Check;", Cond.constant RX10 82 (65535)]
def wsX11_sign_r3 : List Cond := [Cond.methodLink RX10 83 yX1_after, Cond.instanceMethod yX1_after, Cond.selects RX1 yX1_after yX1_after, Cond.initialized RX1, Cond.code yX1_after cX1_after 7 (some .int), Cond.constant RX1 18 (65535), Cond.fieldLink RX1 7 "OssuaryVault$Check" "steps" "[I", Cond.methodLink RX1 19 yX0_at, Cond.instanceMethod yX0_at, Cond.selects RX0 yX0_at yX0_at, Cond.code yX0_at cX0_at 2 (some .int), Cond.fieldLink RX0 7 "OssuaryVault$Bytes" "cells" "[I", Cond.methodLink RX10 77 yX0_putWord, Cond.instanceMethod yX0_putWord, Cond.selects RX0 yX0_putWord yX0_putWord, Cond.code yX0_putWord cX0_putWord 3 none, Cond.methodLink RX0 21 yX0_put, Cond.instanceMethod yX0_put, Cond.selects RX0 yX0_put yX0_put, Cond.code yX0_put cX0_put 3 none]
def wsX11_sign : List Cond := .code yX11_sign cX11_sign 3 (some .int) :: ((wsX11_sign_r1 ++ (wsX11_sign_r2 ++ wsX11_sign_r3)) ++ wsX110 ++ wsX90 ++ wsX100 ++ wsX00 ++ wsX10 ++ (vx_atS RX11 103 "java/lang/IllegalStateException" ["java/lang/RuntimeException", "java/lang/Exception"]).filter goodWord ++ (vx_atS RX11 83 "java/lang/IndexOutOfBoundsException" ["java/lang/RuntimeException", "java/lang/Exception"]).filter goodWord)
def wsX11_cut_r1 : List Cond := [Cond.classLink RX11 57 "java/lang/IllegalArgumentException", Cond.initialized "java/lang/IllegalArgumentException", Cond.methodLink RX11 192 yX11_volumeOnShelf, Cond.instanceMethod yX11_volumeOnShelf, Cond.selects RX11 yX11_volumeOnShelf yX11_volumeOnShelf, Cond.initialized RX11, Cond.code yX11_volumeOnShelf cX11_volumeOnShelf 3 (some (.object "OssuaryVault$Volume")), Cond.classLink RX11 79 "java/lang/IndexOutOfBoundsException", Cond.initialized "java/lang/IndexOutOfBoundsException", Cond.methodLink RX11 185 yX11_placeOnShelf, Cond.instanceMethod yX11_placeOnShelf, Cond.selects RX11 yX11_placeOnShelf yX11_placeOnShelf, Cond.code yX11_placeOnShelf cX11_placeOnShelf 3 (some (.object "OssuaryVault$Volume")), Cond.fieldLink RX11 33 "OssuaryVault" "shelf" "LOssuaryVault$Shelf;", Cond.methodLink RX11 257 yX9_at, Cond.instanceMethod yX9_at, Cond.selects RX9 yX9_at yX9_at, Cond.initialized RX9, Cond.code yX9_at cX9_at 2 (some (.object "OssuaryVault$Volume")), Cond.fieldLink RX9 11 "OssuaryVault$Shelf" "places" "[LOssuaryVault$Volume;", Cond.methodLink RX11 213 yX10_isHere, Cond.instanceMethod yX10_isHere, Cond.selects RX10 yX10_isHere yX10_isHere, Cond.initialized RX10]
def wsX11_cut_r2 : List Cond := [Cond.code yX10_isHere cX10_isHere 1 (some .boolean), Cond.fieldLink RX10 24 "OssuaryVault$Volume" "here" "Z", Cond.methodLink RX11 189 yX10_size, Cond.instanceMethod yX10_size, Cond.selects RX10 yX10_size yX10_size, Cond.code yX10_size cX10_size 1 (some .int), Cond.fieldLink RX10 14 "OssuaryVault$Volume" "bytes" "LOssuaryVault$Bytes;", Cond.methodLink RX10 28 yX0_size, Cond.instanceMethod yX0_size, Cond.selects RX0 yX0_size yX0_size, Cond.initialized RX0, Cond.code yX0_size cX0_size 1 (some .int), Cond.fieldLink RX0 13 "OssuaryVault$Bytes" "size" "I", Cond.methodLink RX11 212 yX10_shorten, Cond.instanceMethod yX10_shorten, Cond.selects RX10 yX10_shorten yX10_shorten, Cond.code yX10_shorten cX10_shorten 2 none, Cond.fieldLink RX10 42 "OssuaryVault$Volume" "verdict" "I", Cond.methodLink RX10 71 yX0_shorten, Cond.instanceMethod yX0_shorten, Cond.selects RX0 yX0_shorten yX0_shorten, Cond.code yX0_shorten cX0_shorten 2 none]
def wsX11_cut : List Cond := .code yX11_cut cX11_cut 5 (some .int) :: ((wsX11_cut_r1 ++ wsX11_cut_r2) ++ wsX110 ++ wsX90 ++ wsX100 ++ wsX00 ++ (vx_atS RX11 61 "java/lang/IllegalArgumentException" ["java/lang/RuntimeException", "java/lang/Exception"]).filter goodWord ++ (vx_atS RX11 83 "java/lang/IndexOutOfBoundsException" ["java/lang/RuntimeException", "java/lang/Exception"]).filter goodWord)
def wsX11_lose_r1 : List Cond := [Cond.methodLink RX11 185 yX11_placeOnShelf, Cond.instanceMethod yX11_placeOnShelf, Cond.selects RX11 yX11_placeOnShelf yX11_placeOnShelf, Cond.initialized RX11, Cond.code yX11_placeOnShelf cX11_placeOnShelf 3 (some (.object "OssuaryVault$Volume")), Cond.classLink RX11 79 "java/lang/IndexOutOfBoundsException", Cond.initialized "java/lang/IndexOutOfBoundsException", Cond.fieldLink RX11 33 "OssuaryVault" "shelf" "LOssuaryVault$Shelf;", Cond.methodLink RX11 257 yX9_at, Cond.instanceMethod yX9_at, Cond.selects RX9 yX9_at yX9_at, Cond.initialized RX9, Cond.code yX9_at cX9_at 2 (some (.object "OssuaryVault$Volume")), Cond.fieldLink RX9 11 "OssuaryVault$Shelf" "places" "[LOssuaryVault$Volume;", Cond.methodLink RX11 213 yX10_isHere, Cond.instanceMethod yX10_isHere, Cond.selects RX10 yX10_isHere yX10_isHere, Cond.initialized RX10, Cond.code yX10_isHere cX10_isHere 1 (some .boolean), Cond.fieldLink RX10 24 "OssuaryVault$Volume" "here" "Z", Cond.methodLink RX11 217 yX10_vanish, Cond.instanceMethod yX10_vanish, Cond.selects RX10 yX10_vanish yX10_vanish, Cond.code yX10_vanish cX10_vanish 1 none]
def wsX11_lose_r2 : List Cond := [Cond.fieldLink RX10 14 "OssuaryVault$Volume" "bytes" "LOssuaryVault$Bytes;", Cond.fieldLink RX10 42 "OssuaryVault$Volume" "verdict" "I", Cond.methodLink RX10 39 yX0_clear, Cond.instanceMethod yX0_clear, Cond.selects RX0 yX0_clear yX0_clear, Cond.initialized RX0, Cond.code yX0_clear cX0_clear 1 none, Cond.fieldLink RX0 13 "OssuaryVault$Bytes" "size" "I"]
def wsX11_lose : List Cond := .code yX11_lose cX11_lose 4 (some .boolean) :: ((wsX11_lose_r1 ++ wsX11_lose_r2) ++ wsX110 ++ wsX90 ++ wsX100 ++ wsX00 ++ (vx_atS RX11 83 "java/lang/IndexOutOfBoundsException" ["java/lang/RuntimeException", "java/lang/Exception"]).filter goodWord)
def wsX11_exchange_r1 : List Cond := [Cond.fieldLink RX11 33 "OssuaryVault" "shelf" "LOssuaryVault$Shelf;", Cond.methodLink RX11 185 yX11_placeOnShelf, Cond.instanceMethod yX11_placeOnShelf, Cond.selects RX11 yX11_placeOnShelf yX11_placeOnShelf, Cond.initialized RX11, Cond.code yX11_placeOnShelf cX11_placeOnShelf 3 (some (.object "OssuaryVault$Volume")), Cond.classLink RX11 79 "java/lang/IndexOutOfBoundsException", Cond.initialized "java/lang/IndexOutOfBoundsException", Cond.methodLink RX11 257 yX9_at, Cond.instanceMethod yX9_at, Cond.selects RX9 yX9_at yX9_at, Cond.initialized RX9, Cond.code yX9_at cX9_at 2 (some (.object "OssuaryVault$Volume")), Cond.fieldLink RX9 11 "OssuaryVault$Shelf" "places" "[LOssuaryVault$Volume;", Cond.methodLink RX11 220 yX9_swap, Cond.instanceMethod yX9_swap, Cond.selects RX9 yX9_swap yX9_swap, Cond.code yX9_swap cX9_swap 5 none, Cond.methodLink RX9 35 yX9_at, Cond.methodLink RX11 213 yX10_isHere, Cond.instanceMethod yX10_isHere, Cond.selects RX10 yX10_isHere yX10_isHere, Cond.initialized RX10, Cond.code yX10_isHere cX10_isHere 1 (some .boolean)]
def wsX11_exchange_r2 : List Cond := [Cond.fieldLink RX10 24 "OssuaryVault$Volume" "here" "Z"]
def wsX11_exchange : List Cond := .code yX11_exchange cX11_exchange 5 (some .int) :: ((wsX11_exchange_r1 ++ wsX11_exchange_r2) ++ wsX110 ++ wsX90 ++ wsX100 ++ (vx_atS RX11 83 "java/lang/IndexOutOfBoundsException" ["java/lang/RuntimeException", "java/lang/Exception"]).filter goodWord)
def wsX11_copy_r1 : List Cond := [Cond.methodLink RX11 192 yX11_volumeOnShelf, Cond.instanceMethod yX11_volumeOnShelf, Cond.selects RX11 yX11_volumeOnShelf yX11_volumeOnShelf, Cond.initialized RX11, Cond.code yX11_volumeOnShelf cX11_volumeOnShelf 3 (some (.object "OssuaryVault$Volume")), Cond.classLink RX11 79 "java/lang/IndexOutOfBoundsException", Cond.initialized "java/lang/IndexOutOfBoundsException", Cond.methodLink RX11 185 yX11_placeOnShelf, Cond.instanceMethod yX11_placeOnShelf, Cond.selects RX11 yX11_placeOnShelf yX11_placeOnShelf, Cond.code yX11_placeOnShelf cX11_placeOnShelf 3 (some (.object "OssuaryVault$Volume")), Cond.fieldLink RX11 33 "OssuaryVault" "shelf" "LOssuaryVault$Shelf;", Cond.methodLink RX11 257 yX9_at, Cond.instanceMethod yX9_at, Cond.selects RX9 yX9_at yX9_at, Cond.initialized RX9, Cond.code yX9_at cX9_at 2 (some (.object "OssuaryVault$Volume")), Cond.fieldLink RX9 11 "OssuaryVault$Shelf" "places" "[LOssuaryVault$Volume;", Cond.methodLink RX11 213 yX10_isHere, Cond.instanceMethod yX10_isHere, Cond.selects RX10 yX10_isHere yX10_isHere, Cond.initialized RX10, Cond.code yX10_isHere cX10_isHere 1 (some .boolean), Cond.fieldLink RX10 24 "OssuaryVault$Volume" "here" "Z"]
def wsX11_copy_r2 : List Cond := [Cond.methodLink RX11 223 yX10_become, Cond.instanceMethod yX10_become, Cond.selects RX10 yX10_become yX10_become, Cond.code yX10_become cX10_become 2 none, Cond.fieldLink RX10 14 "OssuaryVault$Volume" "bytes" "LOssuaryVault$Bytes;", Cond.fieldLink RX10 42 "OssuaryVault$Volume" "verdict" "I", Cond.methodLink RX10 46 yX0_fillFrom, Cond.instanceMethod yX0_fillFrom, Cond.selects RX0 yX0_fillFrom yX0_fillFrom, Cond.initialized RX0, Cond.code yX0_fillFrom cX0_fillFrom 2 none, Cond.methodLink RX0 29 yX0_clear, Cond.instanceMethod yX0_clear, Cond.selects RX0 yX0_clear yX0_clear, Cond.code yX0_clear cX0_clear 1 none, Cond.fieldLink RX0 13 "OssuaryVault$Bytes" "size" "I", Cond.methodLink RX0 32 yX0_size, Cond.instanceMethod yX0_size, Cond.selects RX0 yX0_size yX0_size, Cond.code yX0_size cX0_size 1 (some .int), Cond.methodLink RX0 35 yX0_addPart, Cond.instanceMethod yX0_addPart, Cond.selects RX0 yX0_addPart yX0_addPart, Cond.code yX0_addPart cX0_addPart 5 none]
def wsX11_copy_r3 : List Cond := [Cond.methodLink RX0 17 yX0_at, Cond.instanceMethod yX0_at, Cond.selects RX0 yX0_at yX0_at, Cond.code yX0_at cX0_at 2 (some .int), Cond.fieldLink RX0 7 "OssuaryVault$Bytes" "cells" "[I", Cond.methodLink RX0 25 yX0_add, Cond.instanceMethod yX0_add, Cond.selects RX0 yX0_add yX0_add, Cond.code yX0_add cX0_add 2 none, Cond.methodLink RX11 189 yX10_size, Cond.instanceMethod yX10_size, Cond.selects RX10 yX10_size yX10_size, Cond.code yX10_size cX10_size 1 (some .int), Cond.methodLink RX10 28 yX0_size]
def wsX11_copy : List Cond := .code yX11_copy cX11_copy 4 (some .int) :: ((wsX11_copy_r1 ++ (wsX11_copy_r2 ++ wsX11_copy_r3)) ++ wsX110 ++ wsX90 ++ wsX100 ++ wsX00 ++ (vx_atS RX11 83 "java/lang/IndexOutOfBoundsException" ["java/lang/RuntimeException", "java/lang/Exception"]).filter goodWord)
def wsX11_isSound_r1 : List Cond := [Cond.methodLink RX11 185 yX11_placeOnShelf, Cond.instanceMethod yX11_placeOnShelf, Cond.selects RX11 yX11_placeOnShelf yX11_placeOnShelf, Cond.initialized RX11, Cond.code yX11_placeOnShelf cX11_placeOnShelf 3 (some (.object "OssuaryVault$Volume")), Cond.classLink RX11 79 "java/lang/IndexOutOfBoundsException", Cond.initialized "java/lang/IndexOutOfBoundsException", Cond.fieldLink RX11 33 "OssuaryVault" "shelf" "LOssuaryVault$Shelf;", Cond.methodLink RX11 257 yX9_at, Cond.instanceMethod yX9_at, Cond.selects RX9 yX9_at yX9_at, Cond.initialized RX9, Cond.code yX9_at cX9_at 2 (some (.object "OssuaryVault$Volume")), Cond.fieldLink RX9 11 "OssuaryVault$Shelf" "places" "[LOssuaryVault$Volume;", Cond.methodLink RX11 227 yX10_isWhole, Cond.instanceMethod yX10_isWhole, Cond.selects RX10 yX10_isWhole yX10_isWhole, Cond.initialized RX10, Cond.code yX10_isWhole cX10_isWhole 1 (some .boolean), Cond.fieldLink RX10 42 "OssuaryVault$Volume" "verdict" "I", Cond.fieldLink RX10 14 "OssuaryVault$Volume" "bytes" "LOssuaryVault$Bytes;", Cond.methodLink RX10 87 yX10_headFits, Cond.instanceMethod yX10_headFits, Cond.selects RX10 yX10_headFits yX10_headFits]
def wsX11_isSound_r2 : List Cond := [Cond.code yX10_headFits cX10_headFits 1 (some .boolean), Cond.fieldLink RX10 24 "OssuaryVault$Volume" "here" "Z", Cond.methodLink RX10 28 yX0_size, Cond.instanceMethod yX0_size, Cond.selects RX0 yX0_size yX0_size, Cond.initialized RX0, Cond.code yX0_size cX0_size 1 (some .int), Cond.fieldLink RX0 13 "OssuaryVault$Bytes" "size" "I", Cond.methodLink RX10 32 yX0_at, Cond.instanceMethod yX0_at, Cond.selects RX0 yX0_at yX0_at, Cond.code yX0_at cX0_at 2 (some .int), Cond.fieldLink RX0 7 "OssuaryVault$Bytes" "cells" "[I", Cond.methodLink RX10 91 yX10_dataTold, Cond.instanceMethod yX10_dataTold, Cond.selects RX10 yX10_dataTold yX10_dataTold, Cond.code yX10_dataTold cX10_dataTold 1 (some .int), Cond.methodLink RX10 94 yX10_parityTold, Cond.instanceMethod yX10_parityTold, Cond.selects RX10 yX10_parityTold yX10_parityTold, Cond.code yX10_parityTold cX10_parityTold 1 (some .int), Cond.methodLink RX10 97 yX10_number, Cond.instanceMethod yX10_number, Cond.selects RX10 yX10_number yX10_number]
def wsX11_isSound_r3 : List Cond := [Cond.code yX10_number cX10_number 1 (some .int), Cond.methodLink RX10 100 yX10_bodyTold, Cond.instanceMethod yX10_bodyTold, Cond.selects RX10 yX10_bodyTold yX10_bodyTold, Cond.code yX10_bodyTold cX10_bodyTold 1 (some .int), Cond.methodLink RX10 36 yX0_word, Cond.instanceMethod yX0_word, Cond.selects RX0 yX0_word yX0_word, Cond.code yX0_word cX0_word 2 (some .int), Cond.methodLink RX0 17 yX0_at, Cond.methodLink RX10 103 yX10_streamTold, Cond.instanceMethod yX10_streamTold, Cond.selects RX10 yX10_streamTold yX10_streamTold, Cond.code yX10_streamTold cX10_streamTold 1 (some .int), Cond.static yX11_bodySize, Cond.code yX11_bodySize cX11_bodySize 2 (some .int), Cond.methodLink RX10 74 yX10_rightCheck, Cond.instanceMethod yX10_rightCheck, Cond.selects RX10 yX10_rightCheck yX10_rightCheck, Cond.code yX10_rightCheck cX10_rightCheck 2 (some .int), Cond.fieldLink RX10 20 "OssuaryVault$Volume" "check" "LOssuaryVault$Check;", Cond.constant RX10 82 (65535), Cond.methodLink RX10 83 yX1_after, Cond.instanceMethod yX1_after]
def wsX11_isSound_r4 : List Cond := [Cond.selects RX1 yX1_after yX1_after, Cond.initialized RX1, Cond.code yX1_after cX1_after 7 (some .int), Cond.constant RX1 18 (65535), Cond.fieldLink RX1 7 "OssuaryVault$Check" "steps" "[I", Cond.methodLink RX1 19 yX0_at]
def wsX11_isSound : List Cond := .code yX11_isSound cX11_isSound 2 (some .boolean) :: ((wsX11_isSound_r1 ++ (wsX11_isSound_r2 ++ (wsX11_isSound_r3 ++ wsX11_isSound_r4))) ++ wsX110 ++ wsX90 ++ wsX100 ++ wsX00 ++ wsX10 ++ (vx_atS RX11 83 "java/lang/IndexOutOfBoundsException" ["java/lang/RuntimeException", "java/lang/Exception"]).filter goodWord)
def wsX11_leader_r1 : List Cond := [Cond.fieldLink RX11 33 "OssuaryVault" "shelf" "LOssuaryVault$Shelf;", Cond.methodLink RX11 230 yX9_survey, Cond.instanceMethod yX9_survey, Cond.selects RX9 yX9_survey yX9_survey, Cond.initialized RX9, Cond.code yX9_survey cX9_survey 2 none, Cond.fieldLink RX9 39 "OssuaryVault$Shelf" "leaderPlace" "I", Cond.fieldLink RX9 43 "OssuaryVault$Shelf" "members" "I", Cond.fieldLink RX9 17 "OssuaryVault$Shelf" "numbers" "[I", Cond.fieldLink RX9 21 "OssuaryVault$Shelf" "holders" "[I", Cond.fieldLink RX9 11 "OssuaryVault$Shelf" "places" "[LOssuaryVault$Volume;", Cond.methodLink RX9 46 yX10_isWhole, Cond.instanceMethod yX10_isWhole, Cond.selects RX10 yX10_isWhole yX10_isWhole, Cond.initialized RX10, Cond.code yX10_isWhole cX10_isWhole 1 (some .boolean), Cond.fieldLink RX10 42 "OssuaryVault$Volume" "verdict" "I", Cond.fieldLink RX10 14 "OssuaryVault$Volume" "bytes" "LOssuaryVault$Bytes;", Cond.methodLink RX10 87 yX10_headFits, Cond.instanceMethod yX10_headFits, Cond.selects RX10 yX10_headFits yX10_headFits, Cond.code yX10_headFits cX10_headFits 1 (some .boolean), Cond.fieldLink RX10 24 "OssuaryVault$Volume" "here" "Z", Cond.methodLink RX10 28 yX0_size]
def wsX11_leader_r2 : List Cond := [Cond.instanceMethod yX0_size, Cond.selects RX0 yX0_size yX0_size, Cond.initialized RX0, Cond.code yX0_size cX0_size 1 (some .int), Cond.fieldLink RX0 13 "OssuaryVault$Bytes" "size" "I", Cond.methodLink RX10 32 yX0_at, Cond.instanceMethod yX0_at, Cond.selects RX0 yX0_at yX0_at, Cond.code yX0_at cX0_at 2 (some .int), Cond.fieldLink RX0 7 "OssuaryVault$Bytes" "cells" "[I", Cond.methodLink RX10 91 yX10_dataTold, Cond.instanceMethod yX10_dataTold, Cond.selects RX10 yX10_dataTold yX10_dataTold, Cond.code yX10_dataTold cX10_dataTold 1 (some .int), Cond.methodLink RX10 94 yX10_parityTold, Cond.instanceMethod yX10_parityTold, Cond.selects RX10 yX10_parityTold yX10_parityTold, Cond.code yX10_parityTold cX10_parityTold 1 (some .int), Cond.methodLink RX10 97 yX10_number, Cond.instanceMethod yX10_number, Cond.selects RX10 yX10_number yX10_number, Cond.code yX10_number cX10_number 1 (some .int), Cond.methodLink RX10 100 yX10_bodyTold, Cond.instanceMethod yX10_bodyTold]
def wsX11_leader_r3 : List Cond := [Cond.selects RX10 yX10_bodyTold yX10_bodyTold, Cond.code yX10_bodyTold cX10_bodyTold 1 (some .int), Cond.methodLink RX10 36 yX0_word, Cond.instanceMethod yX0_word, Cond.selects RX0 yX0_word yX0_word, Cond.code yX0_word cX0_word 2 (some .int), Cond.methodLink RX0 17 yX0_at, Cond.methodLink RX10 103 yX10_streamTold, Cond.instanceMethod yX10_streamTold, Cond.selects RX10 yX10_streamTold yX10_streamTold, Cond.code yX10_streamTold cX10_streamTold 1 (some .int), Cond.static yX11_bodySize, Cond.initialized RX11, Cond.code yX11_bodySize cX11_bodySize 2 (some .int), Cond.methodLink RX10 74 yX10_rightCheck, Cond.instanceMethod yX10_rightCheck, Cond.selects RX10 yX10_rightCheck yX10_rightCheck, Cond.code yX10_rightCheck cX10_rightCheck 2 (some .int), Cond.fieldLink RX10 20 "OssuaryVault$Volume" "check" "LOssuaryVault$Check;", Cond.constant RX10 82 (65535), Cond.methodLink RX10 83 yX1_after, Cond.instanceMethod yX1_after, Cond.selects RX1 yX1_after yX1_after, Cond.initialized RX1]
def wsX11_leader_r4 : List Cond := [Cond.code yX1_after cX1_after 7 (some .int), Cond.constant RX1 18 (65535), Cond.fieldLink RX1 7 "OssuaryVault$Check" "steps" "[I", Cond.methodLink RX1 19 yX0_at, Cond.methodLink RX9 50 yX9_seeWhole, Cond.instanceMethod yX9_seeWhole, Cond.selects RX9 yX9_seeWhole yX9_seeWhole, Cond.code yX9_seeWhole cX9_seeWhole 5 none, Cond.methodLink RX9 35 yX9_at, Cond.instanceMethod yX9_at, Cond.selects RX9 yX9_at yX9_at, Cond.code yX9_at cX9_at 2 (some (.object "OssuaryVault$Volume")), Cond.methodLink RX9 54 yX10_isOfOneWith, Cond.instanceMethod yX10_isOfOneWith, Cond.selects RX10 yX10_isOfOneWith yX10_isOfOneWith, Cond.code yX10_isOfOneWith cX10_isOfOneWith 2 (some .boolean), Cond.methodLink RX9 58 yX10_number]
def wsX11_leader : List Cond := .code yX11_leader cX11_leader 1 (some .int) :: ((wsX11_leader_r1 ++ (wsX11_leader_r2 ++ (wsX11_leader_r3 ++ wsX11_leader_r4))) ++ wsX110 ++ wsX90 ++ wsX100 ++ wsX00 ++ wsX10)
def wsX11_present_r1 : List Cond := [Cond.fieldLink RX11 33 "OssuaryVault" "shelf" "LOssuaryVault$Shelf;", Cond.methodLink RX11 230 yX9_survey, Cond.instanceMethod yX9_survey, Cond.selects RX9 yX9_survey yX9_survey, Cond.initialized RX9, Cond.code yX9_survey cX9_survey 2 none, Cond.fieldLink RX9 39 "OssuaryVault$Shelf" "leaderPlace" "I", Cond.fieldLink RX9 43 "OssuaryVault$Shelf" "members" "I", Cond.fieldLink RX9 17 "OssuaryVault$Shelf" "numbers" "[I", Cond.fieldLink RX9 21 "OssuaryVault$Shelf" "holders" "[I", Cond.fieldLink RX9 11 "OssuaryVault$Shelf" "places" "[LOssuaryVault$Volume;", Cond.methodLink RX9 46 yX10_isWhole, Cond.instanceMethod yX10_isWhole, Cond.selects RX10 yX10_isWhole yX10_isWhole, Cond.initialized RX10, Cond.code yX10_isWhole cX10_isWhole 1 (some .boolean), Cond.fieldLink RX10 42 "OssuaryVault$Volume" "verdict" "I", Cond.fieldLink RX10 14 "OssuaryVault$Volume" "bytes" "LOssuaryVault$Bytes;", Cond.methodLink RX10 87 yX10_headFits, Cond.instanceMethod yX10_headFits, Cond.selects RX10 yX10_headFits yX10_headFits, Cond.code yX10_headFits cX10_headFits 1 (some .boolean), Cond.fieldLink RX10 24 "OssuaryVault$Volume" "here" "Z", Cond.methodLink RX10 28 yX0_size]
def wsX11_present_r2 : List Cond := [Cond.instanceMethod yX0_size, Cond.selects RX0 yX0_size yX0_size, Cond.initialized RX0, Cond.code yX0_size cX0_size 1 (some .int), Cond.fieldLink RX0 13 "OssuaryVault$Bytes" "size" "I", Cond.methodLink RX10 32 yX0_at, Cond.instanceMethod yX0_at, Cond.selects RX0 yX0_at yX0_at, Cond.code yX0_at cX0_at 2 (some .int), Cond.fieldLink RX0 7 "OssuaryVault$Bytes" "cells" "[I", Cond.methodLink RX10 91 yX10_dataTold, Cond.instanceMethod yX10_dataTold, Cond.selects RX10 yX10_dataTold yX10_dataTold, Cond.code yX10_dataTold cX10_dataTold 1 (some .int), Cond.methodLink RX10 94 yX10_parityTold, Cond.instanceMethod yX10_parityTold, Cond.selects RX10 yX10_parityTold yX10_parityTold, Cond.code yX10_parityTold cX10_parityTold 1 (some .int), Cond.methodLink RX10 97 yX10_number, Cond.instanceMethod yX10_number, Cond.selects RX10 yX10_number yX10_number, Cond.code yX10_number cX10_number 1 (some .int), Cond.methodLink RX10 100 yX10_bodyTold, Cond.instanceMethod yX10_bodyTold]
def wsX11_present_r3 : List Cond := [Cond.selects RX10 yX10_bodyTold yX10_bodyTold, Cond.code yX10_bodyTold cX10_bodyTold 1 (some .int), Cond.methodLink RX10 36 yX0_word, Cond.instanceMethod yX0_word, Cond.selects RX0 yX0_word yX0_word, Cond.code yX0_word cX0_word 2 (some .int), Cond.methodLink RX0 17 yX0_at, Cond.methodLink RX10 103 yX10_streamTold, Cond.instanceMethod yX10_streamTold, Cond.selects RX10 yX10_streamTold yX10_streamTold, Cond.code yX10_streamTold cX10_streamTold 1 (some .int), Cond.static yX11_bodySize, Cond.initialized RX11, Cond.code yX11_bodySize cX11_bodySize 2 (some .int), Cond.methodLink RX10 74 yX10_rightCheck, Cond.instanceMethod yX10_rightCheck, Cond.selects RX10 yX10_rightCheck yX10_rightCheck, Cond.code yX10_rightCheck cX10_rightCheck 2 (some .int), Cond.fieldLink RX10 20 "OssuaryVault$Volume" "check" "LOssuaryVault$Check;", Cond.constant RX10 82 (65535), Cond.methodLink RX10 83 yX1_after, Cond.instanceMethod yX1_after, Cond.selects RX1 yX1_after yX1_after, Cond.initialized RX1]
def wsX11_present_r4 : List Cond := [Cond.code yX1_after cX1_after 7 (some .int), Cond.constant RX1 18 (65535), Cond.fieldLink RX1 7 "OssuaryVault$Check" "steps" "[I", Cond.methodLink RX1 19 yX0_at, Cond.methodLink RX9 50 yX9_seeWhole, Cond.instanceMethod yX9_seeWhole, Cond.selects RX9 yX9_seeWhole yX9_seeWhole, Cond.code yX9_seeWhole cX9_seeWhole 5 none, Cond.methodLink RX9 35 yX9_at, Cond.instanceMethod yX9_at, Cond.selects RX9 yX9_at yX9_at, Cond.code yX9_at cX9_at 2 (some (.object "OssuaryVault$Volume")), Cond.methodLink RX9 54 yX10_isOfOneWith, Cond.instanceMethod yX10_isOfOneWith, Cond.selects RX10 yX10_isOfOneWith yX10_isOfOneWith, Cond.code yX10_isOfOneWith cX10_isOfOneWith 2 (some .boolean), Cond.methodLink RX9 58 yX10_number]
def wsX11_present : List Cond := .code yX11_present cX11_present 1 (some .int) :: ((wsX11_present_r1 ++ (wsX11_present_r2 ++ (wsX11_present_r3 ++ wsX11_present_r4))) ++ wsX110 ++ wsX90 ++ wsX100 ++ wsX00 ++ wsX10)
def wsX11_numberOf_r1 : List Cond := [Cond.fieldLink RX11 33 "OssuaryVault" "shelf" "LOssuaryVault$Shelf;", Cond.methodLink RX11 185 yX11_placeOnShelf, Cond.instanceMethod yX11_placeOnShelf, Cond.selects RX11 yX11_placeOnShelf yX11_placeOnShelf, Cond.initialized RX11, Cond.code yX11_placeOnShelf cX11_placeOnShelf 3 (some (.object "OssuaryVault$Volume")), Cond.classLink RX11 79 "java/lang/IndexOutOfBoundsException", Cond.initialized "java/lang/IndexOutOfBoundsException", Cond.methodLink RX11 257 yX9_at, Cond.instanceMethod yX9_at, Cond.selects RX9 yX9_at yX9_at, Cond.initialized RX9, Cond.code yX9_at cX9_at 2 (some (.object "OssuaryVault$Volume")), Cond.fieldLink RX9 11 "OssuaryVault$Shelf" "places" "[LOssuaryVault$Volume;", Cond.methodLink RX11 230 yX9_survey, Cond.instanceMethod yX9_survey, Cond.selects RX9 yX9_survey yX9_survey, Cond.code yX9_survey cX9_survey 2 none, Cond.fieldLink RX9 39 "OssuaryVault$Shelf" "leaderPlace" "I", Cond.fieldLink RX9 43 "OssuaryVault$Shelf" "members" "I", Cond.fieldLink RX9 17 "OssuaryVault$Shelf" "numbers" "[I", Cond.fieldLink RX9 21 "OssuaryVault$Shelf" "holders" "[I", Cond.methodLink RX9 46 yX10_isWhole, Cond.instanceMethod yX10_isWhole]
def wsX11_numberOf_r2 : List Cond := [Cond.selects RX10 yX10_isWhole yX10_isWhole, Cond.initialized RX10, Cond.code yX10_isWhole cX10_isWhole 1 (some .boolean), Cond.fieldLink RX10 42 "OssuaryVault$Volume" "verdict" "I", Cond.fieldLink RX10 14 "OssuaryVault$Volume" "bytes" "LOssuaryVault$Bytes;", Cond.methodLink RX10 87 yX10_headFits, Cond.instanceMethod yX10_headFits, Cond.selects RX10 yX10_headFits yX10_headFits, Cond.code yX10_headFits cX10_headFits 1 (some .boolean), Cond.fieldLink RX10 24 "OssuaryVault$Volume" "here" "Z", Cond.methodLink RX10 28 yX0_size, Cond.instanceMethod yX0_size, Cond.selects RX0 yX0_size yX0_size, Cond.initialized RX0, Cond.code yX0_size cX0_size 1 (some .int), Cond.fieldLink RX0 13 "OssuaryVault$Bytes" "size" "I", Cond.methodLink RX10 32 yX0_at, Cond.instanceMethod yX0_at, Cond.selects RX0 yX0_at yX0_at, Cond.code yX0_at cX0_at 2 (some .int), Cond.fieldLink RX0 7 "OssuaryVault$Bytes" "cells" "[I", Cond.methodLink RX10 91 yX10_dataTold, Cond.instanceMethod yX10_dataTold, Cond.selects RX10 yX10_dataTold yX10_dataTold]
def wsX11_numberOf_r3 : List Cond := [Cond.code yX10_dataTold cX10_dataTold 1 (some .int), Cond.methodLink RX10 94 yX10_parityTold, Cond.instanceMethod yX10_parityTold, Cond.selects RX10 yX10_parityTold yX10_parityTold, Cond.code yX10_parityTold cX10_parityTold 1 (some .int), Cond.methodLink RX10 97 yX10_number, Cond.instanceMethod yX10_number, Cond.selects RX10 yX10_number yX10_number, Cond.code yX10_number cX10_number 1 (some .int), Cond.methodLink RX10 100 yX10_bodyTold, Cond.instanceMethod yX10_bodyTold, Cond.selects RX10 yX10_bodyTold yX10_bodyTold, Cond.code yX10_bodyTold cX10_bodyTold 1 (some .int), Cond.methodLink RX10 36 yX0_word, Cond.instanceMethod yX0_word, Cond.selects RX0 yX0_word yX0_word, Cond.code yX0_word cX0_word 2 (some .int), Cond.methodLink RX0 17 yX0_at, Cond.methodLink RX10 103 yX10_streamTold, Cond.instanceMethod yX10_streamTold, Cond.selects RX10 yX10_streamTold yX10_streamTold, Cond.code yX10_streamTold cX10_streamTold 1 (some .int), Cond.static yX11_bodySize, Cond.code yX11_bodySize cX11_bodySize 2 (some .int)]
def wsX11_numberOf_r4 : List Cond := [Cond.methodLink RX10 74 yX10_rightCheck, Cond.instanceMethod yX10_rightCheck, Cond.selects RX10 yX10_rightCheck yX10_rightCheck, Cond.code yX10_rightCheck cX10_rightCheck 2 (some .int), Cond.fieldLink RX10 20 "OssuaryVault$Volume" "check" "LOssuaryVault$Check;", Cond.constant RX10 82 (65535), Cond.methodLink RX10 83 yX1_after, Cond.instanceMethod yX1_after, Cond.selects RX1 yX1_after yX1_after, Cond.initialized RX1, Cond.code yX1_after cX1_after 7 (some .int), Cond.constant RX1 18 (65535), Cond.fieldLink RX1 7 "OssuaryVault$Check" "steps" "[I", Cond.methodLink RX1 19 yX0_at, Cond.methodLink RX9 50 yX9_seeWhole, Cond.instanceMethod yX9_seeWhole, Cond.selects RX9 yX9_seeWhole yX9_seeWhole, Cond.code yX9_seeWhole cX9_seeWhole 5 none, Cond.methodLink RX9 35 yX9_at, Cond.methodLink RX9 54 yX10_isOfOneWith, Cond.instanceMethod yX10_isOfOneWith, Cond.selects RX10 yX10_isOfOneWith yX10_isOfOneWith, Cond.code yX10_isOfOneWith cX10_isOfOneWith 2 (some .boolean), Cond.methodLink RX9 58 yX10_number]
def wsX11_numberOf_r5 : List Cond := [Cond.methodLink RX11 239 yX9_memberNumber, Cond.instanceMethod yX9_memberNumber, Cond.selects RX9 yX9_memberNumber yX9_memberNumber, Cond.code yX9_memberNumber cX9_memberNumber 2 (some .int)]
def wsX11_numberOf : List Cond := .code yX11_numberOf cX11_numberOf 2 (some .int) :: ((wsX11_numberOf_r1 ++ (wsX11_numberOf_r2 ++ (wsX11_numberOf_r3 ++ (wsX11_numberOf_r4 ++ wsX11_numberOf_r5)))) ++ wsX110 ++ wsX90 ++ wsX100 ++ wsX00 ++ wsX10 ++ (vx_atS RX11 83 "java/lang/IndexOutOfBoundsException" ["java/lang/RuntimeException", "java/lang/Exception"]).filter goodWord)
def wsX11_spare_r1 : List Cond := [Cond.fieldLink RX11 33 "OssuaryVault" "shelf" "LOssuaryVault$Shelf;", Cond.methodLink RX11 230 yX9_survey, Cond.instanceMethod yX9_survey, Cond.selects RX9 yX9_survey yX9_survey, Cond.initialized RX9, Cond.code yX9_survey cX9_survey 2 none, Cond.fieldLink RX9 39 "OssuaryVault$Shelf" "leaderPlace" "I", Cond.fieldLink RX9 43 "OssuaryVault$Shelf" "members" "I", Cond.fieldLink RX9 17 "OssuaryVault$Shelf" "numbers" "[I", Cond.fieldLink RX9 21 "OssuaryVault$Shelf" "holders" "[I", Cond.fieldLink RX9 11 "OssuaryVault$Shelf" "places" "[LOssuaryVault$Volume;", Cond.methodLink RX9 46 yX10_isWhole, Cond.instanceMethod yX10_isWhole, Cond.selects RX10 yX10_isWhole yX10_isWhole, Cond.initialized RX10, Cond.code yX10_isWhole cX10_isWhole 1 (some .boolean), Cond.fieldLink RX10 42 "OssuaryVault$Volume" "verdict" "I", Cond.fieldLink RX10 14 "OssuaryVault$Volume" "bytes" "LOssuaryVault$Bytes;", Cond.methodLink RX10 87 yX10_headFits, Cond.instanceMethod yX10_headFits, Cond.selects RX10 yX10_headFits yX10_headFits, Cond.code yX10_headFits cX10_headFits 1 (some .boolean), Cond.fieldLink RX10 24 "OssuaryVault$Volume" "here" "Z", Cond.methodLink RX10 28 yX0_size]
def wsX11_spare_r2 : List Cond := [Cond.instanceMethod yX0_size, Cond.selects RX0 yX0_size yX0_size, Cond.initialized RX0, Cond.code yX0_size cX0_size 1 (some .int), Cond.fieldLink RX0 13 "OssuaryVault$Bytes" "size" "I", Cond.methodLink RX10 32 yX0_at, Cond.instanceMethod yX0_at, Cond.selects RX0 yX0_at yX0_at, Cond.code yX0_at cX0_at 2 (some .int), Cond.fieldLink RX0 7 "OssuaryVault$Bytes" "cells" "[I", Cond.methodLink RX10 91 yX10_dataTold, Cond.instanceMethod yX10_dataTold, Cond.selects RX10 yX10_dataTold yX10_dataTold, Cond.code yX10_dataTold cX10_dataTold 1 (some .int), Cond.methodLink RX10 94 yX10_parityTold, Cond.instanceMethod yX10_parityTold, Cond.selects RX10 yX10_parityTold yX10_parityTold, Cond.code yX10_parityTold cX10_parityTold 1 (some .int), Cond.methodLink RX10 97 yX10_number, Cond.instanceMethod yX10_number, Cond.selects RX10 yX10_number yX10_number, Cond.code yX10_number cX10_number 1 (some .int), Cond.methodLink RX10 100 yX10_bodyTold, Cond.instanceMethod yX10_bodyTold]
def wsX11_spare_r3 : List Cond := [Cond.selects RX10 yX10_bodyTold yX10_bodyTold, Cond.code yX10_bodyTold cX10_bodyTold 1 (some .int), Cond.methodLink RX10 36 yX0_word, Cond.instanceMethod yX0_word, Cond.selects RX0 yX0_word yX0_word, Cond.code yX0_word cX0_word 2 (some .int), Cond.methodLink RX0 17 yX0_at, Cond.methodLink RX10 103 yX10_streamTold, Cond.instanceMethod yX10_streamTold, Cond.selects RX10 yX10_streamTold yX10_streamTold, Cond.code yX10_streamTold cX10_streamTold 1 (some .int), Cond.static yX11_bodySize, Cond.initialized RX11, Cond.code yX11_bodySize cX11_bodySize 2 (some .int), Cond.methodLink RX10 74 yX10_rightCheck, Cond.instanceMethod yX10_rightCheck, Cond.selects RX10 yX10_rightCheck yX10_rightCheck, Cond.code yX10_rightCheck cX10_rightCheck 2 (some .int), Cond.fieldLink RX10 20 "OssuaryVault$Volume" "check" "LOssuaryVault$Check;", Cond.constant RX10 82 (65535), Cond.methodLink RX10 83 yX1_after, Cond.instanceMethod yX1_after, Cond.selects RX1 yX1_after yX1_after, Cond.initialized RX1]
def wsX11_spare_r4 : List Cond := [Cond.code yX1_after cX1_after 7 (some .int), Cond.constant RX1 18 (65535), Cond.fieldLink RX1 7 "OssuaryVault$Check" "steps" "[I", Cond.methodLink RX1 19 yX0_at, Cond.methodLink RX9 50 yX9_seeWhole, Cond.instanceMethod yX9_seeWhole, Cond.selects RX9 yX9_seeWhole yX9_seeWhole, Cond.code yX9_seeWhole cX9_seeWhole 5 none, Cond.methodLink RX9 35 yX9_at, Cond.instanceMethod yX9_at, Cond.selects RX9 yX9_at yX9_at, Cond.code yX9_at cX9_at 2 (some (.object "OssuaryVault$Volume")), Cond.methodLink RX9 54 yX10_isOfOneWith, Cond.instanceMethod yX10_isOfOneWith, Cond.selects RX10 yX10_isOfOneWith yX10_isOfOneWith, Cond.code yX10_isOfOneWith cX10_isOfOneWith 2 (some .boolean), Cond.methodLink RX9 58 yX10_number, Cond.methodLink RX11 242 yX9_surplus, Cond.instanceMethod yX9_surplus, Cond.selects RX9 yX9_surplus yX9_surplus, Cond.code yX9_surplus cX9_surplus 2 (some .int), Cond.methodLink RX9 65 Lib.Math.max.name, Cond.static Lib.Math.max.name, Cond.initialized "java/lang/Math"]
def wsX11_spare_r5 : List Cond := [Cond.code Lib.Math.max.name Lib.Math.max.code 2 (some .int), Cond.methodLink RX9 62 yX10_dataTold]
def wsX11_spare : List Cond := .code yX11_spare cX11_spare 1 (some .int) :: ((wsX11_spare_r1 ++ (wsX11_spare_r2 ++ (wsX11_spare_r3 ++ (wsX11_spare_r4 ++ wsX11_spare_r5)))) ++ wsX110 ++ wsX90 ++ wsX100 ++ wsX00 ++ wsX10)
def wsX11_requireOpen : List Cond := .code yX11_requireOpen cX11_requireOpen 1 none :: ([.classLink RX11 99 "java/lang/IllegalStateException", .initialized "java/lang/IllegalStateException", .fieldLink RX11 49 "OssuaryVault" "reading" "LOssuaryVault$Reading;"] ++ wsX110 ++ wsX70 ++ (vx_atS RX11 103 "java/lang/IllegalStateException" ["java/lang/RuntimeException", "java/lang/Exception"]).filter goodWord)
def wsX11_repair_r1 : List Cond := [Cond.fieldLink RX11 33 "OssuaryVault" "shelf" "LOssuaryVault$Shelf;", Cond.fieldLink RX11 49 "OssuaryVault" "reading" "LOssuaryVault$Reading;", Cond.methodLink RX11 245 yX11_requireOpen, Cond.instanceMethod yX11_requireOpen, Cond.selects RX11 yX11_requireOpen yX11_requireOpen, Cond.initialized RX11, Cond.code yX11_requireOpen cX11_requireOpen 1 none, Cond.classLink RX11 99 "java/lang/IllegalStateException", Cond.initialized "java/lang/IllegalStateException", Cond.methodLink RX11 178 yX9_fillWith, Cond.instanceMethod yX9_fillWith, Cond.selects RX9 yX9_fillWith yX9_fillWith, Cond.initialized RX9, Cond.code yX9_fillWith cX9_fillWith 7 (some .int), Cond.fieldLink RX9 11 "OssuaryVault$Shelf" "places" "[LOssuaryVault$Volume;", Cond.fieldLink RX9 31 "OssuaryVault$Shelf" "blank" "LOssuaryVault$Volume;", Cond.methodLink RX9 74 yX9_form, Cond.instanceMethod yX9_form, Cond.selects RX9 yX9_form yX9_form, Cond.code yX9_form cX9_form 9 none, Cond.fieldLink RX9 24 "OssuaryVault$Shelf" "field" "LOssuaryVault$Field;", Cond.methodLink RX9 84 yX0_size, Cond.instanceMethod yX0_size, Cond.selects RX0 yX0_size yX0_size]
def wsX11_repair_r2 : List Cond := [Cond.initialized RX0, Cond.code yX0_size cX0_size 1 (some .int), Cond.fieldLink RX0 13 "OssuaryVault$Bytes" "size" "I", Cond.methodLink RX9 87 yX10_begin, Cond.instanceMethod yX10_begin, Cond.selects RX10 yX10_begin yX10_begin, Cond.initialized RX10, Cond.code yX10_begin cX10_begin 6 none, Cond.fieldLink RX10 24 "OssuaryVault$Volume" "here" "Z", Cond.fieldLink RX10 42 "OssuaryVault$Volume" "verdict" "I", Cond.fieldLink RX10 14 "OssuaryVault$Volume" "bytes" "LOssuaryVault$Bytes;", Cond.static yX11_bodySize, Cond.code yX11_bodySize cX11_bodySize 2 (some .int), Cond.methodLink RX10 39 yX0_clear, Cond.instanceMethod yX0_clear, Cond.selects RX0 yX0_clear yX0_clear, Cond.code yX0_clear cX0_clear 1 none, Cond.methodLink RX10 58 yX0_add, Cond.instanceMethod yX0_add, Cond.selects RX0 yX0_add yX0_add, Cond.code yX0_add cX0_add 2 none, Cond.fieldLink RX0 7 "OssuaryVault$Bytes" "cells" "[I", Cond.methodLink RX10 61 yX0_addWord, Cond.instanceMethod yX0_addWord]
def wsX11_repair_r3 : List Cond := [Cond.selects RX0 yX0_addWord yX0_addWord, Cond.code yX0_addWord cX0_addWord 2 none, Cond.methodLink RX0 25 yX0_add, Cond.methodLink RX10 64 yX0_addTimes, Cond.instanceMethod yX0_addTimes, Cond.selects RX0 yX0_addTimes yX0_addTimes, Cond.code yX0_addTimes cX0_addTimes 4 none, Cond.methodLink RX9 94 yX4_weight, Cond.instanceMethod yX4_weight, Cond.selects RX4 yX4_weight yX4_weight, Cond.initialized RX4, Cond.code yX4_weight cX4_weight 4 (some .int), Cond.methodLink RX4 33 yX4_parityWeight, Cond.instanceMethod yX4_parityWeight, Cond.selects RX4 yX4_parityWeight yX4_parityWeight, Cond.code yX4_parityWeight cX4_parityWeight 3 (some .int), Cond.methodLink RX4 16 yX4_oneOver, Cond.instanceMethod yX4_oneOver, Cond.selects RX4 yX4_oneOver yX4_oneOver, Cond.code yX4_oneOver cX4_oneOver 2 (some .int), Cond.fieldLink RX4 9 "OssuaryVault$Field" "powers" "[I", Cond.fieldLink RX4 13 "OssuaryVault$Field" "logs" "[I", Cond.methodLink RX9 104 yX4_addProducts, Cond.instanceMethod yX4_addProducts]
def wsX11_repair_r4 : List Cond := [Cond.selects RX4 yX4_addProducts yX4_addProducts, Cond.code yX4_addProducts cX4_addProducts 9 none, Cond.methodLink RX4 20 yX0_at, Cond.instanceMethod yX0_at, Cond.selects RX0 yX0_at yX0_at, Cond.code yX0_at cX0_at 2 (some .int), Cond.methodLink RX4 25 yX4_times, Cond.instanceMethod yX4_times, Cond.selects RX4 yX4_times yX4_times, Cond.code yX4_times cX4_times 3 (some .int), Cond.methodLink RX4 29 yX0_put, Cond.instanceMethod yX0_put, Cond.selects RX0 yX0_put yX0_put, Cond.code yX0_put cX0_put 3 none, Cond.methodLink RX9 108 yX10_seal, Cond.instanceMethod yX10_seal, Cond.selects RX10 yX10_seal yX10_seal, Cond.code yX10_seal cX10_seal 2 (some .int), Cond.methodLink RX10 74 yX10_rightCheck, Cond.instanceMethod yX10_rightCheck, Cond.selects RX10 yX10_rightCheck yX10_rightCheck, Cond.code yX10_rightCheck cX10_rightCheck 2 (some .int), Cond.fieldLink RX10 20 "OssuaryVault$Volume" "check" "LOssuaryVault$Check;", Cond.constant RX10 82 (65535)]
def wsX11_repair_r5 : List Cond := [Cond.methodLink RX10 83 yX1_after, Cond.instanceMethod yX1_after, Cond.selects RX1 yX1_after yX1_after, Cond.initialized RX1, Cond.code yX1_after cX1_after 7 (some .int), Cond.constant RX1 18 (65535), Cond.fieldLink RX1 7 "OssuaryVault$Check" "steps" "[I", Cond.methodLink RX1 19 yX0_at, Cond.methodLink RX10 28 yX0_size, Cond.methodLink RX10 77 yX0_putWord, Cond.instanceMethod yX0_putWord, Cond.selects RX0 yX0_putWord yX0_putWord, Cond.code yX0_putWord cX0_putWord 3 none, Cond.methodLink RX0 21 yX0_put, Cond.methodLink RX9 78 yX10_vanish, Cond.instanceMethod yX10_vanish, Cond.selects RX10 yX10_vanish yX10_vanish, Cond.code yX10_vanish cX10_vanish 1 none, Cond.methodLink RX9 81 yX10_sameAs, Cond.instanceMethod yX10_sameAs, Cond.selects RX10 yX10_sameAs yX10_sameAs, Cond.code yX10_sameAs cX10_sameAs 2 (some .boolean), Cond.methodLink RX10 50 yX0_sameAs, Cond.instanceMethod yX0_sameAs]
def wsX11_repair_r6 : List Cond := [Cond.selects RX0 yX0_sameAs yX0_sameAs, Cond.code yX0_sameAs cX0_sameAs 3 (some .boolean), Cond.methodLink RX0 32 yX0_size, Cond.methodLink RX0 17 yX0_at]
def wsX11_repair : List Cond := .code yX11_repair cX11_repair 1 (some .int) :: ((wsX11_repair_r1 ++ (wsX11_repair_r2 ++ (wsX11_repair_r3 ++ (wsX11_repair_r4 ++ (wsX11_repair_r5 ++ wsX11_repair_r6))))) ++ wsX110 ++ wsX70 ++ wsX90 ++ wsX100 ++ wsX00 ++ wsX40 ++ wsX10 ++ (vx_atS RX11 103 "java/lang/IllegalStateException" ["java/lang/RuntimeException", "java/lang/Exception"]).filter goodWord)
def wsX11_open_r1 : List Cond := [Cond.fieldLink RX11 49 "OssuaryVault" "reading" "LOssuaryVault$Reading;", Cond.fieldLink RX11 33 "OssuaryVault" "shelf" "LOssuaryVault$Shelf;", Cond.fieldLink RX11 42 "OssuaryVault" "recovery" "LOssuaryVault$Recovery;", Cond.methodLink RX11 171 yX7_close, Cond.instanceMethod yX7_close, Cond.selects RX7 yX7_close yX7_close, Cond.initialized RX7, Cond.code yX7_close cX7_close 1 none, Cond.fieldLink RX7 36 "OssuaryVault$Reading" "isOpen" "Z", Cond.methodLink RX11 230 yX9_survey, Cond.instanceMethod yX9_survey, Cond.selects RX9 yX9_survey yX9_survey, Cond.initialized RX9, Cond.code yX9_survey cX9_survey 2 none, Cond.fieldLink RX9 39 "OssuaryVault$Shelf" "leaderPlace" "I", Cond.fieldLink RX9 43 "OssuaryVault$Shelf" "members" "I", Cond.fieldLink RX9 17 "OssuaryVault$Shelf" "numbers" "[I", Cond.fieldLink RX9 21 "OssuaryVault$Shelf" "holders" "[I", Cond.fieldLink RX9 11 "OssuaryVault$Shelf" "places" "[LOssuaryVault$Volume;", Cond.methodLink RX9 46 yX10_isWhole, Cond.instanceMethod yX10_isWhole, Cond.selects RX10 yX10_isWhole yX10_isWhole, Cond.initialized RX10, Cond.code yX10_isWhole cX10_isWhole 1 (some .boolean)]
def wsX11_open_r2 : List Cond := [Cond.fieldLink RX10 42 "OssuaryVault$Volume" "verdict" "I", Cond.fieldLink RX10 14 "OssuaryVault$Volume" "bytes" "LOssuaryVault$Bytes;", Cond.methodLink RX10 87 yX10_headFits, Cond.instanceMethod yX10_headFits, Cond.selects RX10 yX10_headFits yX10_headFits, Cond.code yX10_headFits cX10_headFits 1 (some .boolean), Cond.fieldLink RX10 24 "OssuaryVault$Volume" "here" "Z", Cond.methodLink RX10 28 yX0_size, Cond.instanceMethod yX0_size, Cond.selects RX0 yX0_size yX0_size, Cond.initialized RX0, Cond.code yX0_size cX0_size 1 (some .int), Cond.fieldLink RX0 13 "OssuaryVault$Bytes" "size" "I", Cond.methodLink RX10 32 yX0_at, Cond.instanceMethod yX0_at, Cond.selects RX0 yX0_at yX0_at, Cond.code yX0_at cX0_at 2 (some .int), Cond.fieldLink RX0 7 "OssuaryVault$Bytes" "cells" "[I", Cond.methodLink RX10 91 yX10_dataTold, Cond.instanceMethod yX10_dataTold, Cond.selects RX10 yX10_dataTold yX10_dataTold, Cond.code yX10_dataTold cX10_dataTold 1 (some .int), Cond.methodLink RX10 94 yX10_parityTold, Cond.instanceMethod yX10_parityTold]
def wsX11_open_r3 : List Cond := [Cond.selects RX10 yX10_parityTold yX10_parityTold, Cond.code yX10_parityTold cX10_parityTold 1 (some .int), Cond.methodLink RX10 97 yX10_number, Cond.instanceMethod yX10_number, Cond.selects RX10 yX10_number yX10_number, Cond.code yX10_number cX10_number 1 (some .int), Cond.methodLink RX10 100 yX10_bodyTold, Cond.instanceMethod yX10_bodyTold, Cond.selects RX10 yX10_bodyTold yX10_bodyTold, Cond.code yX10_bodyTold cX10_bodyTold 1 (some .int), Cond.methodLink RX10 36 yX0_word, Cond.instanceMethod yX0_word, Cond.selects RX0 yX0_word yX0_word, Cond.code yX0_word cX0_word 2 (some .int), Cond.methodLink RX0 17 yX0_at, Cond.methodLink RX10 103 yX10_streamTold, Cond.instanceMethod yX10_streamTold, Cond.selects RX10 yX10_streamTold yX10_streamTold, Cond.code yX10_streamTold cX10_streamTold 1 (some .int), Cond.static yX11_bodySize, Cond.initialized RX11, Cond.code yX11_bodySize cX11_bodySize 2 (some .int), Cond.methodLink RX10 74 yX10_rightCheck, Cond.instanceMethod yX10_rightCheck]
def wsX11_open_r4 : List Cond := [Cond.selects RX10 yX10_rightCheck yX10_rightCheck, Cond.code yX10_rightCheck cX10_rightCheck 2 (some .int), Cond.fieldLink RX10 20 "OssuaryVault$Volume" "check" "LOssuaryVault$Check;", Cond.constant RX10 82 (65535), Cond.methodLink RX10 83 yX1_after, Cond.instanceMethod yX1_after, Cond.selects RX1 yX1_after yX1_after, Cond.initialized RX1, Cond.code yX1_after cX1_after 7 (some .int), Cond.constant RX1 18 (65535), Cond.fieldLink RX1 7 "OssuaryVault$Check" "steps" "[I", Cond.methodLink RX1 19 yX0_at, Cond.methodLink RX9 50 yX9_seeWhole, Cond.instanceMethod yX9_seeWhole, Cond.selects RX9 yX9_seeWhole yX9_seeWhole, Cond.code yX9_seeWhole cX9_seeWhole 5 none, Cond.methodLink RX9 35 yX9_at, Cond.instanceMethod yX9_at, Cond.selects RX9 yX9_at yX9_at, Cond.code yX9_at cX9_at 2 (some (.object "OssuaryVault$Volume")), Cond.methodLink RX9 54 yX10_isOfOneWith, Cond.instanceMethod yX10_isOfOneWith, Cond.selects RX10 yX10_isOfOneWith yX10_isOfOneWith, Cond.code yX10_isOfOneWith cX10_isOfOneWith 2 (some .boolean)]
def wsX11_open_r5 : List Cond := [Cond.methodLink RX9 58 yX10_number, Cond.methodLink RX11 257 yX9_at, Cond.methodLink RX11 242 yX9_surplus, Cond.instanceMethod yX9_surplus, Cond.selects RX9 yX9_surplus yX9_surplus, Cond.code yX9_surplus cX9_surplus 2 (some .int), Cond.methodLink RX9 65 Lib.Math.max.name, Cond.static Lib.Math.max.name, Cond.initialized "java/lang/Math", Cond.code Lib.Math.max.name Lib.Math.max.code 2 (some .int), Cond.methodLink RX9 62 yX10_dataTold, Cond.methodLink RX11 260 yX8_recover, Cond.instanceMethod yX8_recover, Cond.selects RX8 yX8_recover yX8_recover, Cond.initialized RX8, Cond.code yX8_recover cX8_recover 9 (some .int), Cond.methodLink RX8 34 Lib.Math.min.name, Cond.static Lib.Math.min.name, Cond.code Lib.Math.min.name Lib.Math.min.code 2 (some .int), Cond.methodLink RX8 28 yX10_dataTold, Cond.methodLink RX8 40 yX10_bodyTold, Cond.methodLink RX8 43 yX8_choose, Cond.instanceMethod yX8_choose, Cond.selects RX8 yX8_choose yX8_choose]
def wsX11_open_r6 : List Cond := [Cond.code yX8_choose cX8_choose 6 (some .int), Cond.fieldLink RX8 20 "OssuaryVault$Recovery" "chosen" "[I", Cond.methodLink RX8 56 yX9_memberWith, Cond.instanceMethod yX9_memberWith, Cond.selects RX9 yX9_memberWith yX9_memberWith, Cond.code yX9_memberWith cX9_memberWith 2 (some (.object "OssuaryVault$Volume")), Cond.methodLink RX8 47 yX8_writeWeights, Cond.instanceMethod yX8_writeWeights, Cond.selects RX8 yX8_writeWeights yX8_writeWeights, Cond.code yX8_writeWeights cX8_writeWeights 4 none, Cond.fieldLink RX8 16 "OssuaryVault$Recovery" "matrix" "LOssuaryVault$Bytes;", Cond.fieldLink RX8 24 "OssuaryVault$Recovery" "field" "LOssuaryVault$Field;", Cond.methodLink RX8 53 yX0_clear, Cond.instanceMethod yX0_clear, Cond.selects RX0 yX0_clear yX0_clear, Cond.code yX0_clear cX0_clear 1 none, Cond.methodLink RX8 79 yX0_addTimes, Cond.instanceMethod yX0_addTimes, Cond.selects RX0 yX0_addTimes yX0_addTimes, Cond.code yX0_addTimes cX0_addTimes 4 none, Cond.methodLink RX0 25 yX0_add, Cond.instanceMethod yX0_add, Cond.selects RX0 yX0_add yX0_add, Cond.code yX0_add cX0_add 2 none]
def wsX11_open_r7 : List Cond := [Cond.methodLink RX8 83 yX4_weight, Cond.instanceMethod yX4_weight, Cond.selects RX4 yX4_weight yX4_weight, Cond.initialized RX4, Cond.code yX4_weight cX4_weight 4 (some .int), Cond.methodLink RX4 33 yX4_parityWeight, Cond.instanceMethod yX4_parityWeight, Cond.selects RX4 yX4_parityWeight yX4_parityWeight, Cond.code yX4_parityWeight cX4_parityWeight 3 (some .int), Cond.methodLink RX4 16 yX4_oneOver, Cond.instanceMethod yX4_oneOver, Cond.selects RX4 yX4_oneOver yX4_oneOver, Cond.code yX4_oneOver cX4_oneOver 2 (some .int), Cond.fieldLink RX4 9 "OssuaryVault$Field" "powers" "[I", Cond.fieldLink RX4 13 "OssuaryVault$Field" "logs" "[I", Cond.methodLink RX8 89 yX0_put, Cond.instanceMethod yX0_put, Cond.selects RX0 yX0_put yX0_put, Cond.code yX0_put cX0_put 3 none, Cond.methodLink RX8 50 yX8_invert, Cond.instanceMethod yX8_invert, Cond.selects RX8 yX8_invert yX8_invert, Cond.code yX8_invert cX8_invert 6 none, Cond.methodLink RX8 92 yX0_at]
def wsX11_open_r8 : List Cond := [Cond.methodLink RX8 96 yX4_oneOver, Cond.methodLink RX8 99 yX8_scaleRow, Cond.instanceMethod yX8_scaleRow, Cond.selects RX8 yX8_scaleRow yX8_scaleRow, Cond.code yX8_scaleRow cX8_scaleRow 4 none, Cond.methodLink RX8 106 yX4_times, Cond.instanceMethod yX4_times, Cond.selects RX4 yX4_times yX4_times, Cond.code yX4_times cX4_times 3 (some .int), Cond.methodLink RX8 102 yX4_addProducts, Cond.instanceMethod yX4_addProducts, Cond.selects RX4 yX4_addProducts yX4_addProducts, Cond.code yX4_addProducts cX4_addProducts 9 none, Cond.methodLink RX4 20 yX0_at, Cond.methodLink RX4 25 yX4_times, Cond.methodLink RX4 29 yX0_put, Cond.methodLink RX8 65 yX0_addPart, Cond.instanceMethod yX0_addPart, Cond.selects RX0 yX0_addPart yX0_addPart, Cond.code yX0_addPart cX0_addPart 5 none, Cond.methodLink RX8 69 yX8_workOut, Cond.instanceMethod yX8_workOut, Cond.selects RX8 yX8_workOut yX8_workOut, Cond.code yX8_workOut cX8_workOut 10 none]
def wsX11_open_r9 : List Cond := [Cond.methodLink RX8 109 yX0_size, Cond.methodLink RX8 73 yX10_streamTold, Cond.methodLink RX8 76 yX0_shorten, Cond.instanceMethod yX0_shorten, Cond.selects RX0 yX0_shorten yX0_shorten, Cond.code yX0_shorten cX0_shorten 2 none, Cond.methodLink RX11 264 yX10_dataTold, Cond.methodLink RX11 267 yX10_parityTold, Cond.methodLink RX11 270 yX7_begin, Cond.instanceMethod yX7_begin, Cond.selects RX7 yX7_begin yX7_begin, Cond.code yX7_begin cX7_begin 3 none, Cond.fieldLink RX7 40 "OssuaryVault$Reading" "data" "I", Cond.fieldLink RX7 43 "OssuaryVault$Reading" "parity" "I", Cond.fieldLink RX7 50 "OssuaryVault$Reading" "indexed" "Z", Cond.fieldLink RX7 32 "OssuaryVault$Reading" "count" "I", Cond.methodLink RX7 46 yX7_indexStands, Cond.instanceMethod yX7_indexStands, Cond.selects RX7 yX7_indexStands yX7_indexStands, Cond.code yX7_indexStands cX7_indexStands 3 (some .boolean), Cond.fieldLink RX7 15 "OssuaryVault$Reading" "stream" "LOssuaryVault$Bytes;", Cond.fieldLink RX7 27 "OssuaryVault$Reading" "check" "LOssuaryVault$Check;", Cond.methodLink RX7 70 yX7_tailPlace, Cond.instanceMethod yX7_tailPlace]
def wsX11_open_r10 : List Cond := [Cond.selects RX7 yX7_tailPlace yX7_tailPlace, Cond.code yX7_tailPlace cX7_tailPlace 1 (some .int), Cond.methodLink RX7 66 yX0_size, Cond.methodLink RX7 73 yX0_word, Cond.methodLink RX7 77 yX0_at, Cond.methodLink RX7 80 yX1_over, Cond.instanceMethod yX1_over, Cond.selects RX1 yX1_over yX1_over, Cond.code yX1_over cX1_over 4 (some .int), Cond.methodLink RX1 24 yX1_after, Cond.methodLink RX7 53 yX7_takeIndexed, Cond.instanceMethod yX7_takeIndexed, Cond.selects RX7 yX7_takeIndexed yX7_takeIndexed, Cond.code yX7_takeIndexed cX7_takeIndexed 6 none, Cond.fieldLink RX7 23 "OssuaryVault$Reading" "entries" "[LOssuaryVault$FoundFile;", Cond.methodLink RX7 86 Lib.Math.min.name, Cond.methodLink RX7 56 yX7_lookForFiles, Cond.instanceMethod yX7_lookForFiles, Cond.selects RX7 yX7_lookForFiles yX7_lookForFiles, Cond.code yX7_lookForFiles cX7_lookForFiles 3 none, Cond.methodLink RX7 101 yX7_liesAt, Cond.instanceMethod yX7_liesAt, Cond.selects RX7 yX7_liesAt yX7_liesAt, Cond.code yX7_liesAt cX7_liesAt 2 (some .boolean)]
def wsX11_open_r11 : List Cond := [Cond.methodLink RX7 105 yX7_endOfFile, Cond.instanceMethod yX7_endOfFile, Cond.selects RX7 yX7_endOfFile yX7_endOfFile, Cond.code yX7_endOfFile cX7_endOfFile 2 (some .int), Cond.methodLink RX11 273 yX7_judgeFiles, Cond.instanceMethod yX7_judgeFiles, Cond.selects RX7 yX7_judgeFiles yX7_judgeFiles, Cond.code yX7_judgeFiles cX7_judgeFiles 2 none, Cond.methodLink RX7 59 yX7_readsWell, Cond.instanceMethod yX7_readsWell, Cond.selects RX7 yX7_readsWell yX7_readsWell, Cond.code yX7_readsWell cX7_readsWell 2 (some .boolean), Cond.methodLink RX7 108 yX7_takeContent, Cond.instanceMethod yX7_takeContent, Cond.selects RX7 yX7_takeContent yX7_takeContent, Cond.code yX7_takeContent cX7_takeContent 4 (some .boolean), Cond.methodLink RX7 114 yX6_unpack, Cond.static yX6_unpack, Cond.initialized RX6, Cond.code yX6_unpack cX6_unpack 10 (some .boolean), Cond.methodLink RX6 9 yX0_clear, Cond.methodLink RX6 32 yX0_at, Cond.methodLink RX6 14 yX0_size, Cond.methodLink RX6 49 yX0_addTimes]
def wsX11_open_r12 : List Cond := [Cond.methodLink RX6 39 yX0_addPart, Cond.methodLink RX7 120 yX0_clear, Cond.methodLink RX7 123 yX0_addPart]
def wsX11_open : List Cond := .code yX11_open cX11_open 3 (some .int) :: ((wsX11_open_r1 ++ (wsX11_open_r2 ++ (wsX11_open_r3 ++ (wsX11_open_r4 ++ (wsX11_open_r5 ++ (wsX11_open_r6 ++ (wsX11_open_r7 ++ (wsX11_open_r8 ++ (wsX11_open_r9 ++ (wsX11_open_r10 ++ (wsX11_open_r11 ++ wsX11_open_r12))))))))))) ++ wsX110 ++ wsX90 ++ wsX70 ++ wsX100 ++ wsX00 ++ wsX10 ++ wsX80 ++ wsX40 ++ wsX50)
def wsX11_opened : List Cond := .code yX11_opened cX11_opened 1 (some .int) :: ([.fieldLink RX11 49 "OssuaryVault" "reading" "LOssuaryVault$Reading;", .methodLink RX11 245 yX11_requireOpen, .instanceMethod yX11_requireOpen, .selects RX11 yX11_requireOpen yX11_requireOpen, .initialized RX11, .code yX11_requireOpen cX11_requireOpen 1 none, .classLink RX11 99 "java/lang/IllegalStateException", .initialized "java/lang/IllegalStateException", .methodLink RX11 93 yX0_size, .instanceMethod yX0_size, .selects RX0 yX0_size yX0_size, .initialized RX0, .code yX0_size cX0_size 1 (some .int), .fieldLink RX0 13 "OssuaryVault$Bytes" "size" "I"] ++ wsX110 ++ wsX70 ++ wsX00 ++ (vx_atS RX11 103 "java/lang/IllegalStateException" ["java/lang/RuntimeException", "java/lang/Exception"]).filter goodWord)
def wsX11_streamAt : List Cond := .code yX11_streamAt cX11_streamAt 2 (some .int) :: ([.fieldLink RX11 49 "OssuaryVault" "reading" "LOssuaryVault$Reading;", .methodLink RX11 245 yX11_requireOpen, .instanceMethod yX11_requireOpen, .selects RX11 yX11_requireOpen yX11_requireOpen, .initialized RX11, .code yX11_requireOpen cX11_requireOpen 1 none, .classLink RX11 99 "java/lang/IllegalStateException", .initialized "java/lang/IllegalStateException", .methodLink RX11 156 yX11_byteIn, .static yX11_byteIn, .code yX11_byteIn cX11_byteIn 2 (some .int), .classLink RX11 79 "java/lang/IndexOutOfBoundsException", .initialized "java/lang/IndexOutOfBoundsException", .methodLink RX11 93 yX0_size, .instanceMethod yX0_size, .selects RX0 yX0_size yX0_size, .initialized RX0, .code yX0_size cX0_size 1 (some .int), .fieldLink RX0 13 "OssuaryVault$Bytes" "size" "I", .methodLink RX11 325 yX0_at, .instanceMethod yX0_at, .selects RX0 yX0_at yX0_at, .code yX0_at cX0_at 2 (some .int), .fieldLink RX0 7 "OssuaryVault$Bytes" "cells" "[I"] ++ wsX110 ++ wsX70 ++ wsX00 ++ (vx_atS RX11 103 "java/lang/IllegalStateException" ["java/lang/RuntimeException", "java/lang/Exception"]).filter goodWord ++ (vx_atS RX11 83 "java/lang/IndexOutOfBoundsException" ["java/lang/RuntimeException", "java/lang/Exception"]).filter goodWord)
def wsX11_hasIndex : List Cond := .code yX11_hasIndex cX11_hasIndex 1 (some .boolean) :: ([.fieldLink RX11 49 "OssuaryVault" "reading" "LOssuaryVault$Reading;", .methodLink RX11 245 yX11_requireOpen, .instanceMethod yX11_requireOpen, .selects RX11 yX11_requireOpen yX11_requireOpen, .initialized RX11, .code yX11_requireOpen cX11_requireOpen 1 none, .classLink RX11 99 "java/lang/IllegalStateException", .initialized "java/lang/IllegalStateException"] ++ wsX110 ++ wsX70 ++ (vx_atS RX11 103 "java/lang/IllegalStateException" ["java/lang/RuntimeException", "java/lang/Exception"]).filter goodWord)
def wsX11_found : List Cond := .code yX11_found cX11_found 1 (some .int) :: ([.fieldLink RX11 49 "OssuaryVault" "reading" "LOssuaryVault$Reading;", .methodLink RX11 245 yX11_requireOpen, .instanceMethod yX11_requireOpen, .selects RX11 yX11_requireOpen yX11_requireOpen, .initialized RX11, .code yX11_requireOpen cX11_requireOpen 1 none, .classLink RX11 99 "java/lang/IllegalStateException", .initialized "java/lang/IllegalStateException"] ++ wsX110 ++ wsX70 ++ (vx_atS RX11 103 "java/lang/IllegalStateException" ["java/lang/RuntimeException", "java/lang/Exception"]).filter goodWord)
def wsX11_readFile : List Cond := .code yX11_readFile cX11_readFile 3 (some (.object "OssuaryVault$FoundFile")) :: ([.classLink RX11 79 "java/lang/IndexOutOfBoundsException", .initialized "java/lang/IndexOutOfBoundsException", .fieldLink RX11 49 "OssuaryVault" "reading" "LOssuaryVault$Reading;", .methodLink RX11 245 yX11_requireOpen, .instanceMethod yX11_requireOpen, .selects RX11 yX11_requireOpen yX11_requireOpen, .initialized RX11, .code yX11_requireOpen cX11_requireOpen 1 none, .classLink RX11 99 "java/lang/IllegalStateException", .initialized "java/lang/IllegalStateException", .methodLink RX11 299 yX7_at, .instanceMethod yX7_at, .selects RX7 yX7_at yX7_at, .initialized RX7, .code yX7_at cX7_at 2 (some (.object "OssuaryVault$FoundFile")), .fieldLink RX7 32 "OssuaryVault$Reading" "count" "I", .fieldLink RX7 23 "OssuaryVault$Reading" "entries" "[LOssuaryVault$FoundFile;"] ++ wsX110 ++ wsX70 ++ (vx_atS RX11 83 "java/lang/IndexOutOfBoundsException" ["java/lang/RuntimeException", "java/lang/Exception"]).filter goodWord ++ (vx_atS RX11 103 "java/lang/IllegalStateException" ["java/lang/RuntimeException", "java/lang/Exception"]).filter goodWord)
def wsX11_keyFound : List Cond := .code yX11_keyFound cX11_keyFound 2 (some .int) :: ([.methodLink RX11 282 yX11_readFile, .instanceMethod yX11_readFile, .selects RX11 yX11_readFile yX11_readFile, .initialized RX11, .code yX11_readFile cX11_readFile 3 (some (.object "OssuaryVault$FoundFile")), .classLink RX11 79 "java/lang/IndexOutOfBoundsException", .initialized "java/lang/IndexOutOfBoundsException", .fieldLink RX11 49 "OssuaryVault" "reading" "LOssuaryVault$Reading;", .methodLink RX11 245 yX11_requireOpen, .instanceMethod yX11_requireOpen, .selects RX11 yX11_requireOpen yX11_requireOpen, .code yX11_requireOpen cX11_requireOpen 1 none, .classLink RX11 99 "java/lang/IllegalStateException", .initialized "java/lang/IllegalStateException", .methodLink RX11 299 yX7_at, .instanceMethod yX7_at, .selects RX7 yX7_at yX7_at, .initialized RX7, .code yX7_at cX7_at 2 (some (.object "OssuaryVault$FoundFile")), .fieldLink RX7 32 "OssuaryVault$Reading" "count" "I", .fieldLink RX7 23 "OssuaryVault$Reading" "entries" "[LOssuaryVault$FoundFile;"] ++ wsX50 ++ wsX110 ++ wsX70 ++ (vx_atS RX11 83 "java/lang/IndexOutOfBoundsException" ["java/lang/RuntimeException", "java/lang/Exception"]).filter goodWord ++ (vx_atS RX11 103 "java/lang/IllegalStateException" ["java/lang/RuntimeException", "java/lang/Exception"]).filter goodWord)
def wsX11_placeFound : List Cond := .code yX11_placeFound cX11_placeFound 2 (some .int) :: ([.methodLink RX11 282 yX11_readFile, .instanceMethod yX11_readFile, .selects RX11 yX11_readFile yX11_readFile, .initialized RX11, .code yX11_readFile cX11_readFile 3 (some (.object "OssuaryVault$FoundFile")), .classLink RX11 79 "java/lang/IndexOutOfBoundsException", .initialized "java/lang/IndexOutOfBoundsException", .fieldLink RX11 49 "OssuaryVault" "reading" "LOssuaryVault$Reading;", .methodLink RX11 245 yX11_requireOpen, .instanceMethod yX11_requireOpen, .selects RX11 yX11_requireOpen yX11_requireOpen, .code yX11_requireOpen cX11_requireOpen 1 none, .classLink RX11 99 "java/lang/IllegalStateException", .initialized "java/lang/IllegalStateException", .methodLink RX11 299 yX7_at, .instanceMethod yX7_at, .selects RX7 yX7_at yX7_at, .initialized RX7, .code yX7_at cX7_at 2 (some (.object "OssuaryVault$FoundFile")), .fieldLink RX7 32 "OssuaryVault$Reading" "count" "I", .fieldLink RX7 23 "OssuaryVault$Reading" "entries" "[LOssuaryVault$FoundFile;"] ++ wsX50 ++ wsX110 ++ wsX70 ++ (vx_atS RX11 83 "java/lang/IndexOutOfBoundsException" ["java/lang/RuntimeException", "java/lang/Exception"]).filter goodWord ++ (vx_atS RX11 103 "java/lang/IllegalStateException" ["java/lang/RuntimeException", "java/lang/Exception"]).filter goodWord)
def wsX11_isGood : List Cond := .code yX11_isGood cX11_isGood 2 (some .boolean) :: ([.methodLink RX11 282 yX11_readFile, .instanceMethod yX11_readFile, .selects RX11 yX11_readFile yX11_readFile, .initialized RX11, .code yX11_readFile cX11_readFile 3 (some (.object "OssuaryVault$FoundFile")), .classLink RX11 79 "java/lang/IndexOutOfBoundsException", .initialized "java/lang/IndexOutOfBoundsException", .fieldLink RX11 49 "OssuaryVault" "reading" "LOssuaryVault$Reading;", .methodLink RX11 245 yX11_requireOpen, .instanceMethod yX11_requireOpen, .selects RX11 yX11_requireOpen yX11_requireOpen, .code yX11_requireOpen cX11_requireOpen 1 none, .classLink RX11 99 "java/lang/IllegalStateException", .initialized "java/lang/IllegalStateException", .methodLink RX11 299 yX7_at, .instanceMethod yX7_at, .selects RX7 yX7_at yX7_at, .initialized RX7, .code yX7_at cX7_at 2 (some (.object "OssuaryVault$FoundFile")), .fieldLink RX7 32 "OssuaryVault$Reading" "count" "I", .fieldLink RX7 23 "OssuaryVault$Reading" "entries" "[LOssuaryVault$FoundFile;"] ++ wsX50 ++ wsX110 ++ wsX70 ++ (vx_atS RX11 83 "java/lang/IndexOutOfBoundsException" ["java/lang/RuntimeException", "java/lang/Exception"]).filter goodWord ++ (vx_atS RX11 103 "java/lang/IllegalStateException" ["java/lang/RuntimeException", "java/lang/Exception"]).filter goodWord)
def wsX11_lengthFound_r1 : List Cond := [Cond.methodLink RX11 282 yX11_readFile, Cond.instanceMethod yX11_readFile, Cond.selects RX11 yX11_readFile yX11_readFile, Cond.initialized RX11, Cond.code yX11_readFile cX11_readFile 3 (some (.object "OssuaryVault$FoundFile")), Cond.classLink RX11 79 "java/lang/IndexOutOfBoundsException", Cond.initialized "java/lang/IndexOutOfBoundsException", Cond.fieldLink RX11 49 "OssuaryVault" "reading" "LOssuaryVault$Reading;", Cond.methodLink RX11 245 yX11_requireOpen, Cond.instanceMethod yX11_requireOpen, Cond.selects RX11 yX11_requireOpen yX11_requireOpen, Cond.code yX11_requireOpen cX11_requireOpen 1 none, Cond.classLink RX11 99 "java/lang/IllegalStateException", Cond.initialized "java/lang/IllegalStateException", Cond.methodLink RX11 299 yX7_at, Cond.instanceMethod yX7_at, Cond.selects RX7 yX7_at yX7_at, Cond.initialized RX7, Cond.code yX7_at cX7_at 2 (some (.object "OssuaryVault$FoundFile")), Cond.fieldLink RX7 32 "OssuaryVault$Reading" "count" "I", Cond.fieldLink RX7 23 "OssuaryVault$Reading" "entries" "[LOssuaryVault$FoundFile;", Cond.methodLink RX11 295 yX5_size, Cond.instanceMethod yX5_size, Cond.selects RX5 yX5_size yX5_size]
def wsX11_lengthFound_r2 : List Cond := [Cond.initialized RX5, Cond.code yX5_size cX5_size 1 (some .int), Cond.fieldLink RX5 20 "OssuaryVault$FoundFile" "good" "Z", Cond.fieldLink RX5 14 "OssuaryVault$FoundFile" "content" "LOssuaryVault$Bytes;", Cond.methodLink RX5 24 yX0_size, Cond.instanceMethod yX0_size, Cond.selects RX0 yX0_size yX0_size, Cond.initialized RX0, Cond.code yX0_size cX0_size 1 (some .int), Cond.fieldLink RX0 13 "OssuaryVault$Bytes" "size" "I"]
def wsX11_lengthFound : List Cond := .code yX11_lengthFound cX11_lengthFound 2 (some .int) :: ((wsX11_lengthFound_r1 ++ wsX11_lengthFound_r2) ++ wsX110 ++ wsX70 ++ wsX50 ++ wsX00 ++ (vx_atS RX11 83 "java/lang/IndexOutOfBoundsException" ["java/lang/RuntimeException", "java/lang/Exception"]).filter goodWord ++ (vx_atS RX11 103 "java/lang/IllegalStateException" ["java/lang/RuntimeException", "java/lang/Exception"]).filter goodWord)
def wsX11_byteFound_r1 : List Cond := [Cond.classLink RX11 79 "java/lang/IndexOutOfBoundsException", Cond.initialized "java/lang/IndexOutOfBoundsException", Cond.methodLink RX11 282 yX11_readFile, Cond.instanceMethod yX11_readFile, Cond.selects RX11 yX11_readFile yX11_readFile, Cond.initialized RX11, Cond.code yX11_readFile cX11_readFile 3 (some (.object "OssuaryVault$FoundFile")), Cond.fieldLink RX11 49 "OssuaryVault" "reading" "LOssuaryVault$Reading;", Cond.methodLink RX11 245 yX11_requireOpen, Cond.instanceMethod yX11_requireOpen, Cond.selects RX11 yX11_requireOpen yX11_requireOpen, Cond.code yX11_requireOpen cX11_requireOpen 1 none, Cond.classLink RX11 99 "java/lang/IllegalStateException", Cond.initialized "java/lang/IllegalStateException", Cond.methodLink RX11 299 yX7_at, Cond.instanceMethod yX7_at, Cond.selects RX7 yX7_at yX7_at, Cond.initialized RX7, Cond.code yX7_at cX7_at 2 (some (.object "OssuaryVault$FoundFile")), Cond.fieldLink RX7 32 "OssuaryVault$Reading" "count" "I", Cond.fieldLink RX7 23 "OssuaryVault$Reading" "entries" "[LOssuaryVault$FoundFile;", Cond.methodLink RX11 156 yX11_byteIn, Cond.static yX11_byteIn, Cond.code yX11_byteIn cX11_byteIn 2 (some .int)]
def wsX11_byteFound_r2 : List Cond := [Cond.methodLink RX11 93 yX0_size, Cond.instanceMethod yX0_size, Cond.selects RX0 yX0_size yX0_size, Cond.initialized RX0, Cond.code yX0_size cX0_size 1 (some .int), Cond.fieldLink RX0 13 "OssuaryVault$Bytes" "size" "I", Cond.methodLink RX11 325 yX0_at, Cond.instanceMethod yX0_at, Cond.selects RX0 yX0_at yX0_at, Cond.code yX0_at cX0_at 2 (some .int), Cond.fieldLink RX0 7 "OssuaryVault$Bytes" "cells" "[I"]
def wsX11_byteFound : List Cond := .code yX11_byteFound cX11_byteFound 4 (some .int) :: ((wsX11_byteFound_r1 ++ wsX11_byteFound_r2) ++ wsX50 ++ wsX110 ++ wsX70 ++ wsX00 ++ (vx_atS RX11 83 "java/lang/IndexOutOfBoundsException" ["java/lang/RuntimeException", "java/lang/Exception"]).filter goodWord ++ (vx_atS RX11 103 "java/lang/IllegalStateException" ["java/lang/RuntimeException", "java/lang/Exception"]).filter goodWord)
def wsX11_restore_r1 : List Cond := [Cond.fieldLink RX11 49 "OssuaryVault" "reading" "LOssuaryVault$Reading;", Cond.fieldLink RX11 24 "OssuaryVault" "desk" "LOssuaryVault$Desk;", Cond.methodLink RX11 245 yX11_requireOpen, Cond.instanceMethod yX11_requireOpen, Cond.selects RX11 yX11_requireOpen yX11_requireOpen, Cond.initialized RX11, Cond.code yX11_requireOpen cX11_requireOpen 1 none, Cond.classLink RX11 99 "java/lang/IllegalStateException", Cond.initialized "java/lang/IllegalStateException", Cond.methodLink RX11 299 yX7_at, Cond.instanceMethod yX7_at, Cond.selects RX7 yX7_at yX7_at, Cond.initialized RX7, Cond.code yX7_at cX7_at 2 (some (.object "OssuaryVault$FoundFile")), Cond.fieldLink RX7 32 "OssuaryVault$Reading" "count" "I", Cond.fieldLink RX7 23 "OssuaryVault$Reading" "entries" "[LOssuaryVault$FoundFile;", Cond.methodLink RX11 125 yX2_hasRoomFor, Cond.instanceMethod yX2_hasRoomFor, Cond.selects RX2 yX2_hasRoomFor yX2_hasRoomFor, Cond.initialized RX2, Cond.code yX2_hasRoomFor cX2_hasRoomFor 2 (some .boolean), Cond.fieldLink RX2 34 "OssuaryVault$Desk" "count" "I", Cond.fieldLink RX2 25 "OssuaryVault$Desk" "slots" "[LOssuaryVault$DeskFile;", Cond.methodLink RX2 38 yX2_placeOf]
def wsX11_restore_r2 : List Cond := [Cond.instanceMethod yX2_placeOf, Cond.selects RX2 yX2_placeOf yX2_placeOf, Cond.code yX2_placeOf cX2_placeOf 4 (some .int), Cond.methodLink RX2 42 yX2_placeFor, Cond.instanceMethod yX2_placeFor, Cond.selects RX2 yX2_placeFor yX2_placeFor, Cond.code yX2_placeFor cX2_placeFor 3 (some .int), Cond.methodLink RX2 45 yX2_at, Cond.instanceMethod yX2_at, Cond.selects RX2 yX2_at yX2_at, Cond.code yX2_at cX2_at 2 (some (.object "OssuaryVault$DeskFile")), Cond.methodLink RX11 130 yX2_put, Cond.instanceMethod yX2_put, Cond.selects RX2 yX2_put yX2_put, Cond.code yX2_put cX2_put 6 none, Cond.fieldLink RX2 29 "OssuaryVault$Desk" "check" "LOssuaryVault$Check;", Cond.methodLink RX2 52 yX3_fill, Cond.instanceMethod yX3_fill, Cond.selects RX3 yX3_fill yX3_fill, Cond.initialized RX3, Cond.code yX3_fill cX3_fill 4 none, Cond.fieldLink RX3 23 "OssuaryVault$DeskFile" "key" "I", Cond.fieldLink RX3 14 "OssuaryVault$DeskFile" "content" "LOssuaryVault$Bytes;", Cond.fieldLink RX3 41 "OssuaryVault$DeskFile" "contentCheck" "I"]
def wsX11_restore_r3 : List Cond := [Cond.fieldLink RX3 20 "OssuaryVault$DeskFile" "packed" "LOssuaryVault$Bytes;", Cond.methodLink RX3 27 yX0_fillFrom, Cond.instanceMethod yX0_fillFrom, Cond.selects RX0 yX0_fillFrom yX0_fillFrom, Cond.initialized RX0, Cond.code yX0_fillFrom cX0_fillFrom 2 none, Cond.methodLink RX0 29 yX0_clear, Cond.instanceMethod yX0_clear, Cond.selects RX0 yX0_clear yX0_clear, Cond.code yX0_clear cX0_clear 1 none, Cond.fieldLink RX0 13 "OssuaryVault$Bytes" "size" "I", Cond.methodLink RX0 32 yX0_size, Cond.instanceMethod yX0_size, Cond.selects RX0 yX0_size yX0_size, Cond.code yX0_size cX0_size 1 (some .int), Cond.methodLink RX0 35 yX0_addPart, Cond.instanceMethod yX0_addPart, Cond.selects RX0 yX0_addPart yX0_addPart, Cond.code yX0_addPart cX0_addPart 5 none, Cond.methodLink RX0 17 yX0_at, Cond.instanceMethod yX0_at, Cond.selects RX0 yX0_at yX0_at, Cond.code yX0_at cX0_at 2 (some .int), Cond.fieldLink RX0 7 "OssuaryVault$Bytes" "cells" "[I"]
def wsX11_restore_r4 : List Cond := [Cond.methodLink RX0 25 yX0_add, Cond.instanceMethod yX0_add, Cond.selects RX0 yX0_add yX0_add, Cond.code yX0_add cX0_add 2 none, Cond.methodLink RX3 31 yX0_size, Cond.methodLink RX3 35 yX1_over, Cond.instanceMethod yX1_over, Cond.selects RX1 yX1_over yX1_over, Cond.initialized RX1, Cond.code yX1_over cX1_over 4 (some .int), Cond.constant RX1 18 (65535), Cond.methodLink RX1 24 yX1_after, Cond.instanceMethod yX1_after, Cond.selects RX1 yX1_after yX1_after, Cond.code yX1_after cX1_after 7 (some .int), Cond.fieldLink RX1 7 "OssuaryVault$Check" "steps" "[I", Cond.methodLink RX1 19 yX0_at, Cond.methodLink RX3 44 yX6_pack, Cond.static yX6_pack, Cond.initialized RX6, Cond.code yX6_pack cX6_pack 5 none, Cond.methodLink RX6 9 yX0_clear, Cond.methodLink RX6 14 yX0_size, Cond.methodLink RX6 18 yX6_isRun]
def wsX11_restore_r5 : List Cond := [Cond.static yX6_isRun, Cond.code yX6_isRun cX6_isRun 2 (some .boolean), Cond.methodLink RX6 32 yX0_at, Cond.methodLink RX6 24 yX6_alikeFrom, Cond.static yX6_alikeFrom, Cond.code yX6_alikeFrom cX6_alikeFrom 4 (some .int), Cond.methodLink RX6 43 Lib.Math.min.name, Cond.static Lib.Math.min.name, Cond.initialized "java/lang/Math", Cond.code Lib.Math.min.name Lib.Math.min.code 2 (some .int), Cond.methodLink RX6 28 yX0_add, Cond.methodLink RX6 36 yX6_apartFrom, Cond.static yX6_apartFrom, Cond.code yX6_apartFrom cX6_apartFrom 4 (some .int), Cond.methodLink RX6 39 yX0_addPart]
def wsX11_restore : List Cond := .code yX11_restore cX11_restore 4 (some .int) :: ((wsX11_restore_r1 ++ (wsX11_restore_r2 ++ (wsX11_restore_r3 ++ (wsX11_restore_r4 ++ wsX11_restore_r5)))) ++ wsX110 ++ wsX70 ++ wsX50 ++ wsX20 ++ wsX30 ++ wsX00 ++ wsX10 ++ (vx_atS RX11 103 "java/lang/IllegalStateException" ["java/lang/RuntimeException", "java/lang/Exception"]).filter goodWord)
def wsX11_cost_r1 : List Cond := [Cond.fieldLink RX11 24 "OssuaryVault" "desk" "LOssuaryVault$Desk;", Cond.fieldLink RX11 33 "OssuaryVault" "shelf" "LOssuaryVault$Shelf;", Cond.methodLink RX11 301 yX2_contentBytes, Cond.instanceMethod yX2_contentBytes, Cond.selects RX2 yX2_contentBytes yX2_contentBytes, Cond.initialized RX2, Cond.code yX2_contentBytes cX2_contentBytes 3 (some .int), Cond.fieldLink RX2 34 "OssuaryVault$Desk" "count" "I", Cond.fieldLink RX2 25 "OssuaryVault$Desk" "slots" "[LOssuaryVault$DeskFile;", Cond.methodLink RX2 59 yX0_size, Cond.instanceMethod yX0_size, Cond.selects RX0 yX0_size yX0_size, Cond.initialized RX0, Cond.code yX0_size cX0_size 1 (some .int), Cond.fieldLink RX0 13 "OssuaryVault$Bytes" "size" "I", Cond.methodLink RX11 304 yX9_allBytes, Cond.instanceMethod yX9_allBytes, Cond.selects RX9 yX9_allBytes yX9_allBytes, Cond.initialized RX9, Cond.code yX9_allBytes cX9_allBytes 3 (some .int), Cond.fieldLink RX9 11 "OssuaryVault$Shelf" "places" "[LOssuaryVault$Volume;", Cond.methodLink RX9 65 Lib.Math.max.name, Cond.static Lib.Math.max.name, Cond.initialized "java/lang/Math"]
def wsX11_cost_r2 : List Cond := [Cond.code Lib.Math.max.name Lib.Math.max.code 2 (some .int), Cond.methodLink RX9 71 yX10_size, Cond.instanceMethod yX10_size, Cond.selects RX10 yX10_size yX10_size, Cond.initialized RX10, Cond.code yX10_size cX10_size 1 (some .int), Cond.fieldLink RX10 24 "OssuaryVault$Volume" "here" "Z", Cond.fieldLink RX10 14 "OssuaryVault$Volume" "bytes" "LOssuaryVault$Bytes;", Cond.methodLink RX10 28 yX0_size]
def wsX11_cost : List Cond := .code yX11_cost cX11_cost 2 (some .double) :: ((wsX11_cost_r1 ++ wsX11_cost_r2) ++ wsX110 ++ wsX20 ++ wsX30 ++ wsX00 ++ wsX90 ++ wsX100)
def wsX11_then : List Cond := .code yX11_then cX11_then 4 (some .long) :: ([.constantLong RX11 330 (31)])
def wsX11_withDesk_r1 : List Cond := [Cond.fieldLink RX11 24 "OssuaryVault" "desk" "LOssuaryVault$Desk;", Cond.methodLink RX11 137 yX2_count, Cond.instanceMethod yX2_count, Cond.selects RX2 yX2_count yX2_count, Cond.initialized RX2, Cond.code yX2_count cX2_count 1 (some .int), Cond.fieldLink RX2 34 "OssuaryVault$Desk" "count" "I", Cond.methodLink RX11 319 yX11_then, Cond.static yX11_then, Cond.initialized RX11, Cond.code yX11_then cX11_then 4 (some .long), Cond.constantLong RX11 330 (31), Cond.methodLink RX11 166 yX2_streamSize, Cond.instanceMethod yX2_streamSize, Cond.selects RX2 yX2_streamSize yX2_streamSize, Cond.code yX2_streamSize cX2_streamSize 3 (some .int), Cond.fieldLink RX2 25 "OssuaryVault$Desk" "slots" "[LOssuaryVault$DeskFile;", Cond.methodLink RX2 63 yX3_streamSize, Cond.instanceMethod yX3_streamSize, Cond.selects RX3 yX3_streamSize yX3_streamSize, Cond.initialized RX3, Cond.code yX3_streamSize cX3_streamSize 1 (some .int), Cond.fieldLink RX3 20 "OssuaryVault$DeskFile" "packed" "LOssuaryVault$Bytes;", Cond.fieldLink RX3 14 "OssuaryVault$DeskFile" "content" "LOssuaryVault$Bytes;"]
def wsX11_withDesk_r2 : List Cond := [Cond.methodLink RX3 50 yX3_goesPacked, Cond.instanceMethod yX3_goesPacked, Cond.selects RX3 yX3_goesPacked yX3_goesPacked, Cond.code yX3_goesPacked cX3_goesPacked 1 (some .boolean), Cond.methodLink RX3 31 yX0_size, Cond.instanceMethod yX0_size, Cond.selects RX0 yX0_size yX0_size, Cond.initialized RX0, Cond.code yX0_size cX0_size 1 (some .int), Cond.fieldLink RX0 13 "OssuaryVault$Bytes" "size" "I", Cond.methodLink RX11 323 yX2_at, Cond.instanceMethod yX2_at, Cond.selects RX2 yX2_at yX2_at, Cond.code yX2_at cX2_at 2 (some (.object "OssuaryVault$DeskFile")), Cond.methodLink RX11 93 yX0_size]
def wsX11_withDesk : List Cond := .code yX11_withDesk cX11_withDesk 7 (some .long) :: ((wsX11_withDesk_r1 ++ wsX11_withDesk_r2) ++ wsX110 ++ wsX30 ++ wsX20 ++ wsX00)
def wsX11_withShelf_r1 : List Cond := [Cond.fieldLink RX11 33 "OssuaryVault" "shelf" "LOssuaryVault$Shelf;", Cond.methodLink RX11 257 yX9_at, Cond.instanceMethod yX9_at, Cond.selects RX9 yX9_at yX9_at, Cond.initialized RX9, Cond.code yX9_at cX9_at 2 (some (.object "OssuaryVault$Volume")), Cond.fieldLink RX9 11 "OssuaryVault$Shelf" "places" "[LOssuaryVault$Volume;", Cond.methodLink RX11 189 yX10_size, Cond.instanceMethod yX10_size, Cond.selects RX10 yX10_size yX10_size, Cond.initialized RX10, Cond.code yX10_size cX10_size 1 (some .int), Cond.fieldLink RX10 24 "OssuaryVault$Volume" "here" "Z", Cond.fieldLink RX10 14 "OssuaryVault$Volume" "bytes" "LOssuaryVault$Bytes;", Cond.methodLink RX10 28 yX0_size, Cond.instanceMethod yX0_size, Cond.selects RX0 yX0_size yX0_size, Cond.initialized RX0, Cond.code yX0_size cX0_size 1 (some .int), Cond.fieldLink RX0 13 "OssuaryVault$Bytes" "size" "I", Cond.methodLink RX11 319 yX11_then, Cond.static yX11_then, Cond.initialized RX11, Cond.code yX11_then cX11_then 4 (some .long)]
def wsX11_withShelf_r2 : List Cond := [Cond.constantLong RX11 330 (31), Cond.methodLink RX11 227 yX10_isWhole, Cond.instanceMethod yX10_isWhole, Cond.selects RX10 yX10_isWhole yX10_isWhole, Cond.code yX10_isWhole cX10_isWhole 1 (some .boolean), Cond.fieldLink RX10 42 "OssuaryVault$Volume" "verdict" "I", Cond.methodLink RX10 87 yX10_headFits, Cond.instanceMethod yX10_headFits, Cond.selects RX10 yX10_headFits yX10_headFits, Cond.code yX10_headFits cX10_headFits 1 (some .boolean), Cond.methodLink RX10 32 yX0_at, Cond.instanceMethod yX0_at, Cond.selects RX0 yX0_at yX0_at, Cond.code yX0_at cX0_at 2 (some .int), Cond.fieldLink RX0 7 "OssuaryVault$Bytes" "cells" "[I", Cond.methodLink RX10 91 yX10_dataTold, Cond.instanceMethod yX10_dataTold, Cond.selects RX10 yX10_dataTold yX10_dataTold, Cond.code yX10_dataTold cX10_dataTold 1 (some .int), Cond.methodLink RX10 94 yX10_parityTold, Cond.instanceMethod yX10_parityTold, Cond.selects RX10 yX10_parityTold yX10_parityTold, Cond.code yX10_parityTold cX10_parityTold 1 (some .int), Cond.methodLink RX10 97 yX10_number]
def wsX11_withShelf_r3 : List Cond := [Cond.instanceMethod yX10_number, Cond.selects RX10 yX10_number yX10_number, Cond.code yX10_number cX10_number 1 (some .int), Cond.methodLink RX10 100 yX10_bodyTold, Cond.instanceMethod yX10_bodyTold, Cond.selects RX10 yX10_bodyTold yX10_bodyTold, Cond.code yX10_bodyTold cX10_bodyTold 1 (some .int), Cond.methodLink RX10 36 yX0_word, Cond.instanceMethod yX0_word, Cond.selects RX0 yX0_word yX0_word, Cond.code yX0_word cX0_word 2 (some .int), Cond.methodLink RX0 17 yX0_at, Cond.methodLink RX10 103 yX10_streamTold, Cond.instanceMethod yX10_streamTold, Cond.selects RX10 yX10_streamTold yX10_streamTold, Cond.code yX10_streamTold cX10_streamTold 1 (some .int), Cond.static yX11_bodySize, Cond.code yX11_bodySize cX11_bodySize 2 (some .int), Cond.methodLink RX10 74 yX10_rightCheck, Cond.instanceMethod yX10_rightCheck, Cond.selects RX10 yX10_rightCheck yX10_rightCheck, Cond.code yX10_rightCheck cX10_rightCheck 2 (some .int), Cond.fieldLink RX10 20 "OssuaryVault$Volume" "check" "LOssuaryVault$Check;", Cond.constant RX10 82 (65535)]
def wsX11_withShelf_r4 : List Cond := [Cond.methodLink RX10 83 yX1_after, Cond.instanceMethod yX1_after, Cond.selects RX1 yX1_after yX1_after, Cond.initialized RX1, Cond.code yX1_after cX1_after 7 (some .int), Cond.constant RX1 18 (65535), Cond.fieldLink RX1 7 "OssuaryVault$Check" "steps" "[I", Cond.methodLink RX1 19 yX0_at, Cond.methodLink RX11 239 yX9_memberNumber, Cond.instanceMethod yX9_memberNumber, Cond.selects RX9 yX9_memberNumber yX9_memberNumber, Cond.code yX9_memberNumber cX9_memberNumber 2 (some .int), Cond.fieldLink RX9 17 "OssuaryVault$Shelf" "numbers" "[I", Cond.methodLink RX11 93 yX0_size, Cond.methodLink RX11 325 yX0_at, Cond.methodLink RX11 242 yX9_surplus, Cond.instanceMethod yX9_surplus, Cond.selects RX9 yX9_surplus yX9_surplus, Cond.code yX9_surplus cX9_surplus 2 (some .int), Cond.fieldLink RX9 39 "OssuaryVault$Shelf" "leaderPlace" "I", Cond.fieldLink RX9 43 "OssuaryVault$Shelf" "members" "I", Cond.methodLink RX9 65 Lib.Math.max.name, Cond.static Lib.Math.max.name, Cond.initialized "java/lang/Math"]
def wsX11_withShelf_r5 : List Cond := [Cond.code Lib.Math.max.name Lib.Math.max.code 2 (some .int), Cond.methodLink RX9 35 yX9_at, Cond.methodLink RX9 62 yX10_dataTold]
def wsX11_withShelf : List Cond := .code yX11_withShelf cX11_withShelf 8 (some .long) :: ((wsX11_withShelf_r1 ++ (wsX11_withShelf_r2 ++ (wsX11_withShelf_r3 ++ (wsX11_withShelf_r4 ++ wsX11_withShelf_r5)))) ++ wsX110 ++ wsX100 ++ wsX90 ++ wsX00 ++ wsX10)
def wsX11_withReading_r1 : List Cond := [Cond.fieldLink RX11 49 "OssuaryVault" "reading" "LOssuaryVault$Reading;", Cond.methodLink RX11 319 yX11_then, Cond.static yX11_then, Cond.initialized RX11, Cond.code yX11_then cX11_then 4 (some .long), Cond.constantLong RX11 330 (31), Cond.methodLink RX11 93 yX0_size, Cond.instanceMethod yX0_size, Cond.selects RX0 yX0_size yX0_size, Cond.initialized RX0, Cond.code yX0_size cX0_size 1 (some .int), Cond.fieldLink RX0 13 "OssuaryVault$Bytes" "size" "I", Cond.methodLink RX11 299 yX7_at, Cond.instanceMethod yX7_at, Cond.selects RX7 yX7_at yX7_at, Cond.initialized RX7, Cond.code yX7_at cX7_at 2 (some (.object "OssuaryVault$FoundFile")), Cond.fieldLink RX7 32 "OssuaryVault$Reading" "count" "I", Cond.fieldLink RX7 23 "OssuaryVault$Reading" "entries" "[LOssuaryVault$FoundFile;", Cond.methodLink RX11 295 yX5_size, Cond.instanceMethod yX5_size, Cond.selects RX5 yX5_size yX5_size, Cond.initialized RX5, Cond.code yX5_size cX5_size 1 (some .int)]
def wsX11_withReading_r2 : List Cond := [Cond.fieldLink RX5 20 "OssuaryVault$FoundFile" "good" "Z", Cond.fieldLink RX5 14 "OssuaryVault$FoundFile" "content" "LOssuaryVault$Bytes;", Cond.methodLink RX5 24 yX0_size]
def wsX11_withReading : List Cond := .code yX11_withReading cX11_withReading 7 (some .long) :: ((wsX11_withReading_r1 ++ wsX11_withReading_r2) ++ wsX110 ++ wsX70 ++ wsX50 ++ wsX00)
def wsX11_digest_r1 : List Cond := [Cond.fieldLink RX11 33 "OssuaryVault" "shelf" "LOssuaryVault$Shelf;", Cond.constantLong RX11 307 (2473), Cond.methodLink RX11 230 yX9_survey, Cond.instanceMethod yX9_survey, Cond.selects RX9 yX9_survey yX9_survey, Cond.initialized RX9, Cond.code yX9_survey cX9_survey 2 none, Cond.fieldLink RX9 39 "OssuaryVault$Shelf" "leaderPlace" "I", Cond.fieldLink RX9 43 "OssuaryVault$Shelf" "members" "I", Cond.fieldLink RX9 17 "OssuaryVault$Shelf" "numbers" "[I", Cond.fieldLink RX9 21 "OssuaryVault$Shelf" "holders" "[I", Cond.fieldLink RX9 11 "OssuaryVault$Shelf" "places" "[LOssuaryVault$Volume;", Cond.methodLink RX9 46 yX10_isWhole, Cond.instanceMethod yX10_isWhole, Cond.selects RX10 yX10_isWhole yX10_isWhole, Cond.initialized RX10, Cond.code yX10_isWhole cX10_isWhole 1 (some .boolean), Cond.fieldLink RX10 42 "OssuaryVault$Volume" "verdict" "I", Cond.fieldLink RX10 14 "OssuaryVault$Volume" "bytes" "LOssuaryVault$Bytes;", Cond.methodLink RX10 87 yX10_headFits, Cond.instanceMethod yX10_headFits, Cond.selects RX10 yX10_headFits yX10_headFits, Cond.code yX10_headFits cX10_headFits 1 (some .boolean), Cond.fieldLink RX10 24 "OssuaryVault$Volume" "here" "Z"]
def wsX11_digest_r2 : List Cond := [Cond.methodLink RX10 28 yX0_size, Cond.instanceMethod yX0_size, Cond.selects RX0 yX0_size yX0_size, Cond.initialized RX0, Cond.code yX0_size cX0_size 1 (some .int), Cond.fieldLink RX0 13 "OssuaryVault$Bytes" "size" "I", Cond.methodLink RX10 32 yX0_at, Cond.instanceMethod yX0_at, Cond.selects RX0 yX0_at yX0_at, Cond.code yX0_at cX0_at 2 (some .int), Cond.fieldLink RX0 7 "OssuaryVault$Bytes" "cells" "[I", Cond.methodLink RX10 91 yX10_dataTold, Cond.instanceMethod yX10_dataTold, Cond.selects RX10 yX10_dataTold yX10_dataTold, Cond.code yX10_dataTold cX10_dataTold 1 (some .int), Cond.methodLink RX10 94 yX10_parityTold, Cond.instanceMethod yX10_parityTold, Cond.selects RX10 yX10_parityTold yX10_parityTold, Cond.code yX10_parityTold cX10_parityTold 1 (some .int), Cond.methodLink RX10 97 yX10_number, Cond.instanceMethod yX10_number, Cond.selects RX10 yX10_number yX10_number, Cond.code yX10_number cX10_number 1 (some .int), Cond.methodLink RX10 100 yX10_bodyTold]
def wsX11_digest_r3 : List Cond := [Cond.instanceMethod yX10_bodyTold, Cond.selects RX10 yX10_bodyTold yX10_bodyTold, Cond.code yX10_bodyTold cX10_bodyTold 1 (some .int), Cond.methodLink RX10 36 yX0_word, Cond.instanceMethod yX0_word, Cond.selects RX0 yX0_word yX0_word, Cond.code yX0_word cX0_word 2 (some .int), Cond.methodLink RX0 17 yX0_at, Cond.methodLink RX10 103 yX10_streamTold, Cond.instanceMethod yX10_streamTold, Cond.selects RX10 yX10_streamTold yX10_streamTold, Cond.code yX10_streamTold cX10_streamTold 1 (some .int), Cond.static yX11_bodySize, Cond.initialized RX11, Cond.code yX11_bodySize cX11_bodySize 2 (some .int), Cond.methodLink RX10 74 yX10_rightCheck, Cond.instanceMethod yX10_rightCheck, Cond.selects RX10 yX10_rightCheck yX10_rightCheck, Cond.code yX10_rightCheck cX10_rightCheck 2 (some .int), Cond.fieldLink RX10 20 "OssuaryVault$Volume" "check" "LOssuaryVault$Check;", Cond.constant RX10 82 (65535), Cond.methodLink RX10 83 yX1_after, Cond.instanceMethod yX1_after, Cond.selects RX1 yX1_after yX1_after]
def wsX11_digest_r4 : List Cond := [Cond.initialized RX1, Cond.code yX1_after cX1_after 7 (some .int), Cond.constant RX1 18 (65535), Cond.fieldLink RX1 7 "OssuaryVault$Check" "steps" "[I", Cond.methodLink RX1 19 yX0_at, Cond.methodLink RX9 50 yX9_seeWhole, Cond.instanceMethod yX9_seeWhole, Cond.selects RX9 yX9_seeWhole yX9_seeWhole, Cond.code yX9_seeWhole cX9_seeWhole 5 none, Cond.methodLink RX9 35 yX9_at, Cond.instanceMethod yX9_at, Cond.selects RX9 yX9_at yX9_at, Cond.code yX9_at cX9_at 2 (some (.object "OssuaryVault$Volume")), Cond.methodLink RX9 54 yX10_isOfOneWith, Cond.instanceMethod yX10_isOfOneWith, Cond.selects RX10 yX10_isOfOneWith yX10_isOfOneWith, Cond.code yX10_isOfOneWith cX10_isOfOneWith 2 (some .boolean), Cond.methodLink RX9 58 yX10_number, Cond.methodLink RX11 309 yX11_withDesk, Cond.instanceMethod yX11_withDesk, Cond.selects RX11 yX11_withDesk yX11_withDesk, Cond.code yX11_withDesk cX11_withDesk 7 (some .long), Cond.fieldLink RX11 24 "OssuaryVault" "desk" "LOssuaryVault$Desk;", Cond.methodLink RX11 137 yX2_count]
def wsX11_digest_r5 : List Cond := [Cond.instanceMethod yX2_count, Cond.selects RX2 yX2_count yX2_count, Cond.initialized RX2, Cond.code yX2_count cX2_count 1 (some .int), Cond.fieldLink RX2 34 "OssuaryVault$Desk" "count" "I", Cond.methodLink RX11 319 yX11_then, Cond.static yX11_then, Cond.code yX11_then cX11_then 4 (some .long), Cond.constantLong RX11 330 (31), Cond.methodLink RX11 166 yX2_streamSize, Cond.instanceMethod yX2_streamSize, Cond.selects RX2 yX2_streamSize yX2_streamSize, Cond.code yX2_streamSize cX2_streamSize 3 (some .int), Cond.fieldLink RX2 25 "OssuaryVault$Desk" "slots" "[LOssuaryVault$DeskFile;", Cond.methodLink RX2 63 yX3_streamSize, Cond.instanceMethod yX3_streamSize, Cond.selects RX3 yX3_streamSize yX3_streamSize, Cond.initialized RX3, Cond.code yX3_streamSize cX3_streamSize 1 (some .int), Cond.fieldLink RX3 20 "OssuaryVault$DeskFile" "packed" "LOssuaryVault$Bytes;", Cond.fieldLink RX3 14 "OssuaryVault$DeskFile" "content" "LOssuaryVault$Bytes;", Cond.methodLink RX3 50 yX3_goesPacked, Cond.instanceMethod yX3_goesPacked, Cond.selects RX3 yX3_goesPacked yX3_goesPacked]
def wsX11_digest_r6 : List Cond := [Cond.code yX3_goesPacked cX3_goesPacked 1 (some .boolean), Cond.methodLink RX3 31 yX0_size, Cond.methodLink RX11 323 yX2_at, Cond.instanceMethod yX2_at, Cond.selects RX2 yX2_at yX2_at, Cond.code yX2_at cX2_at 2 (some (.object "OssuaryVault$DeskFile")), Cond.methodLink RX11 93 yX0_size, Cond.methodLink RX11 313 yX11_withShelf, Cond.instanceMethod yX11_withShelf, Cond.selects RX11 yX11_withShelf yX11_withShelf, Cond.code yX11_withShelf cX11_withShelf 8 (some .long), Cond.methodLink RX11 257 yX9_at, Cond.methodLink RX11 189 yX10_size, Cond.instanceMethod yX10_size, Cond.selects RX10 yX10_size yX10_size, Cond.code yX10_size cX10_size 1 (some .int), Cond.methodLink RX11 227 yX10_isWhole, Cond.methodLink RX11 239 yX9_memberNumber, Cond.instanceMethod yX9_memberNumber, Cond.selects RX9 yX9_memberNumber yX9_memberNumber, Cond.code yX9_memberNumber cX9_memberNumber 2 (some .int), Cond.methodLink RX11 325 yX0_at, Cond.methodLink RX11 242 yX9_surplus, Cond.instanceMethod yX9_surplus]
def wsX11_digest_r7 : List Cond := [Cond.selects RX9 yX9_surplus yX9_surplus, Cond.code yX9_surplus cX9_surplus 2 (some .int), Cond.methodLink RX9 65 Lib.Math.max.name, Cond.static Lib.Math.max.name, Cond.initialized "java/lang/Math", Cond.code Lib.Math.max.name Lib.Math.max.code 2 (some .int), Cond.methodLink RX9 62 yX10_dataTold, Cond.methodLink RX11 316 yX11_withReading, Cond.instanceMethod yX11_withReading, Cond.selects RX11 yX11_withReading yX11_withReading, Cond.code yX11_withReading cX11_withReading 7 (some .long), Cond.fieldLink RX11 49 "OssuaryVault" "reading" "LOssuaryVault$Reading;", Cond.methodLink RX11 299 yX7_at, Cond.instanceMethod yX7_at, Cond.selects RX7 yX7_at yX7_at, Cond.initialized RX7, Cond.code yX7_at cX7_at 2 (some (.object "OssuaryVault$FoundFile")), Cond.fieldLink RX7 32 "OssuaryVault$Reading" "count" "I", Cond.fieldLink RX7 23 "OssuaryVault$Reading" "entries" "[LOssuaryVault$FoundFile;", Cond.methodLink RX11 295 yX5_size, Cond.instanceMethod yX5_size, Cond.selects RX5 yX5_size yX5_size, Cond.initialized RX5, Cond.code yX5_size cX5_size 1 (some .int)]
def wsX11_digest_r8 : List Cond := [Cond.fieldLink RX5 20 "OssuaryVault$FoundFile" "good" "Z", Cond.fieldLink RX5 14 "OssuaryVault$FoundFile" "content" "LOssuaryVault$Bytes;", Cond.methodLink RX5 24 yX0_size]
def wsX11_digest : List Cond := .code yX11_digest cX11_digest 1 (some .long) :: ((wsX11_digest_r1 ++ (wsX11_digest_r2 ++ (wsX11_digest_r3 ++ (wsX11_digest_r4 ++ (wsX11_digest_r5 ++ (wsX11_digest_r6 ++ (wsX11_digest_r7 ++ wsX11_digest_r8))))))) ++ wsX110 ++ wsX90 ++ wsX100 ++ wsX00 ++ wsX10 ++ wsX30 ++ wsX20 ++ wsX70 ++ wsX50)
def wsX12_init : List Cond := .code yX12_init cX12_init 2 none :: ([.methodLink RX12 1 objectInit, .instanceMethod objectInit, .code objectInit ⟨#[0xb1]⟩ 1 none, .arrayClass .int, .fieldLink RX12 9 "OssuaryVaultModel" "sheet" "[I", .fieldLink RX12 13 "OssuaryVaultModel" "keys" "[I", .fieldLink RX12 16 "OssuaryVaultModel" "lengths" "[I", .classLink RX12 19 "[[I", .fieldLink RX12 21 "OssuaryVaultModel" "contents" "[[I", .classLink RX12 24 "[I", .fieldLink RX12 25 "OssuaryVaultModel" "volumes" "[[I", .fieldLink RX12 28 "OssuaryVaultModel" "sizes" "[I", .fieldLink RX12 31 "OssuaryVaultModel" "stream" "[I", .fieldLink RX12 34 "OssuaryVaultModel" "keysFound" "[I", .fieldLink RX12 37 "OssuaryVaultModel" "placesFound" "[I", .fieldLink RX12 40 "OssuaryVaultModel" "lengthsTold" "[I", .fieldLink RX12 43 "OssuaryVaultModel" "lengthsFound" "[I", .fieldLink RX12 46 "OssuaryVaultModel" "packed" "[I", .fieldLink RX12 49 "OssuaryVaultModel" "content" "[I", .arrayClass .boolean, .fieldLink RX12 52 "OssuaryVaultModel" "sound" "[Z", .fieldLink RX12 56 "OssuaryVaultModel" "numbers" "[I"] ++ wsX120)
def wsX12_thrown : List Cond := .code yX12_thrown cX12_thrown 1 (some .int) :: ([.fieldLink RX12 59 "OssuaryVaultModel" "thrown" "I"] ++ wsX120)
def wsX12_no : List Cond := .code yX12_no cX12_no 2 (some .int) :: ([.fieldLink RX12 59 "OssuaryVaultModel" "thrown" "I"] ++ wsX120)
def wsX12_isNot : List Cond := .code yX12_isNot cX12_isNot 2 (some .boolean) :: ([.fieldLink RX12 59 "OssuaryVaultModel" "thrown" "I"] ++ wsX120)
def wsX12_ok : List Cond := .code yX12_ok cX12_ok 2 (some .int) :: ([.fieldLink RX12 59 "OssuaryVaultModel" "thrown" "I"] ++ wsX120)
def wsX12_isIn : List Cond := .code yX12_isIn cX12_isIn 3 (some .boolean) :: ([])
def wsX12_times : List Cond := .code yX12_times cX12_times 5 (some .int) :: ([])
def wsX12_inverseOf : List Cond := .code yX12_inverseOf cX12_inverseOf 2 (some .int) :: ([.methodLink RX12 63 yX12_times, .static yX12_times, .initialized RX12, .code yX12_times cX12_times 5 (some .int)])
def wsX12_factor : List Cond := .code yX12_factor cX12_factor 2 (some .int) :: ([.methodLink RX12 67 yX12_inverseOf, .static yX12_inverseOf, .initialized RX12, .code yX12_inverseOf cX12_inverseOf 2 (some .int), .methodLink RX12 63 yX12_times, .static yX12_times, .code yX12_times cX12_times 5 (some .int)])
def wsX12_product : List Cond := .code yX12_product cX12_product 3 (some .int) :: ([.fieldLink RX12 59 "OssuaryVaultModel" "thrown" "I", .methodLink RX12 71 yX12_isIn, .static yX12_isIn, .initialized RX12, .code yX12_isIn cX12_isIn 3 (some .boolean), .methodLink RX12 63 yX12_times, .static yX12_times, .code yX12_times cX12_times 5 (some .int), .methodLink RX12 75 yX12_no, .instanceMethod yX12_no, .selects RX12 yX12_no yX12_no, .code yX12_no cX12_no 2 (some .int)] ++ wsX120)
def wsX12_inverse : List Cond := .code yX12_inverse cX12_inverse 2 (some .int) :: ([.fieldLink RX12 59 "OssuaryVaultModel" "thrown" "I", .methodLink RX12 71 yX12_isIn, .static yX12_isIn, .initialized RX12, .code yX12_isIn cX12_isIn 3 (some .boolean), .methodLink RX12 67 yX12_inverseOf, .static yX12_inverseOf, .code yX12_inverseOf cX12_inverseOf 2 (some .int), .methodLink RX12 63 yX12_times, .static yX12_times, .code yX12_times cX12_times 5 (some .int), .methodLink RX12 75 yX12_no, .instanceMethod yX12_no, .selects RX12 yX12_no yX12_no, .code yX12_no cX12_no 2 (some .int)] ++ wsX120)
def wsX12_power : List Cond := .code yX12_power cX12_power 5 (some .int) :: ([.fieldLink RX12 59 "OssuaryVaultModel" "thrown" "I", .methodLink RX12 71 yX12_isIn, .static yX12_isIn, .initialized RX12, .code yX12_isIn cX12_isIn 3 (some .boolean), .methodLink RX12 75 yX12_no, .instanceMethod yX12_no, .selects RX12 yX12_no yX12_no, .code yX12_no cX12_no 2 (some .int), .methodLink RX12 63 yX12_times, .static yX12_times, .code yX12_times cX12_times 5 (some .int)] ++ wsX120)
def wsX12_coefficient : List Cond := .code yX12_coefficient cX12_coefficient 3 (some .int) :: ([.fieldLink RX12 59 "OssuaryVaultModel" "thrown" "I", .methodLink RX12 71 yX12_isIn, .static yX12_isIn, .initialized RX12, .code yX12_isIn cX12_isIn 3 (some .boolean), .methodLink RX12 78 yX12_factor, .static yX12_factor, .code yX12_factor cX12_factor 2 (some .int), .methodLink RX12 67 yX12_inverseOf, .static yX12_inverseOf, .code yX12_inverseOf cX12_inverseOf 2 (some .int), .methodLink RX12 63 yX12_times, .static yX12_times, .code yX12_times cX12_times 5 (some .int), .methodLink RX12 75 yX12_no, .instanceMethod yX12_no, .selects RX12 yX12_no yX12_no, .code yX12_no cX12_no 2 (some .int)] ++ wsX120)
def wsX12_checked : List Cond := .code yX12_checked cX12_checked 4 (some .int) :: ([.constant RX12 81 (32768), .constant RX12 82 (65536)])
def wsX12_check : List Cond := .code yX12_check cX12_check 5 (some .int) :: ([.constant RX12 83 (65535), .methodLink RX12 84 yX12_checked, .static yX12_checked, .initialized RX12, .code yX12_checked cX12_checked 4 (some .int), .constant RX12 81 (32768), .constant RX12 82 (65536)])
def wsX12_isTriple : List Cond := .code yX12_isTriple cX12_isTriple 3 (some .boolean) :: ([])
def wsX12_pack : List Cond := .code yX12_pack cX12_pack 7 (some .int) :: ([.fieldLink RX12 46 "OssuaryVaultModel" "packed" "[I", .methodLink RX12 87 yX12_isTriple, .static yX12_isTriple, .initialized RX12, .code yX12_isTriple cX12_isTriple 3 (some .boolean)] ++ wsX120)
def wsX12_unpack : List Cond := .code yX12_unpack cX12_unpack 11 (some .int) :: ([.fieldLink RX12 49 "OssuaryVaultModel" "content" "[I"] ++ wsX120)
def wsX12_write : List Cond := .code yX12_write cX12_write 4 (some .int) :: ([.fieldLink RX12 59 "OssuaryVaultModel" "thrown" "I", .fieldLink RX12 91 "OssuaryVaultModel" "written" "I", .fieldLink RX12 9 "OssuaryVaultModel" "sheet" "[I", .methodLink RX12 71 yX12_isIn, .static yX12_isIn, .initialized RX12, .code yX12_isIn cX12_isIn 3 (some .boolean), .methodLink RX12 75 yX12_no, .instanceMethod yX12_no, .selects RX12 yX12_no yX12_no, .code yX12_no cX12_no 2 (some .int)] ++ wsX120)
def wsX12_noise : List Cond := .code yX12_noise cX12_noise 5 (some .int) :: ([.fieldLink RX12 59 "OssuaryVaultModel" "thrown" "I", .constant RX12 83 (65535), .fieldLink RX12 91 "OssuaryVaultModel" "written" "I", .constant RX12 94 (65537), .fieldLink RX12 9 "OssuaryVaultModel" "sheet" "[I", .methodLink RX12 71 yX12_isIn, .static yX12_isIn, .initialized RX12, .code yX12_isIn cX12_isIn 3 (some .boolean), .methodLink RX12 75 yX12_no, .instanceMethod yX12_no, .selects RX12 yX12_no yX12_no, .code yX12_no cX12_no 2 (some .int)] ++ wsX120)
def wsX12_cutSheet : List Cond := .code yX12_cutSheet cX12_cutSheet 3 (some .int) :: ([.fieldLink RX12 59 "OssuaryVaultModel" "thrown" "I", .fieldLink RX12 91 "OssuaryVaultModel" "written" "I", .methodLink RX12 71 yX12_isIn, .static yX12_isIn, .initialized RX12, .code yX12_isIn cX12_isIn 3 (some .boolean), .methodLink RX12 75 yX12_no, .instanceMethod yX12_no, .selects RX12 yX12_no yX12_no, .code yX12_no cX12_no 2 (some .int)] ++ wsX120)
def wsX12_placeOf : List Cond := .code yX12_placeOf cX12_placeOf 3 (some .int) :: ([.fieldLink RX12 95 "OssuaryVaultModel" "files" "I", .fieldLink RX12 13 "OssuaryVaultModel" "keys" "[I"] ++ wsX120)
def wsX12_move : List Cond := .code yX12_move cX12_move 3 none :: ([.fieldLink RX12 13 "OssuaryVaultModel" "keys" "[I", .fieldLink RX12 16 "OssuaryVaultModel" "lengths" "[I", .fieldLink RX12 21 "OssuaryVaultModel" "contents" "[[I", .methodLink RX12 98 arraycopyName, .native arraycopyName, .static arraycopyName, .initialized "java/lang/System"] ++ wsX120)
def wsX12_put : List Cond := .code yX12_put cX12_put 5 none :: ([.fieldLink RX12 95 "OssuaryVaultModel" "files" "I", .fieldLink RX12 13 "OssuaryVaultModel" "keys" "[I", .fieldLink RX12 16 "OssuaryVaultModel" "lengths" "[I", .fieldLink RX12 21 "OssuaryVaultModel" "contents" "[[I", .methodLink RX12 98 arraycopyName, .native arraycopyName, .static arraycopyName, .initialized "java/lang/System", .methodLink RX12 104 yX12_placeOf, .instanceMethod yX12_placeOf, .selects RX12 yX12_placeOf yX12_placeOf, .initialized RX12, .code yX12_placeOf cX12_placeOf 3 (some .int), .methodLink RX12 107 yX12_move, .instanceMethod yX12_move, .selects RX12 yX12_move yX12_move, .code yX12_move cX12_move 3 none] ++ wsX120)
def wsX12_store_r1 : List Cond := [Cond.fieldLink RX12 59 "OssuaryVaultModel" "thrown" "I", Cond.constant RX12 83 (65535), Cond.fieldLink RX12 95 "OssuaryVaultModel" "files" "I", Cond.fieldLink RX12 9 "OssuaryVaultModel" "sheet" "[I", Cond.fieldLink RX12 91 "OssuaryVaultModel" "written" "I", Cond.methodLink RX12 71 yX12_isIn, Cond.static yX12_isIn, Cond.initialized RX12, Cond.code yX12_isIn cX12_isIn 3 (some .boolean), Cond.methodLink RX12 75 yX12_no, Cond.instanceMethod yX12_no, Cond.selects RX12 yX12_no yX12_no, Cond.code yX12_no cX12_no 2 (some .int), Cond.methodLink RX12 104 yX12_placeOf, Cond.instanceMethod yX12_placeOf, Cond.selects RX12 yX12_placeOf yX12_placeOf, Cond.code yX12_placeOf cX12_placeOf 3 (some .int), Cond.fieldLink RX12 13 "OssuaryVaultModel" "keys" "[I", Cond.methodLink RX12 111 yX12_put, Cond.instanceMethod yX12_put, Cond.selects RX12 yX12_put yX12_put, Cond.code yX12_put cX12_put 5 none, Cond.fieldLink RX12 16 "OssuaryVaultModel" "lengths" "[I", Cond.fieldLink RX12 21 "OssuaryVaultModel" "contents" "[[I"]
def wsX12_store_r2 : List Cond := [Cond.methodLink RX12 98 arraycopyName, Cond.native arraycopyName, Cond.static arraycopyName, Cond.initialized "java/lang/System", Cond.methodLink RX12 107 yX12_move, Cond.instanceMethod yX12_move, Cond.selects RX12 yX12_move yX12_move, Cond.code yX12_move cX12_move 3 none]
def wsX12_store : List Cond := .code yX12_store cX12_store 2 (some .int) :: ((wsX12_store_r1 ++ wsX12_store_r2) ++ wsX120)
def wsX12_remove : List Cond := .code yX12_remove cX12_remove 5 (some .int) :: ([.fieldLink RX12 59 "OssuaryVaultModel" "thrown" "I", .fieldLink RX12 16 "OssuaryVaultModel" "lengths" "[I", .fieldLink RX12 95 "OssuaryVaultModel" "files" "I", .methodLink RX12 104 yX12_placeOf, .instanceMethod yX12_placeOf, .selects RX12 yX12_placeOf yX12_placeOf, .initialized RX12, .code yX12_placeOf cX12_placeOf 3 (some .int), .fieldLink RX12 13 "OssuaryVaultModel" "keys" "[I", .methodLink RX12 107 yX12_move, .instanceMethod yX12_move, .selects RX12 yX12_move yX12_move, .code yX12_move cX12_move 3 none, .fieldLink RX12 21 "OssuaryVaultModel" "contents" "[[I", .methodLink RX12 98 arraycopyName, .native arraycopyName, .static arraycopyName, .initialized "java/lang/System"] ++ wsX120)
def wsX12_files : List Cond := .code yX12_files cX12_files 1 (some .int) :: ([.fieldLink RX12 95 "OssuaryVaultModel" "files" "I", .methodLink RX12 115 yX12_ok, .instanceMethod yX12_ok, .selects RX12 yX12_ok yX12_ok, .initialized RX12, .code yX12_ok cX12_ok 2 (some .int), .fieldLink RX12 59 "OssuaryVaultModel" "thrown" "I"] ++ wsX120)
def wsX12_isFile : List Cond := .code yX12_isFile cX12_isFile 2 (some .boolean) :: ([.fieldLink RX12 95 "OssuaryVaultModel" "files" "I", .methodLink RX12 71 yX12_isIn, .static yX12_isIn, .initialized RX12, .code yX12_isIn cX12_isIn 3 (some .boolean)] ++ wsX120)
def wsX12_keyOf : List Cond := .code yX12_keyOf cX12_keyOf 2 (some .int) :: ([.fieldLink RX12 59 "OssuaryVaultModel" "thrown" "I", .fieldLink RX12 13 "OssuaryVaultModel" "keys" "[I", .methodLink RX12 118 yX12_isFile, .instanceMethod yX12_isFile, .selects RX12 yX12_isFile yX12_isFile, .initialized RX12, .code yX12_isFile cX12_isFile 2 (some .boolean), .fieldLink RX12 95 "OssuaryVaultModel" "files" "I", .methodLink RX12 71 yX12_isIn, .static yX12_isIn, .code yX12_isIn cX12_isIn 3 (some .boolean), .methodLink RX12 75 yX12_no, .instanceMethod yX12_no, .selects RX12 yX12_no yX12_no, .code yX12_no cX12_no 2 (some .int)] ++ wsX120)
def wsX12_lengthOf : List Cond := .code yX12_lengthOf cX12_lengthOf 2 (some .int) :: ([.fieldLink RX12 59 "OssuaryVaultModel" "thrown" "I", .fieldLink RX12 16 "OssuaryVaultModel" "lengths" "[I", .methodLink RX12 118 yX12_isFile, .instanceMethod yX12_isFile, .selects RX12 yX12_isFile yX12_isFile, .initialized RX12, .code yX12_isFile cX12_isFile 2 (some .boolean), .fieldLink RX12 95 "OssuaryVaultModel" "files" "I", .methodLink RX12 71 yX12_isIn, .static yX12_isIn, .code yX12_isIn cX12_isIn 3 (some .boolean), .methodLink RX12 75 yX12_no, .instanceMethod yX12_no, .selects RX12 yX12_no yX12_no, .code yX12_no cX12_no 2 (some .int)] ++ wsX120)
def wsX12_contentAt : List Cond := .code yX12_contentAt cX12_contentAt 3 (some .int) :: ([.fieldLink RX12 59 "OssuaryVaultModel" "thrown" "I", .fieldLink RX12 16 "OssuaryVaultModel" "lengths" "[I", .fieldLink RX12 21 "OssuaryVaultModel" "contents" "[[I", .methodLink RX12 118 yX12_isFile, .instanceMethod yX12_isFile, .selects RX12 yX12_isFile yX12_isFile, .initialized RX12, .code yX12_isFile cX12_isFile 2 (some .boolean), .fieldLink RX12 95 "OssuaryVaultModel" "files" "I", .methodLink RX12 71 yX12_isIn, .static yX12_isIn, .code yX12_isIn cX12_isIn 3 (some .boolean), .methodLink RX12 75 yX12_no, .instanceMethod yX12_no, .selects RX12 yX12_no yX12_no, .code yX12_no cX12_no 2 (some .int)] ++ wsX120)
def wsX12_checkOf_r1 : List Cond := [Cond.fieldLink RX12 59 "OssuaryVaultModel" "thrown" "I", Cond.fieldLink RX12 21 "OssuaryVaultModel" "contents" "[[I", Cond.fieldLink RX12 16 "OssuaryVaultModel" "lengths" "[I", Cond.methodLink RX12 118 yX12_isFile, Cond.instanceMethod yX12_isFile, Cond.selects RX12 yX12_isFile yX12_isFile, Cond.initialized RX12, Cond.code yX12_isFile cX12_isFile 2 (some .boolean), Cond.fieldLink RX12 95 "OssuaryVaultModel" "files" "I", Cond.methodLink RX12 71 yX12_isIn, Cond.static yX12_isIn, Cond.code yX12_isIn cX12_isIn 3 (some .boolean), Cond.methodLink RX12 122 yX12_check, Cond.static yX12_check, Cond.code yX12_check cX12_check 5 (some .int), Cond.constant RX12 83 (65535), Cond.methodLink RX12 84 yX12_checked, Cond.static yX12_checked, Cond.code yX12_checked cX12_checked 4 (some .int), Cond.constant RX12 81 (32768), Cond.constant RX12 82 (65536), Cond.methodLink RX12 75 yX12_no, Cond.instanceMethod yX12_no, Cond.selects RX12 yX12_no yX12_no]
def wsX12_checkOf_r2 : List Cond := [Cond.code yX12_no cX12_no 2 (some .int)]
def wsX12_checkOf : List Cond := .code yX12_checkOf cX12_checkOf 2 (some .int) :: ((wsX12_checkOf_r1 ++ wsX12_checkOf_r2) ++ wsX120)
def wsX12_packedLength : List Cond := .code yX12_packedLength cX12_packedLength 2 (some .int) :: ([.fieldLink RX12 59 "OssuaryVaultModel" "thrown" "I", .fieldLink RX12 21 "OssuaryVaultModel" "contents" "[[I", .fieldLink RX12 16 "OssuaryVaultModel" "lengths" "[I", .methodLink RX12 118 yX12_isFile, .instanceMethod yX12_isFile, .selects RX12 yX12_isFile yX12_isFile, .initialized RX12, .code yX12_isFile cX12_isFile 2 (some .boolean), .fieldLink RX12 95 "OssuaryVaultModel" "files" "I", .methodLink RX12 71 yX12_isIn, .static yX12_isIn, .code yX12_isIn cX12_isIn 3 (some .boolean), .methodLink RX12 126 yX12_pack, .instanceMethod yX12_pack, .selects RX12 yX12_pack yX12_pack, .code yX12_pack cX12_pack 7 (some .int), .fieldLink RX12 46 "OssuaryVaultModel" "packed" "[I", .methodLink RX12 87 yX12_isTriple, .static yX12_isTriple, .code yX12_isTriple cX12_isTriple 3 (some .boolean), .methodLink RX12 75 yX12_no, .instanceMethod yX12_no, .selects RX12 yX12_no yX12_no, .code yX12_no cX12_no 2 (some .int)] ++ wsX120)
def wsX12_packedAt : List Cond := .code yX12_packedAt cX12_packedAt 3 (some .int) :: ([.fieldLink RX12 59 "OssuaryVaultModel" "thrown" "I", .fieldLink RX12 21 "OssuaryVaultModel" "contents" "[[I", .fieldLink RX12 16 "OssuaryVaultModel" "lengths" "[I", .fieldLink RX12 46 "OssuaryVaultModel" "packed" "[I", .methodLink RX12 118 yX12_isFile, .instanceMethod yX12_isFile, .selects RX12 yX12_isFile yX12_isFile, .initialized RX12, .code yX12_isFile cX12_isFile 2 (some .boolean), .fieldLink RX12 95 "OssuaryVaultModel" "files" "I", .methodLink RX12 71 yX12_isIn, .static yX12_isIn, .code yX12_isIn cX12_isIn 3 (some .boolean), .methodLink RX12 126 yX12_pack, .instanceMethod yX12_pack, .selects RX12 yX12_pack yX12_pack, .code yX12_pack cX12_pack 7 (some .int), .methodLink RX12 87 yX12_isTriple, .static yX12_isTriple, .code yX12_isTriple cX12_isTriple 3 (some .boolean), .methodLink RX12 75 yX12_no, .instanceMethod yX12_no, .selects RX12 yX12_no yX12_no, .code yX12_no cX12_no 2 (some .int)] ++ wsX120)
def wsX12_streamSize : List Cond := .code yX12_streamSize cX12_streamSize 3 (some .int) :: ([.fieldLink RX12 95 "OssuaryVaultModel" "files" "I", .fieldLink RX12 16 "OssuaryVaultModel" "lengths" "[I", .fieldLink RX12 21 "OssuaryVaultModel" "contents" "[[I", .methodLink RX12 130 Lib.Math.min.name, .static Lib.Math.min.name, .initialized "java/lang/Math", .code Lib.Math.min.name Lib.Math.min.code 2 (some .int), .methodLink RX12 126 yX12_pack, .instanceMethod yX12_pack, .selects RX12 yX12_pack yX12_pack, .initialized RX12, .code yX12_pack cX12_pack 7 (some .int), .fieldLink RX12 46 "OssuaryVaultModel" "packed" "[I", .methodLink RX12 87 yX12_isTriple, .static yX12_isTriple, .code yX12_isTriple cX12_isTriple 3 (some .boolean)] ++ wsX120)
def wsX12_streamLength_r1 : List Cond := [Cond.methodLink RX12 135 yX12_streamSize, Cond.instanceMethod yX12_streamSize, Cond.selects RX12 yX12_streamSize yX12_streamSize, Cond.initialized RX12, Cond.code yX12_streamSize cX12_streamSize 3 (some .int), Cond.fieldLink RX12 95 "OssuaryVaultModel" "files" "I", Cond.fieldLink RX12 16 "OssuaryVaultModel" "lengths" "[I", Cond.fieldLink RX12 21 "OssuaryVaultModel" "contents" "[[I", Cond.methodLink RX12 130 Lib.Math.min.name, Cond.static Lib.Math.min.name, Cond.initialized "java/lang/Math", Cond.code Lib.Math.min.name Lib.Math.min.code 2 (some .int), Cond.methodLink RX12 126 yX12_pack, Cond.instanceMethod yX12_pack, Cond.selects RX12 yX12_pack yX12_pack, Cond.code yX12_pack cX12_pack 7 (some .int), Cond.fieldLink RX12 46 "OssuaryVaultModel" "packed" "[I", Cond.methodLink RX12 87 yX12_isTriple, Cond.static yX12_isTriple, Cond.code yX12_isTriple cX12_isTriple 3 (some .boolean), Cond.methodLink RX12 115 yX12_ok, Cond.instanceMethod yX12_ok, Cond.selects RX12 yX12_ok yX12_ok, Cond.code yX12_ok cX12_ok 2 (some .int)]
def wsX12_streamLength_r2 : List Cond := [Cond.fieldLink RX12 59 "OssuaryVaultModel" "thrown" "I"]
def wsX12_streamLength : List Cond := .code yX12_streamLength cX12_streamLength 1 (some .int) :: ((wsX12_streamLength_r1 ++ wsX12_streamLength_r2) ++ wsX120)
def wsX12_word : List Cond := .code yX12_word cX12_word 2 (some .int) :: ([])
def wsX12_setWord : List Cond := .code yX12_setWord cX12_setWord 3 none :: ([])
def wsX12_makeStream_r1 : List Cond := [Cond.arrayClass .int, Cond.fieldLink RX12 95 "OssuaryVaultModel" "files" "I", Cond.fieldLink RX12 21 "OssuaryVaultModel" "contents" "[[I", Cond.fieldLink RX12 16 "OssuaryVaultModel" "lengths" "[I", Cond.fieldLink RX12 13 "OssuaryVaultModel" "keys" "[I", Cond.fieldLink RX12 46 "OssuaryVaultModel" "packed" "[I", Cond.methodLink RX12 98 arraycopyName, Cond.native arraycopyName, Cond.static arraycopyName, Cond.initialized "java/lang/System", Cond.methodLink RX12 135 yX12_streamSize, Cond.instanceMethod yX12_streamSize, Cond.selects RX12 yX12_streamSize yX12_streamSize, Cond.initialized RX12, Cond.code yX12_streamSize cX12_streamSize 3 (some .int), Cond.methodLink RX12 130 Lib.Math.min.name, Cond.static Lib.Math.min.name, Cond.initialized "java/lang/Math", Cond.code Lib.Math.min.name Lib.Math.min.code 2 (some .int), Cond.methodLink RX12 126 yX12_pack, Cond.instanceMethod yX12_pack, Cond.selects RX12 yX12_pack yX12_pack, Cond.code yX12_pack cX12_pack 7 (some .int), Cond.methodLink RX12 87 yX12_isTriple]
def wsX12_makeStream_r2 : List Cond := [Cond.static yX12_isTriple, Cond.code yX12_isTriple cX12_isTriple 3 (some .boolean), Cond.methodLink RX12 139 yX12_setWord, Cond.static yX12_setWord, Cond.code yX12_setWord cX12_setWord 3 none, Cond.methodLink RX12 122 yX12_check, Cond.static yX12_check, Cond.code yX12_check cX12_check 5 (some .int), Cond.constant RX12 83 (65535), Cond.methodLink RX12 84 yX12_checked, Cond.static yX12_checked, Cond.code yX12_checked cX12_checked 4 (some .int), Cond.constant RX12 81 (32768), Cond.constant RX12 82 (65536)]
def wsX12_makeStream : List Cond := .code yX12_makeStream cX12_makeStream 7 (some (.array .int)) :: ((wsX12_makeStream_r1 ++ wsX12_makeStream_r2) ++ wsX120)
def wsX12_bodySize : List Cond := .code yX12_bodySize cX12_bodySize 2 (some .int) :: ([])
def wsX12_volumeCheck : List Cond := .code yX12_volumeCheck cX12_volumeCheck 4 (some .int) :: ([.methodLink RX12 122 yX12_check, .static yX12_check, .initialized RX12, .code yX12_check cX12_check 5 (some .int), .constant RX12 83 (65535), .methodLink RX12 84 yX12_checked, .static yX12_checked, .code yX12_checked cX12_checked 4 (some .int), .constant RX12 81 (32768), .constant RX12 82 (65536)])
def wsX12_makeVolume_r1 : List Cond := [Cond.arrayClass .int, Cond.methodLink RX12 143 yX12_bodySize, Cond.static yX12_bodySize, Cond.initialized RX12, Cond.code yX12_bodySize cX12_bodySize 2 (some .int), Cond.methodLink RX12 139 yX12_setWord, Cond.static yX12_setWord, Cond.code yX12_setWord cX12_setWord 3 none, Cond.methodLink RX12 78 yX12_factor, Cond.static yX12_factor, Cond.code yX12_factor cX12_factor 2 (some .int), Cond.methodLink RX12 67 yX12_inverseOf, Cond.static yX12_inverseOf, Cond.code yX12_inverseOf cX12_inverseOf 2 (some .int), Cond.methodLink RX12 63 yX12_times, Cond.static yX12_times, Cond.code yX12_times cX12_times 5 (some .int), Cond.methodLink RX12 146 yX12_volumeCheck, Cond.static yX12_volumeCheck, Cond.code yX12_volumeCheck cX12_volumeCheck 4 (some .int), Cond.methodLink RX12 122 yX12_check, Cond.static yX12_check, Cond.code yX12_check cX12_check 5 (some .int), Cond.constant RX12 83 (65535)]
def wsX12_makeVolume_r2 : List Cond := [Cond.methodLink RX12 84 yX12_checked, Cond.static yX12_checked, Cond.code yX12_checked cX12_checked 4 (some .int), Cond.constant RX12 81 (32768), Cond.constant RX12 82 (65536)]
def wsX12_makeVolume : List Cond := .code yX12_makeVolume cX12_makeVolume 9 (some (.array .int)) :: ((wsX12_makeVolume_r1 ++ wsX12_makeVolume_r2))
def wsX12_isAs : List Cond := .code yX12_isAs cX12_isAs 4 (some .boolean) :: ([.fieldLink RX12 28 "OssuaryVaultModel" "sizes" "[I", .fieldLink RX12 25 "OssuaryVaultModel" "volumes" "[[I"] ++ wsX120)
def wsX12_putVolumes_r1 : List Cond := [Cond.fieldLink RX12 28 "OssuaryVaultModel" "sizes" "[I", Cond.fieldLink RX12 25 "OssuaryVaultModel" "volumes" "[[I", Cond.methodLink RX12 149 yX12_makeVolume, Cond.static yX12_makeVolume, Cond.initialized RX12, Cond.code yX12_makeVolume cX12_makeVolume 9 (some (.array .int)), Cond.arrayClass .int, Cond.methodLink RX12 143 yX12_bodySize, Cond.static yX12_bodySize, Cond.code yX12_bodySize cX12_bodySize 2 (some .int), Cond.methodLink RX12 139 yX12_setWord, Cond.static yX12_setWord, Cond.code yX12_setWord cX12_setWord 3 none, Cond.methodLink RX12 78 yX12_factor, Cond.static yX12_factor, Cond.code yX12_factor cX12_factor 2 (some .int), Cond.methodLink RX12 67 yX12_inverseOf, Cond.static yX12_inverseOf, Cond.code yX12_inverseOf cX12_inverseOf 2 (some .int), Cond.methodLink RX12 63 yX12_times, Cond.static yX12_times, Cond.code yX12_times cX12_times 5 (some .int), Cond.methodLink RX12 146 yX12_volumeCheck, Cond.static yX12_volumeCheck]
def wsX12_putVolumes_r2 : List Cond := [Cond.code yX12_volumeCheck cX12_volumeCheck 4 (some .int), Cond.methodLink RX12 122 yX12_check, Cond.static yX12_check, Cond.code yX12_check cX12_check 5 (some .int), Cond.constant RX12 83 (65535), Cond.methodLink RX12 84 yX12_checked, Cond.static yX12_checked, Cond.code yX12_checked cX12_checked 4 (some .int), Cond.constant RX12 81 (32768), Cond.constant RX12 82 (65536), Cond.methodLink RX12 153 yX12_isAs, Cond.instanceMethod yX12_isAs, Cond.selects RX12 yX12_isAs yX12_isAs, Cond.code yX12_isAs cX12_isAs 4 (some .boolean)]
def wsX12_putVolumes : List Cond := .code yX12_putVolumes cX12_putVolumes 7 (some .int) :: ((wsX12_putVolumes_r1 ++ wsX12_putVolumes_r2) ++ wsX120)
def wsX12_build_r1 : List Cond := [Cond.fieldLink RX12 59 "OssuaryVaultModel" "thrown" "I", Cond.fieldLink RX12 164 "OssuaryVaultModel" "isOpen" "Z", Cond.methodLink RX12 71 yX12_isIn, Cond.static yX12_isIn, Cond.initialized RX12, Cond.code yX12_isIn cX12_isIn 3 (some .boolean), Cond.methodLink RX12 75 yX12_no, Cond.instanceMethod yX12_no, Cond.selects RX12 yX12_no yX12_no, Cond.code yX12_no cX12_no 2 (some .int), Cond.methodLink RX12 157 yX12_makeStream, Cond.instanceMethod yX12_makeStream, Cond.selects RX12 yX12_makeStream yX12_makeStream, Cond.code yX12_makeStream cX12_makeStream 7 (some (.array .int)), Cond.arrayClass .int, Cond.fieldLink RX12 95 "OssuaryVaultModel" "files" "I", Cond.fieldLink RX12 21 "OssuaryVaultModel" "contents" "[[I", Cond.fieldLink RX12 16 "OssuaryVaultModel" "lengths" "[I", Cond.fieldLink RX12 13 "OssuaryVaultModel" "keys" "[I", Cond.fieldLink RX12 46 "OssuaryVaultModel" "packed" "[I", Cond.methodLink RX12 98 arraycopyName, Cond.native arraycopyName, Cond.static arraycopyName, Cond.initialized "java/lang/System"]
def wsX12_build_r2 : List Cond := [Cond.methodLink RX12 135 yX12_streamSize, Cond.instanceMethod yX12_streamSize, Cond.selects RX12 yX12_streamSize yX12_streamSize, Cond.code yX12_streamSize cX12_streamSize 3 (some .int), Cond.methodLink RX12 130 Lib.Math.min.name, Cond.static Lib.Math.min.name, Cond.initialized "java/lang/Math", Cond.code Lib.Math.min.name Lib.Math.min.code 2 (some .int), Cond.methodLink RX12 126 yX12_pack, Cond.instanceMethod yX12_pack, Cond.selects RX12 yX12_pack yX12_pack, Cond.code yX12_pack cX12_pack 7 (some .int), Cond.methodLink RX12 87 yX12_isTriple, Cond.static yX12_isTriple, Cond.code yX12_isTriple cX12_isTriple 3 (some .boolean), Cond.methodLink RX12 139 yX12_setWord, Cond.static yX12_setWord, Cond.code yX12_setWord cX12_setWord 3 none, Cond.methodLink RX12 122 yX12_check, Cond.static yX12_check, Cond.code yX12_check cX12_check 5 (some .int), Cond.constant RX12 83 (65535), Cond.methodLink RX12 84 yX12_checked, Cond.static yX12_checked]
def wsX12_build_r3 : List Cond := [Cond.code yX12_checked cX12_checked 4 (some .int), Cond.constant RX12 81 (32768), Cond.constant RX12 82 (65536), Cond.methodLink RX12 161 yX12_putVolumes, Cond.instanceMethod yX12_putVolumes, Cond.selects RX12 yX12_putVolumes yX12_putVolumes, Cond.code yX12_putVolumes cX12_putVolumes 7 (some .int), Cond.fieldLink RX12 28 "OssuaryVaultModel" "sizes" "[I", Cond.fieldLink RX12 25 "OssuaryVaultModel" "volumes" "[[I", Cond.methodLink RX12 149 yX12_makeVolume, Cond.static yX12_makeVolume, Cond.code yX12_makeVolume cX12_makeVolume 9 (some (.array .int)), Cond.methodLink RX12 143 yX12_bodySize, Cond.static yX12_bodySize, Cond.code yX12_bodySize cX12_bodySize 2 (some .int), Cond.methodLink RX12 78 yX12_factor, Cond.static yX12_factor, Cond.code yX12_factor cX12_factor 2 (some .int), Cond.methodLink RX12 67 yX12_inverseOf, Cond.static yX12_inverseOf, Cond.code yX12_inverseOf cX12_inverseOf 2 (some .int), Cond.methodLink RX12 63 yX12_times, Cond.static yX12_times, Cond.code yX12_times cX12_times 5 (some .int)]
def wsX12_build_r4 : List Cond := [Cond.methodLink RX12 146 yX12_volumeCheck, Cond.static yX12_volumeCheck, Cond.code yX12_volumeCheck cX12_volumeCheck 4 (some .int), Cond.methodLink RX12 153 yX12_isAs, Cond.instanceMethod yX12_isAs, Cond.selects RX12 yX12_isAs yX12_isAs, Cond.code yX12_isAs cX12_isAs 4 (some .boolean)]
def wsX12_build : List Cond := .code yX12_build cX12_build 4 (some .int) :: ((wsX12_build_r1 ++ (wsX12_build_r2 ++ (wsX12_build_r3 ++ wsX12_build_r4))) ++ wsX120)
def wsX12_isPlace : List Cond := .code yX12_isPlace cX12_isPlace 1 (some .boolean) :: ([.methodLink RX12 71 yX12_isIn, .static yX12_isIn, .initialized RX12, .code yX12_isIn cX12_isIn 3 (some .boolean)])
def wsX12_isVolume : List Cond := .code yX12_isVolume cX12_isVolume 2 (some .boolean) :: ([.fieldLink RX12 28 "OssuaryVaultModel" "sizes" "[I", .methodLink RX12 168 yX12_isPlace, .static yX12_isPlace, .initialized RX12, .code yX12_isPlace cX12_isPlace 1 (some .boolean), .methodLink RX12 71 yX12_isIn, .static yX12_isIn, .code yX12_isIn cX12_isIn 3 (some .boolean)] ++ wsX120)
def wsX12_isByte : List Cond := .code yX12_isByte cX12_isByte 3 (some .boolean) :: ([.fieldLink RX12 28 "OssuaryVaultModel" "sizes" "[I", .methodLink RX12 171 yX12_isVolume, .instanceMethod yX12_isVolume, .selects RX12 yX12_isVolume yX12_isVolume, .initialized RX12, .code yX12_isVolume cX12_isVolume 2 (some .boolean), .methodLink RX12 168 yX12_isPlace, .static yX12_isPlace, .code yX12_isPlace cX12_isPlace 1 (some .boolean), .methodLink RX12 71 yX12_isIn, .static yX12_isIn, .code yX12_isIn cX12_isIn 3 (some .boolean)] ++ wsX120)
def wsX12_sizeOf : List Cond := .code yX12_sizeOf cX12_sizeOf 2 (some .int) :: ([.fieldLink RX12 59 "OssuaryVaultModel" "thrown" "I", .fieldLink RX12 28 "OssuaryVaultModel" "sizes" "[I", .methodLink RX12 168 yX12_isPlace, .static yX12_isPlace, .initialized RX12, .code yX12_isPlace cX12_isPlace 1 (some .boolean), .methodLink RX12 71 yX12_isIn, .static yX12_isIn, .code yX12_isIn cX12_isIn 3 (some .boolean), .methodLink RX12 75 yX12_no, .instanceMethod yX12_no, .selects RX12 yX12_no yX12_no, .code yX12_no cX12_no 2 (some .int)] ++ wsX120)
def wsX12_byteAt : List Cond := .code yX12_byteAt cX12_byteAt 3 (some .int) :: ([.fieldLink RX12 59 "OssuaryVaultModel" "thrown" "I", .fieldLink RX12 25 "OssuaryVaultModel" "volumes" "[[I", .methodLink RX12 174 yX12_isByte, .instanceMethod yX12_isByte, .selects RX12 yX12_isByte yX12_isByte, .initialized RX12, .code yX12_isByte cX12_isByte 3 (some .boolean), .fieldLink RX12 28 "OssuaryVaultModel" "sizes" "[I", .methodLink RX12 171 yX12_isVolume, .instanceMethod yX12_isVolume, .selects RX12 yX12_isVolume yX12_isVolume, .code yX12_isVolume cX12_isVolume 2 (some .boolean), .methodLink RX12 168 yX12_isPlace, .static yX12_isPlace, .code yX12_isPlace cX12_isPlace 1 (some .boolean), .methodLink RX12 71 yX12_isIn, .static yX12_isIn, .code yX12_isIn cX12_isIn 3 (some .boolean), .methodLink RX12 75 yX12_no, .instanceMethod yX12_no, .selects RX12 yX12_no yX12_no, .code yX12_no cX12_no 2 (some .int)] ++ wsX120)
def wsX12_spoil : List Cond := .code yX12_spoil cX12_spoil 4 (some .int) :: ([.fieldLink RX12 59 "OssuaryVaultModel" "thrown" "I", .fieldLink RX12 25 "OssuaryVaultModel" "volumes" "[[I", .methodLink RX12 174 yX12_isByte, .instanceMethod yX12_isByte, .selects RX12 yX12_isByte yX12_isByte, .initialized RX12, .code yX12_isByte cX12_isByte 3 (some .boolean), .fieldLink RX12 28 "OssuaryVaultModel" "sizes" "[I", .methodLink RX12 171 yX12_isVolume, .instanceMethod yX12_isVolume, .selects RX12 yX12_isVolume yX12_isVolume, .code yX12_isVolume cX12_isVolume 2 (some .boolean), .methodLink RX12 168 yX12_isPlace, .static yX12_isPlace, .code yX12_isPlace cX12_isPlace 1 (some .boolean), .methodLink RX12 71 yX12_isIn, .static yX12_isIn, .code yX12_isIn cX12_isIn 3 (some .boolean), .methodLink RX12 75 yX12_no, .instanceMethod yX12_no, .selects RX12 yX12_no yX12_no, .code yX12_no cX12_no 2 (some .int)] ++ wsX120)
def wsX12_sign_r1 : List Cond := [Cond.fieldLink RX12 59 "OssuaryVaultModel" "thrown" "I", Cond.fieldLink RX12 28 "OssuaryVaultModel" "sizes" "[I", Cond.fieldLink RX12 25 "OssuaryVaultModel" "volumes" "[[I", Cond.methodLink RX12 171 yX12_isVolume, Cond.instanceMethod yX12_isVolume, Cond.selects RX12 yX12_isVolume yX12_isVolume, Cond.initialized RX12, Cond.code yX12_isVolume cX12_isVolume 2 (some .boolean), Cond.methodLink RX12 168 yX12_isPlace, Cond.static yX12_isPlace, Cond.code yX12_isPlace cX12_isPlace 1 (some .boolean), Cond.methodLink RX12 71 yX12_isIn, Cond.static yX12_isIn, Cond.code yX12_isIn cX12_isIn 3 (some .boolean), Cond.methodLink RX12 75 yX12_no, Cond.instanceMethod yX12_no, Cond.selects RX12 yX12_no yX12_no, Cond.code yX12_no cX12_no 2 (some .int), Cond.methodLink RX12 146 yX12_volumeCheck, Cond.static yX12_volumeCheck, Cond.code yX12_volumeCheck cX12_volumeCheck 4 (some .int), Cond.methodLink RX12 122 yX12_check, Cond.static yX12_check, Cond.code yX12_check cX12_check 5 (some .int)]
def wsX12_sign_r2 : List Cond := [Cond.constant RX12 83 (65535), Cond.methodLink RX12 84 yX12_checked, Cond.static yX12_checked, Cond.code yX12_checked cX12_checked 4 (some .int), Cond.constant RX12 81 (32768), Cond.constant RX12 82 (65536), Cond.methodLink RX12 139 yX12_setWord, Cond.static yX12_setWord, Cond.code yX12_setWord cX12_setWord 3 none]
def wsX12_sign : List Cond := .code yX12_sign cX12_sign 3 (some .int) :: ((wsX12_sign_r1 ++ wsX12_sign_r2) ++ wsX120)
def wsX12_cut : List Cond := .code yX12_cut cX12_cut 4 (some .int) :: ([.fieldLink RX12 59 "OssuaryVaultModel" "thrown" "I", .fieldLink RX12 28 "OssuaryVaultModel" "sizes" "[I", .methodLink RX12 171 yX12_isVolume, .instanceMethod yX12_isVolume, .selects RX12 yX12_isVolume yX12_isVolume, .initialized RX12, .code yX12_isVolume cX12_isVolume 2 (some .boolean), .methodLink RX12 168 yX12_isPlace, .static yX12_isPlace, .code yX12_isPlace cX12_isPlace 1 (some .boolean), .methodLink RX12 71 yX12_isIn, .static yX12_isIn, .code yX12_isIn cX12_isIn 3 (some .boolean), .methodLink RX12 75 yX12_no, .instanceMethod yX12_no, .selects RX12 yX12_no yX12_no, .code yX12_no cX12_no 2 (some .int)] ++ wsX120)
def wsX12_lose : List Cond := .code yX12_lose cX12_lose 3 (some .boolean) :: ([.fieldLink RX12 59 "OssuaryVaultModel" "thrown" "I", .fieldLink RX12 28 "OssuaryVaultModel" "sizes" "[I", .methodLink RX12 168 yX12_isPlace, .static yX12_isPlace, .initialized RX12, .code yX12_isPlace cX12_isPlace 1 (some .boolean), .methodLink RX12 71 yX12_isIn, .static yX12_isIn, .code yX12_isIn cX12_isIn 3 (some .boolean), .methodLink RX12 178 yX12_isNot, .instanceMethod yX12_isNot, .selects RX12 yX12_isNot yX12_isNot, .code yX12_isNot cX12_isNot 2 (some .boolean)] ++ wsX120)
def wsX12_exchange : List Cond := .code yX12_exchange cX12_exchange 5 (some .int) :: ([.fieldLink RX12 59 "OssuaryVaultModel" "thrown" "I", .fieldLink RX12 25 "OssuaryVaultModel" "volumes" "[[I", .fieldLink RX12 28 "OssuaryVaultModel" "sizes" "[I", .methodLink RX12 168 yX12_isPlace, .static yX12_isPlace, .initialized RX12, .code yX12_isPlace cX12_isPlace 1 (some .boolean), .methodLink RX12 71 yX12_isIn, .static yX12_isIn, .code yX12_isIn cX12_isIn 3 (some .boolean), .methodLink RX12 75 yX12_no, .instanceMethod yX12_no, .selects RX12 yX12_no yX12_no, .code yX12_no cX12_no 2 (some .int)] ++ wsX120)
def wsX12_copy : List Cond := .code yX12_copy cX12_copy 5 (some .int) :: ([.fieldLink RX12 59 "OssuaryVaultModel" "thrown" "I", .fieldLink RX12 28 "OssuaryVaultModel" "sizes" "[I", .arrayClass .int, .fieldLink RX12 25 "OssuaryVaultModel" "volumes" "[[I", .methodLink RX12 98 arraycopyName, .native arraycopyName, .static arraycopyName, .initialized "java/lang/System", .methodLink RX12 171 yX12_isVolume, .instanceMethod yX12_isVolume, .selects RX12 yX12_isVolume yX12_isVolume, .initialized RX12, .code yX12_isVolume cX12_isVolume 2 (some .boolean), .methodLink RX12 168 yX12_isPlace, .static yX12_isPlace, .code yX12_isPlace cX12_isPlace 1 (some .boolean), .methodLink RX12 71 yX12_isIn, .static yX12_isIn, .code yX12_isIn cX12_isIn 3 (some .boolean), .methodLink RX12 75 yX12_no, .instanceMethod yX12_no, .selects RX12 yX12_no yX12_no, .code yX12_no cX12_no 2 (some .int)] ++ wsX120)
def wsX12_isSoundNow : List Cond := .code yX12_isSoundNow cX12_isSoundNow 5 (some .boolean) :: ([.fieldLink RX12 25 "OssuaryVaultModel" "volumes" "[[I", .fieldLink RX12 28 "OssuaryVaultModel" "sizes" "[I", .methodLink RX12 71 yX12_isIn, .static yX12_isIn, .initialized RX12, .code yX12_isIn cX12_isIn 3 (some .boolean), .methodLink RX12 181 yX12_word, .static yX12_word, .code yX12_word cX12_word 2 (some .int), .methodLink RX12 143 yX12_bodySize, .static yX12_bodySize, .code yX12_bodySize cX12_bodySize 2 (some .int), .methodLink RX12 146 yX12_volumeCheck, .static yX12_volumeCheck, .code yX12_volumeCheck cX12_volumeCheck 4 (some .int), .methodLink RX12 122 yX12_check, .static yX12_check, .code yX12_check cX12_check 5 (some .int), .constant RX12 83 (65535), .methodLink RX12 84 yX12_checked, .static yX12_checked, .code yX12_checked cX12_checked 4 (some .int), .constant RX12 81 (32768), .constant RX12 82 (65536)] ++ wsX120)
def wsX12_look_r1 : List Cond := [Cond.fieldLink RX12 184 "OssuaryVaultModel" "leader" "I", Cond.fieldLink RX12 187 "OssuaryVaultModel" "present" "I", Cond.fieldLink RX12 52 "OssuaryVaultModel" "sound" "[Z", Cond.fieldLink RX12 56 "OssuaryVaultModel" "numbers" "[I", Cond.fieldLink RX12 25 "OssuaryVaultModel" "volumes" "[[I", Cond.methodLink RX12 190 yX12_isSoundNow, Cond.instanceMethod yX12_isSoundNow, Cond.selects RX12 yX12_isSoundNow yX12_isSoundNow, Cond.initialized RX12, Cond.code yX12_isSoundNow cX12_isSoundNow 5 (some .boolean), Cond.fieldLink RX12 28 "OssuaryVaultModel" "sizes" "[I", Cond.methodLink RX12 71 yX12_isIn, Cond.static yX12_isIn, Cond.code yX12_isIn cX12_isIn 3 (some .boolean), Cond.methodLink RX12 181 yX12_word, Cond.static yX12_word, Cond.code yX12_word cX12_word 2 (some .int), Cond.methodLink RX12 143 yX12_bodySize, Cond.static yX12_bodySize, Cond.code yX12_bodySize cX12_bodySize 2 (some .int), Cond.methodLink RX12 146 yX12_volumeCheck, Cond.static yX12_volumeCheck, Cond.code yX12_volumeCheck cX12_volumeCheck 4 (some .int), Cond.methodLink RX12 122 yX12_check]
def wsX12_look_r2 : List Cond := [Cond.static yX12_check, Cond.code yX12_check cX12_check 5 (some .int), Cond.constant RX12 83 (65535), Cond.methodLink RX12 84 yX12_checked, Cond.static yX12_checked, Cond.code yX12_checked cX12_checked 4 (some .int), Cond.constant RX12 81 (32768), Cond.constant RX12 82 (65536)]
def wsX12_look : List Cond := .code yX12_look cX12_look 7 none :: ((wsX12_look_r1 ++ wsX12_look_r2) ++ wsX120)
def wsX12_isSound_r1 : List Cond := [Cond.fieldLink RX12 59 "OssuaryVaultModel" "thrown" "I", Cond.methodLink RX12 168 yX12_isPlace, Cond.static yX12_isPlace, Cond.initialized RX12, Cond.code yX12_isPlace cX12_isPlace 1 (some .boolean), Cond.methodLink RX12 71 yX12_isIn, Cond.static yX12_isIn, Cond.code yX12_isIn cX12_isIn 3 (some .boolean), Cond.methodLink RX12 190 yX12_isSoundNow, Cond.instanceMethod yX12_isSoundNow, Cond.selects RX12 yX12_isSoundNow yX12_isSoundNow, Cond.code yX12_isSoundNow cX12_isSoundNow 5 (some .boolean), Cond.fieldLink RX12 25 "OssuaryVaultModel" "volumes" "[[I", Cond.fieldLink RX12 28 "OssuaryVaultModel" "sizes" "[I", Cond.methodLink RX12 181 yX12_word, Cond.static yX12_word, Cond.code yX12_word cX12_word 2 (some .int), Cond.methodLink RX12 143 yX12_bodySize, Cond.static yX12_bodySize, Cond.code yX12_bodySize cX12_bodySize 2 (some .int), Cond.methodLink RX12 146 yX12_volumeCheck, Cond.static yX12_volumeCheck, Cond.code yX12_volumeCheck cX12_volumeCheck 4 (some .int), Cond.methodLink RX12 122 yX12_check]
def wsX12_isSound_r2 : List Cond := [Cond.static yX12_check, Cond.code yX12_check cX12_check 5 (some .int), Cond.constant RX12 83 (65535), Cond.methodLink RX12 84 yX12_checked, Cond.static yX12_checked, Cond.code yX12_checked cX12_checked 4 (some .int), Cond.constant RX12 81 (32768), Cond.constant RX12 82 (65536), Cond.methodLink RX12 178 yX12_isNot, Cond.instanceMethod yX12_isNot, Cond.selects RX12 yX12_isNot yX12_isNot, Cond.code yX12_isNot cX12_isNot 2 (some .boolean)]
def wsX12_isSound : List Cond := .code yX12_isSound cX12_isSound 2 (some .boolean) :: ((wsX12_isSound_r1 ++ wsX12_isSound_r2) ++ wsX120)
def wsX12_leader_r1 : List Cond := [Cond.fieldLink RX12 184 "OssuaryVaultModel" "leader" "I", Cond.methodLink RX12 193 yX12_look, Cond.instanceMethod yX12_look, Cond.selects RX12 yX12_look yX12_look, Cond.initialized RX12, Cond.code yX12_look cX12_look 7 none, Cond.fieldLink RX12 187 "OssuaryVaultModel" "present" "I", Cond.fieldLink RX12 52 "OssuaryVaultModel" "sound" "[Z", Cond.fieldLink RX12 56 "OssuaryVaultModel" "numbers" "[I", Cond.fieldLink RX12 25 "OssuaryVaultModel" "volumes" "[[I", Cond.methodLink RX12 190 yX12_isSoundNow, Cond.instanceMethod yX12_isSoundNow, Cond.selects RX12 yX12_isSoundNow yX12_isSoundNow, Cond.code yX12_isSoundNow cX12_isSoundNow 5 (some .boolean), Cond.fieldLink RX12 28 "OssuaryVaultModel" "sizes" "[I", Cond.methodLink RX12 71 yX12_isIn, Cond.static yX12_isIn, Cond.code yX12_isIn cX12_isIn 3 (some .boolean), Cond.methodLink RX12 181 yX12_word, Cond.static yX12_word, Cond.code yX12_word cX12_word 2 (some .int), Cond.methodLink RX12 143 yX12_bodySize, Cond.static yX12_bodySize, Cond.code yX12_bodySize cX12_bodySize 2 (some .int)]
def wsX12_leader_r2 : List Cond := [Cond.methodLink RX12 146 yX12_volumeCheck, Cond.static yX12_volumeCheck, Cond.code yX12_volumeCheck cX12_volumeCheck 4 (some .int), Cond.methodLink RX12 122 yX12_check, Cond.static yX12_check, Cond.code yX12_check cX12_check 5 (some .int), Cond.constant RX12 83 (65535), Cond.methodLink RX12 84 yX12_checked, Cond.static yX12_checked, Cond.code yX12_checked cX12_checked 4 (some .int), Cond.constant RX12 81 (32768), Cond.constant RX12 82 (65536), Cond.methodLink RX12 115 yX12_ok, Cond.instanceMethod yX12_ok, Cond.selects RX12 yX12_ok yX12_ok, Cond.code yX12_ok cX12_ok 2 (some .int), Cond.fieldLink RX12 59 "OssuaryVaultModel" "thrown" "I"]
def wsX12_leader : List Cond := .code yX12_leader cX12_leader 1 (some .int) :: ((wsX12_leader_r1 ++ wsX12_leader_r2) ++ wsX120)
def wsX12_present_r1 : List Cond := [Cond.fieldLink RX12 187 "OssuaryVaultModel" "present" "I", Cond.methodLink RX12 193 yX12_look, Cond.instanceMethod yX12_look, Cond.selects RX12 yX12_look yX12_look, Cond.initialized RX12, Cond.code yX12_look cX12_look 7 none, Cond.fieldLink RX12 184 "OssuaryVaultModel" "leader" "I", Cond.fieldLink RX12 52 "OssuaryVaultModel" "sound" "[Z", Cond.fieldLink RX12 56 "OssuaryVaultModel" "numbers" "[I", Cond.fieldLink RX12 25 "OssuaryVaultModel" "volumes" "[[I", Cond.methodLink RX12 190 yX12_isSoundNow, Cond.instanceMethod yX12_isSoundNow, Cond.selects RX12 yX12_isSoundNow yX12_isSoundNow, Cond.code yX12_isSoundNow cX12_isSoundNow 5 (some .boolean), Cond.fieldLink RX12 28 "OssuaryVaultModel" "sizes" "[I", Cond.methodLink RX12 71 yX12_isIn, Cond.static yX12_isIn, Cond.code yX12_isIn cX12_isIn 3 (some .boolean), Cond.methodLink RX12 181 yX12_word, Cond.static yX12_word, Cond.code yX12_word cX12_word 2 (some .int), Cond.methodLink RX12 143 yX12_bodySize, Cond.static yX12_bodySize, Cond.code yX12_bodySize cX12_bodySize 2 (some .int)]
def wsX12_present_r2 : List Cond := [Cond.methodLink RX12 146 yX12_volumeCheck, Cond.static yX12_volumeCheck, Cond.code yX12_volumeCheck cX12_volumeCheck 4 (some .int), Cond.methodLink RX12 122 yX12_check, Cond.static yX12_check, Cond.code yX12_check cX12_check 5 (some .int), Cond.constant RX12 83 (65535), Cond.methodLink RX12 84 yX12_checked, Cond.static yX12_checked, Cond.code yX12_checked cX12_checked 4 (some .int), Cond.constant RX12 81 (32768), Cond.constant RX12 82 (65536), Cond.methodLink RX12 115 yX12_ok, Cond.instanceMethod yX12_ok, Cond.selects RX12 yX12_ok yX12_ok, Cond.code yX12_ok cX12_ok 2 (some .int), Cond.fieldLink RX12 59 "OssuaryVaultModel" "thrown" "I"]
def wsX12_present : List Cond := .code yX12_present cX12_present 1 (some .int) :: ((wsX12_present_r1 ++ wsX12_present_r2) ++ wsX120)
def wsX12_numberOf_r1 : List Cond := [Cond.fieldLink RX12 59 "OssuaryVaultModel" "thrown" "I", Cond.fieldLink RX12 56 "OssuaryVaultModel" "numbers" "[I", Cond.methodLink RX12 168 yX12_isPlace, Cond.static yX12_isPlace, Cond.initialized RX12, Cond.code yX12_isPlace cX12_isPlace 1 (some .boolean), Cond.methodLink RX12 71 yX12_isIn, Cond.static yX12_isIn, Cond.code yX12_isIn cX12_isIn 3 (some .boolean), Cond.methodLink RX12 75 yX12_no, Cond.instanceMethod yX12_no, Cond.selects RX12 yX12_no yX12_no, Cond.code yX12_no cX12_no 2 (some .int), Cond.methodLink RX12 193 yX12_look, Cond.instanceMethod yX12_look, Cond.selects RX12 yX12_look yX12_look, Cond.code yX12_look cX12_look 7 none, Cond.fieldLink RX12 184 "OssuaryVaultModel" "leader" "I", Cond.fieldLink RX12 187 "OssuaryVaultModel" "present" "I", Cond.fieldLink RX12 52 "OssuaryVaultModel" "sound" "[Z", Cond.fieldLink RX12 25 "OssuaryVaultModel" "volumes" "[[I", Cond.methodLink RX12 190 yX12_isSoundNow, Cond.instanceMethod yX12_isSoundNow, Cond.selects RX12 yX12_isSoundNow yX12_isSoundNow]
def wsX12_numberOf_r2 : List Cond := [Cond.code yX12_isSoundNow cX12_isSoundNow 5 (some .boolean), Cond.fieldLink RX12 28 "OssuaryVaultModel" "sizes" "[I", Cond.methodLink RX12 181 yX12_word, Cond.static yX12_word, Cond.code yX12_word cX12_word 2 (some .int), Cond.methodLink RX12 143 yX12_bodySize, Cond.static yX12_bodySize, Cond.code yX12_bodySize cX12_bodySize 2 (some .int), Cond.methodLink RX12 146 yX12_volumeCheck, Cond.static yX12_volumeCheck, Cond.code yX12_volumeCheck cX12_volumeCheck 4 (some .int), Cond.methodLink RX12 122 yX12_check, Cond.static yX12_check, Cond.code yX12_check cX12_check 5 (some .int), Cond.constant RX12 83 (65535), Cond.methodLink RX12 84 yX12_checked, Cond.static yX12_checked, Cond.code yX12_checked cX12_checked 4 (some .int), Cond.constant RX12 81 (32768), Cond.constant RX12 82 (65536)]
def wsX12_numberOf : List Cond := .code yX12_numberOf cX12_numberOf 2 (some .int) :: ((wsX12_numberOf_r1 ++ wsX12_numberOf_r2) ++ wsX120)
def wsX12_spareNow : List Cond := .code yX12_spareNow cX12_spareNow 1 (some .int) :: ([.fieldLink RX12 184 "OssuaryVaultModel" "leader" "I", .fieldLink RX12 187 "OssuaryVaultModel" "present" "I", .fieldLink RX12 25 "OssuaryVaultModel" "volumes" "[[I"] ++ wsX120)
def wsX12_spare_r1 : List Cond := [Cond.methodLink RX12 193 yX12_look, Cond.instanceMethod yX12_look, Cond.selects RX12 yX12_look yX12_look, Cond.initialized RX12, Cond.code yX12_look cX12_look 7 none, Cond.fieldLink RX12 184 "OssuaryVaultModel" "leader" "I", Cond.fieldLink RX12 187 "OssuaryVaultModel" "present" "I", Cond.fieldLink RX12 52 "OssuaryVaultModel" "sound" "[Z", Cond.fieldLink RX12 56 "OssuaryVaultModel" "numbers" "[I", Cond.fieldLink RX12 25 "OssuaryVaultModel" "volumes" "[[I", Cond.methodLink RX12 190 yX12_isSoundNow, Cond.instanceMethod yX12_isSoundNow, Cond.selects RX12 yX12_isSoundNow yX12_isSoundNow, Cond.code yX12_isSoundNow cX12_isSoundNow 5 (some .boolean), Cond.fieldLink RX12 28 "OssuaryVaultModel" "sizes" "[I", Cond.methodLink RX12 71 yX12_isIn, Cond.static yX12_isIn, Cond.code yX12_isIn cX12_isIn 3 (some .boolean), Cond.methodLink RX12 181 yX12_word, Cond.static yX12_word, Cond.code yX12_word cX12_word 2 (some .int), Cond.methodLink RX12 143 yX12_bodySize, Cond.static yX12_bodySize, Cond.code yX12_bodySize cX12_bodySize 2 (some .int)]
def wsX12_spare_r2 : List Cond := [Cond.methodLink RX12 146 yX12_volumeCheck, Cond.static yX12_volumeCheck, Cond.code yX12_volumeCheck cX12_volumeCheck 4 (some .int), Cond.methodLink RX12 122 yX12_check, Cond.static yX12_check, Cond.code yX12_check cX12_check 5 (some .int), Cond.constant RX12 83 (65535), Cond.methodLink RX12 84 yX12_checked, Cond.static yX12_checked, Cond.code yX12_checked cX12_checked 4 (some .int), Cond.constant RX12 81 (32768), Cond.constant RX12 82 (65536), Cond.methodLink RX12 196 yX12_spareNow, Cond.instanceMethod yX12_spareNow, Cond.selects RX12 yX12_spareNow yX12_spareNow, Cond.code yX12_spareNow cX12_spareNow 1 (some .int), Cond.methodLink RX12 115 yX12_ok, Cond.instanceMethod yX12_ok, Cond.selects RX12 yX12_ok yX12_ok, Cond.code yX12_ok cX12_ok 2 (some .int), Cond.fieldLink RX12 59 "OssuaryVaultModel" "thrown" "I"]
def wsX12_spare : List Cond := .code yX12_spare cX12_spare 1 (some .int) :: ((wsX12_spare_r1 ++ wsX12_spare_r2) ++ wsX120)
def wsX12_repair_r1 : List Cond := [Cond.fieldLink RX12 59 "OssuaryVaultModel" "thrown" "I", Cond.fieldLink RX12 164 "OssuaryVaultModel" "isOpen" "Z", Cond.fieldLink RX12 31 "OssuaryVaultModel" "stream" "[I", Cond.fieldLink RX12 199 "OssuaryVaultModel" "openedData" "I", Cond.fieldLink RX12 202 "OssuaryVaultModel" "openedParity" "I", Cond.methodLink RX12 161 yX12_putVolumes, Cond.instanceMethod yX12_putVolumes, Cond.selects RX12 yX12_putVolumes yX12_putVolumes, Cond.initialized RX12, Cond.code yX12_putVolumes cX12_putVolumes 7 (some .int), Cond.fieldLink RX12 28 "OssuaryVaultModel" "sizes" "[I", Cond.fieldLink RX12 25 "OssuaryVaultModel" "volumes" "[[I", Cond.methodLink RX12 149 yX12_makeVolume, Cond.static yX12_makeVolume, Cond.code yX12_makeVolume cX12_makeVolume 9 (some (.array .int)), Cond.arrayClass .int, Cond.methodLink RX12 143 yX12_bodySize, Cond.static yX12_bodySize, Cond.code yX12_bodySize cX12_bodySize 2 (some .int), Cond.methodLink RX12 139 yX12_setWord, Cond.static yX12_setWord, Cond.code yX12_setWord cX12_setWord 3 none, Cond.methodLink RX12 78 yX12_factor, Cond.static yX12_factor]
def wsX12_repair_r2 : List Cond := [Cond.code yX12_factor cX12_factor 2 (some .int), Cond.methodLink RX12 67 yX12_inverseOf, Cond.static yX12_inverseOf, Cond.code yX12_inverseOf cX12_inverseOf 2 (some .int), Cond.methodLink RX12 63 yX12_times, Cond.static yX12_times, Cond.code yX12_times cX12_times 5 (some .int), Cond.methodLink RX12 146 yX12_volumeCheck, Cond.static yX12_volumeCheck, Cond.code yX12_volumeCheck cX12_volumeCheck 4 (some .int), Cond.methodLink RX12 122 yX12_check, Cond.static yX12_check, Cond.code yX12_check cX12_check 5 (some .int), Cond.constant RX12 83 (65535), Cond.methodLink RX12 84 yX12_checked, Cond.static yX12_checked, Cond.code yX12_checked cX12_checked 4 (some .int), Cond.constant RX12 81 (32768), Cond.constant RX12 82 (65536), Cond.methodLink RX12 153 yX12_isAs, Cond.instanceMethod yX12_isAs, Cond.selects RX12 yX12_isAs yX12_isAs, Cond.code yX12_isAs cX12_isAs 4 (some .boolean), Cond.methodLink RX12 75 yX12_no]
def wsX12_repair_r3 : List Cond := [Cond.instanceMethod yX12_no, Cond.selects RX12 yX12_no yX12_no, Cond.code yX12_no cX12_no 2 (some .int)]
def wsX12_repair : List Cond := .code yX12_repair cX12_repair 1 (some .int) :: ((wsX12_repair_r1 ++ (wsX12_repair_r2 ++ wsX12_repair_r3)) ++ wsX120)
def wsX12_placeOfNumber : List Cond := .code yX12_placeOfNumber cX12_placeOfNumber 3 (some .int) :: ([.fieldLink RX12 56 "OssuaryVaultModel" "numbers" "[I"] ++ wsX120)
def wsX12_addTimes : List Cond := .code yX12_addTimes cX12_addTimes 4 none :: ([.methodLink RX12 63 yX12_times, .static yX12_times, .initialized RX12, .code yX12_times cX12_times 5 (some .int)])
def wsX12_swap : List Cond := .code yX12_swap cX12_swap 4 none :: ([])
def wsX12_multiply : List Cond := .code yX12_multiply cX12_multiply 3 none :: ([.methodLink RX12 63 yX12_times, .static yX12_times, .initialized RX12, .code yX12_times cX12_times 5 (some .int)])
def wsX12_workOut_r1 : List Cond := [Cond.arrayClass .int, Cond.classLink RX12 19 "[[I", Cond.fieldLink RX12 25 "OssuaryVaultModel" "volumes" "[[I", Cond.methodLink RX12 205 yX12_placeOfNumber, Cond.instanceMethod yX12_placeOfNumber, Cond.selects RX12 yX12_placeOfNumber yX12_placeOfNumber, Cond.initialized RX12, Cond.code yX12_placeOfNumber cX12_placeOfNumber 3 (some .int), Cond.fieldLink RX12 56 "OssuaryVaultModel" "numbers" "[I", Cond.methodLink RX12 78 yX12_factor, Cond.static yX12_factor, Cond.code yX12_factor cX12_factor 2 (some .int), Cond.methodLink RX12 67 yX12_inverseOf, Cond.static yX12_inverseOf, Cond.code yX12_inverseOf cX12_inverseOf 2 (some .int), Cond.methodLink RX12 63 yX12_times, Cond.static yX12_times, Cond.code yX12_times cX12_times 5 (some .int), Cond.methodLink RX12 208 yX12_addTimes, Cond.static yX12_addTimes, Cond.code yX12_addTimes cX12_addTimes 4 none, Cond.methodLink RX12 212 yX12_swap, Cond.static yX12_swap, Cond.code yX12_swap cX12_swap 4 none]
def wsX12_workOut_r2 : List Cond := [Cond.methodLink RX12 216 yX12_multiply, Cond.static yX12_multiply, Cond.code yX12_multiply cX12_multiply 3 none]
def wsX12_workOut : List Cond := .code yX12_workOut cX12_workOut 15 (some .int) :: ((wsX12_workOut_r1 ++ wsX12_workOut_r2) ++ wsX120)
def wsX12_indexPlace : List Cond := .code yX12_indexPlace cX12_indexPlace 3 (some .int) :: ([.fieldLink RX12 31 "OssuaryVaultModel" "stream" "[I", .methodLink RX12 181 yX12_word, .static yX12_word, .initialized RX12, .code yX12_word cX12_word 2 (some .int), .methodLink RX12 122 yX12_check, .static yX12_check, .code yX12_check cX12_check 5 (some .int), .constant RX12 83 (65535), .methodLink RX12 84 yX12_checked, .static yX12_checked, .code yX12_checked cX12_checked 4 (some .int), .constant RX12 81 (32768), .constant RX12 82 (65536)] ++ wsX120)
def wsX12_recordSize : List Cond := .code yX12_recordSize cX12_recordSize 3 (some .int) :: ([.fieldLink RX12 31 "OssuaryVaultModel" "stream" "[I", .methodLink RX12 181 yX12_word, .static yX12_word, .initialized RX12, .code yX12_word cX12_word 2 (some .int)] ++ wsX120)
def wsX12_read_r1 : List Cond := [Cond.fieldLink RX12 37 "OssuaryVaultModel" "placesFound" "[I", Cond.fieldLink RX12 31 "OssuaryVaultModel" "stream" "[I", Cond.fieldLink RX12 34 "OssuaryVaultModel" "keysFound" "[I", Cond.fieldLink RX12 40 "OssuaryVaultModel" "lengthsTold" "[I", Cond.fieldLink RX12 49 "OssuaryVaultModel" "content" "[I", Cond.methodLink RX12 240 yX12_recordSize, Cond.instanceMethod yX12_recordSize, Cond.selects RX12 yX12_recordSize yX12_recordSize, Cond.initialized RX12, Cond.code yX12_recordSize cX12_recordSize 3 (some .int), Cond.methodLink RX12 181 yX12_word, Cond.static yX12_word, Cond.code yX12_word cX12_word 2 (some .int), Cond.methodLink RX12 246 yX12_unpack, Cond.instanceMethod yX12_unpack, Cond.selects RX12 yX12_unpack yX12_unpack, Cond.code yX12_unpack cX12_unpack 11 (some .int), Cond.methodLink RX12 122 yX12_check, Cond.static yX12_check, Cond.code yX12_check cX12_check 5 (some .int), Cond.constant RX12 83 (65535), Cond.methodLink RX12 84 yX12_checked, Cond.static yX12_checked, Cond.code yX12_checked cX12_checked 4 (some .int)]
def wsX12_read_r2 : List Cond := [Cond.constant RX12 81 (32768), Cond.constant RX12 82 (65536)]
def wsX12_read : List Cond := .code yX12_read cX12_read 5 (some .int) :: ((wsX12_read_r1 ++ wsX12_read_r2) ++ wsX120)
def wsX12_add_r1 : List Cond := [Cond.fieldLink RX12 34 "OssuaryVaultModel" "keysFound" "[I", Cond.fieldLink RX12 233 "OssuaryVaultModel" "found" "I", Cond.fieldLink RX12 37 "OssuaryVaultModel" "placesFound" "[I", Cond.fieldLink RX12 40 "OssuaryVaultModel" "lengthsTold" "[I", Cond.fieldLink RX12 43 "OssuaryVaultModel" "lengthsFound" "[I", Cond.methodLink RX12 243 yX12_read, Cond.instanceMethod yX12_read, Cond.selects RX12 yX12_read yX12_read, Cond.initialized RX12, Cond.code yX12_read cX12_read 5 (some .int), Cond.fieldLink RX12 31 "OssuaryVaultModel" "stream" "[I", Cond.fieldLink RX12 49 "OssuaryVaultModel" "content" "[I", Cond.methodLink RX12 240 yX12_recordSize, Cond.instanceMethod yX12_recordSize, Cond.selects RX12 yX12_recordSize yX12_recordSize, Cond.code yX12_recordSize cX12_recordSize 3 (some .int), Cond.methodLink RX12 181 yX12_word, Cond.static yX12_word, Cond.code yX12_word cX12_word 2 (some .int), Cond.methodLink RX12 246 yX12_unpack, Cond.instanceMethod yX12_unpack, Cond.selects RX12 yX12_unpack yX12_unpack, Cond.code yX12_unpack cX12_unpack 11 (some .int), Cond.methodLink RX12 122 yX12_check]
def wsX12_add_r2 : List Cond := [Cond.static yX12_check, Cond.code yX12_check cX12_check 5 (some .int), Cond.constant RX12 83 (65535), Cond.methodLink RX12 84 yX12_checked, Cond.static yX12_checked, Cond.code yX12_checked cX12_checked 4 (some .int), Cond.constant RX12 81 (32768), Cond.constant RX12 82 (65536)]
def wsX12_add : List Cond := .code yX12_add cX12_add 4 none :: ((wsX12_add_r1 ++ wsX12_add_r2) ++ wsX120)
def wsX12_findFiles_r1 : List Cond := [Cond.fieldLink RX12 230 "OssuaryVaultModel" "isIndexed" "Z", Cond.fieldLink RX12 233 "OssuaryVaultModel" "found" "I", Cond.fieldLink RX12 31 "OssuaryVaultModel" "stream" "[I", Cond.methodLink RX12 227 yX12_indexPlace, Cond.instanceMethod yX12_indexPlace, Cond.selects RX12 yX12_indexPlace yX12_indexPlace, Cond.initialized RX12, Cond.code yX12_indexPlace cX12_indexPlace 3 (some .int), Cond.methodLink RX12 181 yX12_word, Cond.static yX12_word, Cond.code yX12_word cX12_word 2 (some .int), Cond.methodLink RX12 122 yX12_check, Cond.static yX12_check, Cond.code yX12_check cX12_check 5 (some .int), Cond.constant RX12 83 (65535), Cond.methodLink RX12 84 yX12_checked, Cond.static yX12_checked, Cond.code yX12_checked cX12_checked 4 (some .int), Cond.constant RX12 81 (32768), Cond.constant RX12 82 (65536), Cond.methodLink RX12 236 yX12_add, Cond.instanceMethod yX12_add, Cond.selects RX12 yX12_add yX12_add, Cond.code yX12_add cX12_add 4 none]
def wsX12_findFiles_r2 : List Cond := [Cond.fieldLink RX12 34 "OssuaryVaultModel" "keysFound" "[I", Cond.fieldLink RX12 37 "OssuaryVaultModel" "placesFound" "[I", Cond.fieldLink RX12 40 "OssuaryVaultModel" "lengthsTold" "[I", Cond.fieldLink RX12 43 "OssuaryVaultModel" "lengthsFound" "[I", Cond.methodLink RX12 243 yX12_read, Cond.instanceMethod yX12_read, Cond.selects RX12 yX12_read yX12_read, Cond.code yX12_read cX12_read 5 (some .int), Cond.fieldLink RX12 49 "OssuaryVaultModel" "content" "[I", Cond.methodLink RX12 240 yX12_recordSize, Cond.instanceMethod yX12_recordSize, Cond.selects RX12 yX12_recordSize yX12_recordSize, Cond.code yX12_recordSize cX12_recordSize 3 (some .int), Cond.methodLink RX12 246 yX12_unpack, Cond.instanceMethod yX12_unpack, Cond.selects RX12 yX12_unpack yX12_unpack, Cond.code yX12_unpack cX12_unpack 11 (some .int)]
def wsX12_findFiles : List Cond := .code yX12_findFiles cX12_findFiles 4 none :: ((wsX12_findFiles_r1 ++ wsX12_findFiles_r2) ++ wsX120)
def wsX12_open_r1 : List Cond := [Cond.fieldLink RX12 59 "OssuaryVaultModel" "thrown" "I", Cond.fieldLink RX12 164 "OssuaryVaultModel" "isOpen" "Z", Cond.fieldLink RX12 25 "OssuaryVaultModel" "volumes" "[[I", Cond.fieldLink RX12 184 "OssuaryVaultModel" "leader" "I", Cond.classLink RX12 24 "[I", Cond.arrayClass .int, Cond.methodLink RX12 98 arraycopyName, Cond.native arraycopyName, Cond.static arraycopyName, Cond.initialized "java/lang/System", Cond.fieldLink RX12 199 "OssuaryVaultModel" "openedData" "I", Cond.fieldLink RX12 202 "OssuaryVaultModel" "openedParity" "I", Cond.fieldLink RX12 31 "OssuaryVaultModel" "stream" "[I", Cond.methodLink RX12 193 yX12_look, Cond.instanceMethod yX12_look, Cond.selects RX12 yX12_look yX12_look, Cond.initialized RX12, Cond.code yX12_look cX12_look 7 none, Cond.fieldLink RX12 187 "OssuaryVaultModel" "present" "I", Cond.fieldLink RX12 52 "OssuaryVaultModel" "sound" "[Z", Cond.fieldLink RX12 56 "OssuaryVaultModel" "numbers" "[I", Cond.methodLink RX12 190 yX12_isSoundNow, Cond.instanceMethod yX12_isSoundNow, Cond.selects RX12 yX12_isSoundNow yX12_isSoundNow]
def wsX12_open_r2 : List Cond := [Cond.code yX12_isSoundNow cX12_isSoundNow 5 (some .boolean), Cond.fieldLink RX12 28 "OssuaryVaultModel" "sizes" "[I", Cond.methodLink RX12 71 yX12_isIn, Cond.static yX12_isIn, Cond.code yX12_isIn cX12_isIn 3 (some .boolean), Cond.methodLink RX12 181 yX12_word, Cond.static yX12_word, Cond.code yX12_word cX12_word 2 (some .int), Cond.methodLink RX12 143 yX12_bodySize, Cond.static yX12_bodySize, Cond.code yX12_bodySize cX12_bodySize 2 (some .int), Cond.methodLink RX12 146 yX12_volumeCheck, Cond.static yX12_volumeCheck, Cond.code yX12_volumeCheck cX12_volumeCheck 4 (some .int), Cond.methodLink RX12 122 yX12_check, Cond.static yX12_check, Cond.code yX12_check cX12_check 5 (some .int), Cond.constant RX12 83 (65535), Cond.methodLink RX12 84 yX12_checked, Cond.static yX12_checked, Cond.code yX12_checked cX12_checked 4 (some .int), Cond.constant RX12 81 (32768), Cond.constant RX12 82 (65536), Cond.methodLink RX12 196 yX12_spareNow]
def wsX12_open_r3 : List Cond := [Cond.instanceMethod yX12_spareNow, Cond.selects RX12 yX12_spareNow yX12_spareNow, Cond.code yX12_spareNow cX12_spareNow 1 (some .int), Cond.methodLink RX12 205 yX12_placeOfNumber, Cond.instanceMethod yX12_placeOfNumber, Cond.selects RX12 yX12_placeOfNumber yX12_placeOfNumber, Cond.code yX12_placeOfNumber cX12_placeOfNumber 3 (some .int), Cond.methodLink RX12 220 yX12_workOut, Cond.instanceMethod yX12_workOut, Cond.selects RX12 yX12_workOut yX12_workOut, Cond.code yX12_workOut cX12_workOut 15 (some .int), Cond.classLink RX12 19 "[[I", Cond.methodLink RX12 78 yX12_factor, Cond.static yX12_factor, Cond.code yX12_factor cX12_factor 2 (some .int), Cond.methodLink RX12 67 yX12_inverseOf, Cond.static yX12_inverseOf, Cond.code yX12_inverseOf cX12_inverseOf 2 (some .int), Cond.methodLink RX12 63 yX12_times, Cond.static yX12_times, Cond.code yX12_times cX12_times 5 (some .int), Cond.methodLink RX12 208 yX12_addTimes, Cond.static yX12_addTimes, Cond.code yX12_addTimes cX12_addTimes 4 none]
def wsX12_open_r4 : List Cond := [Cond.methodLink RX12 212 yX12_swap, Cond.static yX12_swap, Cond.code yX12_swap cX12_swap 4 none, Cond.methodLink RX12 216 yX12_multiply, Cond.static yX12_multiply, Cond.code yX12_multiply cX12_multiply 3 none, Cond.methodLink RX12 224 yX12_findFiles, Cond.instanceMethod yX12_findFiles, Cond.selects RX12 yX12_findFiles yX12_findFiles, Cond.code yX12_findFiles cX12_findFiles 4 none, Cond.fieldLink RX12 230 "OssuaryVaultModel" "isIndexed" "Z", Cond.fieldLink RX12 233 "OssuaryVaultModel" "found" "I", Cond.methodLink RX12 227 yX12_indexPlace, Cond.instanceMethod yX12_indexPlace, Cond.selects RX12 yX12_indexPlace yX12_indexPlace, Cond.code yX12_indexPlace cX12_indexPlace 3 (some .int), Cond.methodLink RX12 236 yX12_add, Cond.instanceMethod yX12_add, Cond.selects RX12 yX12_add yX12_add, Cond.code yX12_add cX12_add 4 none, Cond.fieldLink RX12 34 "OssuaryVaultModel" "keysFound" "[I", Cond.fieldLink RX12 37 "OssuaryVaultModel" "placesFound" "[I", Cond.fieldLink RX12 40 "OssuaryVaultModel" "lengthsTold" "[I", Cond.fieldLink RX12 43 "OssuaryVaultModel" "lengthsFound" "[I"]
def wsX12_open_r5 : List Cond := [Cond.methodLink RX12 243 yX12_read, Cond.instanceMethod yX12_read, Cond.selects RX12 yX12_read yX12_read, Cond.code yX12_read cX12_read 5 (some .int), Cond.fieldLink RX12 49 "OssuaryVaultModel" "content" "[I", Cond.methodLink RX12 240 yX12_recordSize, Cond.instanceMethod yX12_recordSize, Cond.selects RX12 yX12_recordSize yX12_recordSize, Cond.code yX12_recordSize cX12_recordSize 3 (some .int), Cond.methodLink RX12 246 yX12_unpack, Cond.instanceMethod yX12_unpack, Cond.selects RX12 yX12_unpack yX12_unpack, Cond.code yX12_unpack cX12_unpack 11 (some .int)]
def wsX12_open : List Cond := .code yX12_open cX12_open 7 (some .int) :: ((wsX12_open_r1 ++ (wsX12_open_r2 ++ (wsX12_open_r3 ++ (wsX12_open_r4 ++ wsX12_open_r5)))) ++ wsX120)
def wsX12_opened : List Cond := .code yX12_opened cX12_opened 1 (some .int) :: ([.fieldLink RX12 59 "OssuaryVaultModel" "thrown" "I", .fieldLink RX12 164 "OssuaryVaultModel" "isOpen" "Z", .fieldLink RX12 31 "OssuaryVaultModel" "stream" "[I", .methodLink RX12 75 yX12_no, .instanceMethod yX12_no, .selects RX12 yX12_no yX12_no, .initialized RX12, .code yX12_no cX12_no 2 (some .int)] ++ wsX120)
def wsX12_streamAt : List Cond := .code yX12_streamAt cX12_streamAt 2 (some .int) :: ([.fieldLink RX12 59 "OssuaryVaultModel" "thrown" "I", .fieldLink RX12 164 "OssuaryVaultModel" "isOpen" "Z", .fieldLink RX12 31 "OssuaryVaultModel" "stream" "[I", .methodLink RX12 75 yX12_no, .instanceMethod yX12_no, .selects RX12 yX12_no yX12_no, .initialized RX12, .code yX12_no cX12_no 2 (some .int), .methodLink RX12 71 yX12_isIn, .static yX12_isIn, .code yX12_isIn cX12_isIn 3 (some .boolean)] ++ wsX120)
def wsX12_hasIndex : List Cond := .code yX12_hasIndex cX12_hasIndex 1 (some .boolean) :: ([.fieldLink RX12 59 "OssuaryVaultModel" "thrown" "I", .fieldLink RX12 164 "OssuaryVaultModel" "isOpen" "Z", .fieldLink RX12 230 "OssuaryVaultModel" "isIndexed" "Z", .methodLink RX12 178 yX12_isNot, .instanceMethod yX12_isNot, .selects RX12 yX12_isNot yX12_isNot, .initialized RX12, .code yX12_isNot cX12_isNot 2 (some .boolean)] ++ wsX120)
def wsX12_found : List Cond := .code yX12_found cX12_found 1 (some .int) :: ([.fieldLink RX12 59 "OssuaryVaultModel" "thrown" "I", .fieldLink RX12 164 "OssuaryVaultModel" "isOpen" "Z", .fieldLink RX12 233 "OssuaryVaultModel" "found" "I", .methodLink RX12 75 yX12_no, .instanceMethod yX12_no, .selects RX12 yX12_no yX12_no, .initialized RX12, .code yX12_no cX12_no 2 (some .int)] ++ wsX120)
def wsX12_ofFound : List Cond := .code yX12_ofFound cX12_ofFound 3 (some .int) :: ([.fieldLink RX12 59 "OssuaryVaultModel" "thrown" "I", .fieldLink RX12 164 "OssuaryVaultModel" "isOpen" "Z", .fieldLink RX12 233 "OssuaryVaultModel" "found" "I", .methodLink RX12 75 yX12_no, .instanceMethod yX12_no, .selects RX12 yX12_no yX12_no, .initialized RX12, .code yX12_no cX12_no 2 (some .int), .methodLink RX12 71 yX12_isIn, .static yX12_isIn, .code yX12_isIn cX12_isIn 3 (some .boolean)] ++ wsX120)
def wsX12_keyFound : List Cond := .code yX12_keyFound cX12_keyFound 2 (some .int) :: ([.fieldLink RX12 34 "OssuaryVaultModel" "keysFound" "[I", .methodLink RX12 250 yX12_ofFound, .instanceMethod yX12_ofFound, .selects RX12 yX12_ofFound yX12_ofFound, .initialized RX12, .code yX12_ofFound cX12_ofFound 3 (some .int), .fieldLink RX12 59 "OssuaryVaultModel" "thrown" "I", .fieldLink RX12 164 "OssuaryVaultModel" "isOpen" "Z", .fieldLink RX12 233 "OssuaryVaultModel" "found" "I", .methodLink RX12 75 yX12_no, .instanceMethod yX12_no, .selects RX12 yX12_no yX12_no, .code yX12_no cX12_no 2 (some .int), .methodLink RX12 71 yX12_isIn, .static yX12_isIn, .code yX12_isIn cX12_isIn 3 (some .boolean)] ++ wsX120)
def wsX12_placeFound : List Cond := .code yX12_placeFound cX12_placeFound 2 (some .int) :: ([.fieldLink RX12 37 "OssuaryVaultModel" "placesFound" "[I", .methodLink RX12 250 yX12_ofFound, .instanceMethod yX12_ofFound, .selects RX12 yX12_ofFound yX12_ofFound, .initialized RX12, .code yX12_ofFound cX12_ofFound 3 (some .int), .fieldLink RX12 59 "OssuaryVaultModel" "thrown" "I", .fieldLink RX12 164 "OssuaryVaultModel" "isOpen" "Z", .fieldLink RX12 233 "OssuaryVaultModel" "found" "I", .methodLink RX12 75 yX12_no, .instanceMethod yX12_no, .selects RX12 yX12_no yX12_no, .code yX12_no cX12_no 2 (some .int), .methodLink RX12 71 yX12_isIn, .static yX12_isIn, .code yX12_isIn cX12_isIn 3 (some .boolean)] ++ wsX120)
def wsX12_isGood : List Cond := .code yX12_isGood cX12_isGood 3 (some .boolean) :: ([.fieldLink RX12 43 "OssuaryVaultModel" "lengthsFound" "[I", .fieldLink RX12 59 "OssuaryVaultModel" "thrown" "I", .methodLink RX12 250 yX12_ofFound, .instanceMethod yX12_ofFound, .selects RX12 yX12_ofFound yX12_ofFound, .initialized RX12, .code yX12_ofFound cX12_ofFound 3 (some .int), .fieldLink RX12 164 "OssuaryVaultModel" "isOpen" "Z", .fieldLink RX12 233 "OssuaryVaultModel" "found" "I", .methodLink RX12 75 yX12_no, .instanceMethod yX12_no, .selects RX12 yX12_no yX12_no, .code yX12_no cX12_no 2 (some .int), .methodLink RX12 71 yX12_isIn, .static yX12_isIn, .code yX12_isIn cX12_isIn 3 (some .boolean)] ++ wsX120)
def wsX12_lengthFound : List Cond := .code yX12_lengthFound cX12_lengthFound 2 (some .int) :: ([.fieldLink RX12 43 "OssuaryVaultModel" "lengthsFound" "[I", .methodLink RX12 250 yX12_ofFound, .instanceMethod yX12_ofFound, .selects RX12 yX12_ofFound yX12_ofFound, .initialized RX12, .code yX12_ofFound cX12_ofFound 3 (some .int), .fieldLink RX12 59 "OssuaryVaultModel" "thrown" "I", .fieldLink RX12 164 "OssuaryVaultModel" "isOpen" "Z", .fieldLink RX12 233 "OssuaryVaultModel" "found" "I", .methodLink RX12 75 yX12_no, .instanceMethod yX12_no, .selects RX12 yX12_no yX12_no, .code yX12_no cX12_no 2 (some .int), .methodLink RX12 71 yX12_isIn, .static yX12_isIn, .code yX12_isIn cX12_isIn 3 (some .boolean)] ++ wsX120)
def wsX12_byteFound_r1 : List Cond := [Cond.fieldLink RX12 43 "OssuaryVaultModel" "lengthsFound" "[I", Cond.fieldLink RX12 59 "OssuaryVaultModel" "thrown" "I", Cond.fieldLink RX12 49 "OssuaryVaultModel" "content" "[I", Cond.methodLink RX12 250 yX12_ofFound, Cond.instanceMethod yX12_ofFound, Cond.selects RX12 yX12_ofFound yX12_ofFound, Cond.initialized RX12, Cond.code yX12_ofFound cX12_ofFound 3 (some .int), Cond.fieldLink RX12 164 "OssuaryVaultModel" "isOpen" "Z", Cond.fieldLink RX12 233 "OssuaryVaultModel" "found" "I", Cond.methodLink RX12 75 yX12_no, Cond.instanceMethod yX12_no, Cond.selects RX12 yX12_no yX12_no, Cond.code yX12_no cX12_no 2 (some .int), Cond.methodLink RX12 71 yX12_isIn, Cond.static yX12_isIn, Cond.code yX12_isIn cX12_isIn 3 (some .boolean), Cond.methodLink RX12 243 yX12_read, Cond.instanceMethod yX12_read, Cond.selects RX12 yX12_read yX12_read, Cond.code yX12_read cX12_read 5 (some .int), Cond.fieldLink RX12 37 "OssuaryVaultModel" "placesFound" "[I", Cond.fieldLink RX12 31 "OssuaryVaultModel" "stream" "[I", Cond.fieldLink RX12 34 "OssuaryVaultModel" "keysFound" "[I"]
def wsX12_byteFound_r2 : List Cond := [Cond.fieldLink RX12 40 "OssuaryVaultModel" "lengthsTold" "[I", Cond.methodLink RX12 240 yX12_recordSize, Cond.instanceMethod yX12_recordSize, Cond.selects RX12 yX12_recordSize yX12_recordSize, Cond.code yX12_recordSize cX12_recordSize 3 (some .int), Cond.methodLink RX12 181 yX12_word, Cond.static yX12_word, Cond.code yX12_word cX12_word 2 (some .int), Cond.methodLink RX12 246 yX12_unpack, Cond.instanceMethod yX12_unpack, Cond.selects RX12 yX12_unpack yX12_unpack, Cond.code yX12_unpack cX12_unpack 11 (some .int), Cond.methodLink RX12 122 yX12_check, Cond.static yX12_check, Cond.code yX12_check cX12_check 5 (some .int), Cond.constant RX12 83 (65535), Cond.methodLink RX12 84 yX12_checked, Cond.static yX12_checked, Cond.code yX12_checked cX12_checked 4 (some .int), Cond.constant RX12 81 (32768), Cond.constant RX12 82 (65536)]
def wsX12_byteFound : List Cond := .code yX12_byteFound cX12_byteFound 4 (some .int) :: ((wsX12_byteFound_r1 ++ wsX12_byteFound_r2) ++ wsX120)
def wsX12_restore_r1 : List Cond := [Cond.fieldLink RX12 59 "OssuaryVaultModel" "thrown" "I", Cond.fieldLink RX12 164 "OssuaryVaultModel" "isOpen" "Z", Cond.fieldLink RX12 233 "OssuaryVaultModel" "found" "I", Cond.fieldLink RX12 43 "OssuaryVaultModel" "lengthsFound" "[I", Cond.fieldLink RX12 95 "OssuaryVaultModel" "files" "I", Cond.fieldLink RX12 34 "OssuaryVaultModel" "keysFound" "[I", Cond.fieldLink RX12 49 "OssuaryVaultModel" "content" "[I", Cond.methodLink RX12 75 yX12_no, Cond.instanceMethod yX12_no, Cond.selects RX12 yX12_no yX12_no, Cond.initialized RX12, Cond.code yX12_no cX12_no 2 (some .int), Cond.methodLink RX12 104 yX12_placeOf, Cond.instanceMethod yX12_placeOf, Cond.selects RX12 yX12_placeOf yX12_placeOf, Cond.code yX12_placeOf cX12_placeOf 3 (some .int), Cond.fieldLink RX12 13 "OssuaryVaultModel" "keys" "[I", Cond.methodLink RX12 243 yX12_read, Cond.instanceMethod yX12_read, Cond.selects RX12 yX12_read yX12_read, Cond.code yX12_read cX12_read 5 (some .int), Cond.fieldLink RX12 37 "OssuaryVaultModel" "placesFound" "[I", Cond.fieldLink RX12 31 "OssuaryVaultModel" "stream" "[I", Cond.fieldLink RX12 40 "OssuaryVaultModel" "lengthsTold" "[I"]
def wsX12_restore_r2 : List Cond := [Cond.methodLink RX12 240 yX12_recordSize, Cond.instanceMethod yX12_recordSize, Cond.selects RX12 yX12_recordSize yX12_recordSize, Cond.code yX12_recordSize cX12_recordSize 3 (some .int), Cond.methodLink RX12 181 yX12_word, Cond.static yX12_word, Cond.code yX12_word cX12_word 2 (some .int), Cond.methodLink RX12 246 yX12_unpack, Cond.instanceMethod yX12_unpack, Cond.selects RX12 yX12_unpack yX12_unpack, Cond.code yX12_unpack cX12_unpack 11 (some .int), Cond.methodLink RX12 122 yX12_check, Cond.static yX12_check, Cond.code yX12_check cX12_check 5 (some .int), Cond.constant RX12 83 (65535), Cond.methodLink RX12 84 yX12_checked, Cond.static yX12_checked, Cond.code yX12_checked cX12_checked 4 (some .int), Cond.constant RX12 81 (32768), Cond.constant RX12 82 (65536), Cond.methodLink RX12 111 yX12_put, Cond.instanceMethod yX12_put, Cond.selects RX12 yX12_put yX12_put, Cond.code yX12_put cX12_put 5 none]
def wsX12_restore_r3 : List Cond := [Cond.fieldLink RX12 16 "OssuaryVaultModel" "lengths" "[I", Cond.fieldLink RX12 21 "OssuaryVaultModel" "contents" "[[I", Cond.methodLink RX12 98 arraycopyName, Cond.native arraycopyName, Cond.static arraycopyName, Cond.initialized "java/lang/System", Cond.methodLink RX12 107 yX12_move, Cond.instanceMethod yX12_move, Cond.selects RX12 yX12_move yX12_move, Cond.code yX12_move cX12_move 3 none]
def wsX12_restore : List Cond := .code yX12_restore cX12_restore 3 (some .int) :: ((wsX12_restore_r1 ++ (wsX12_restore_r2 ++ wsX12_restore_r3)) ++ wsX120)
def wsX12_cost : List Cond := .code yX12_cost cX12_cost 4 (some .double) :: ([.fieldLink RX12 59 "OssuaryVaultModel" "thrown" "I", .fieldLink RX12 28 "OssuaryVaultModel" "sizes" "[I", .methodLink RX12 254 Lib.Math.max.name, .static Lib.Math.max.name, .initialized "java/lang/Math", .code Lib.Math.max.name Lib.Math.max.code 2 (some .int), .fieldLink RX12 95 "OssuaryVaultModel" "files" "I", .fieldLink RX12 16 "OssuaryVaultModel" "lengths" "[I"] ++ wsX120)
def wsX12_digest_r1 : List Cond := [Cond.fieldLink RX12 59 "OssuaryVaultModel" "thrown" "I", Cond.constantLong RX12 257 (76663), Cond.fieldLink RX12 95 "OssuaryVaultModel" "files" "I", Cond.constantLong RX12 259 (31), Cond.fieldLink RX12 13 "OssuaryVaultModel" "keys" "[I", Cond.fieldLink RX12 16 "OssuaryVaultModel" "lengths" "[I", Cond.fieldLink RX12 21 "OssuaryVaultModel" "contents" "[[I", Cond.fieldLink RX12 28 "OssuaryVaultModel" "sizes" "[I", Cond.fieldLink RX12 52 "OssuaryVaultModel" "sound" "[Z", Cond.fieldLink RX12 56 "OssuaryVaultModel" "numbers" "[I", Cond.fieldLink RX12 25 "OssuaryVaultModel" "volumes" "[[I", Cond.fieldLink RX12 184 "OssuaryVaultModel" "leader" "I", Cond.fieldLink RX12 187 "OssuaryVaultModel" "present" "I", Cond.fieldLink RX12 164 "OssuaryVaultModel" "isOpen" "Z", Cond.fieldLink RX12 31 "OssuaryVaultModel" "stream" "[I", Cond.fieldLink RX12 230 "OssuaryVaultModel" "isIndexed" "Z", Cond.fieldLink RX12 233 "OssuaryVaultModel" "found" "I", Cond.fieldLink RX12 34 "OssuaryVaultModel" "keysFound" "[I", Cond.fieldLink RX12 37 "OssuaryVaultModel" "placesFound" "[I", Cond.fieldLink RX12 43 "OssuaryVaultModel" "lengthsFound" "[I", Cond.methodLink RX12 135 yX12_streamSize, Cond.instanceMethod yX12_streamSize, Cond.selects RX12 yX12_streamSize yX12_streamSize, Cond.initialized RX12]
def wsX12_digest_r2 : List Cond := [Cond.code yX12_streamSize cX12_streamSize 3 (some .int), Cond.methodLink RX12 130 Lib.Math.min.name, Cond.static Lib.Math.min.name, Cond.initialized "java/lang/Math", Cond.code Lib.Math.min.name Lib.Math.min.code 2 (some .int), Cond.methodLink RX12 126 yX12_pack, Cond.instanceMethod yX12_pack, Cond.selects RX12 yX12_pack yX12_pack, Cond.code yX12_pack cX12_pack 7 (some .int), Cond.fieldLink RX12 46 "OssuaryVaultModel" "packed" "[I", Cond.methodLink RX12 87 yX12_isTriple, Cond.static yX12_isTriple, Cond.code yX12_isTriple cX12_isTriple 3 (some .boolean), Cond.methodLink RX12 122 yX12_check, Cond.static yX12_check, Cond.code yX12_check cX12_check 5 (some .int), Cond.constant RX12 83 (65535), Cond.methodLink RX12 84 yX12_checked, Cond.static yX12_checked, Cond.code yX12_checked cX12_checked 4 (some .int), Cond.constant RX12 81 (32768), Cond.constant RX12 82 (65536), Cond.methodLink RX12 193 yX12_look, Cond.instanceMethod yX12_look]
def wsX12_digest_r3 : List Cond := [Cond.selects RX12 yX12_look yX12_look, Cond.code yX12_look cX12_look 7 none, Cond.methodLink RX12 190 yX12_isSoundNow, Cond.instanceMethod yX12_isSoundNow, Cond.selects RX12 yX12_isSoundNow yX12_isSoundNow, Cond.code yX12_isSoundNow cX12_isSoundNow 5 (some .boolean), Cond.methodLink RX12 71 yX12_isIn, Cond.static yX12_isIn, Cond.code yX12_isIn cX12_isIn 3 (some .boolean), Cond.methodLink RX12 181 yX12_word, Cond.static yX12_word, Cond.code yX12_word cX12_word 2 (some .int), Cond.methodLink RX12 143 yX12_bodySize, Cond.static yX12_bodySize, Cond.code yX12_bodySize cX12_bodySize 2 (some .int), Cond.methodLink RX12 146 yX12_volumeCheck, Cond.static yX12_volumeCheck, Cond.code yX12_volumeCheck cX12_volumeCheck 4 (some .int), Cond.methodLink RX12 196 yX12_spareNow, Cond.instanceMethod yX12_spareNow, Cond.selects RX12 yX12_spareNow yX12_spareNow, Cond.code yX12_spareNow cX12_spareNow 1 (some .int)]
def wsX12_digest : List Cond := .code yX12_digest cX12_digest 5 (some .long) :: ((wsX12_digest_r1 ++ (wsX12_digest_r2 ++ wsX12_digest_r3)) ++ wsX120)
abbrev vwCl : List vw_C := [(RX0, TX0, 2), (RX1, TX1, 1), (RX2, TX2, 5), (RX3, TX3, 4), (RX4, TX4, 2), (RX5, TX5, 5), (RX7, TX7, 8), (RX8, TX8, 3), (RX9, TX9, 7), (RX10, TX10, 4), (RX11, TX11, 5), (RX12, TX12, 25)]
end
section
theorem dX0_init_0 : decode cX0_init 0 = .ok (.aload_n 0, 1) := by decide +kernel
theorem dX0_init_1 : decode cX0_init 1 = .ok (.invokespecial 1, 3) := by decide +kernel
theorem dX0_init_4 : decode cX0_init 4 = .ok (.aload_n 0, 1) := by decide +kernel
theorem dX0_init_5 : decode cX0_init 5 = .ok (.iload_n 1, 1) := by decide +kernel
theorem dX0_init_6 : decode cX0_init 6 = .ok (.ifCond .le 7, 3) := by decide +kernel
theorem dX0_init_9 : decode cX0_init 9 = .ok (.iload_n 1, 1) := by decide +kernel
theorem dX0_init_10 : decode cX0_init 10 = .ok (.goto 4, 3) := by decide +kernel
theorem dX0_init_13 : decode cX0_init 13 = .ok (.iconst 0, 1) := by decide +kernel
theorem dX0_init_14 : decode cX0_init 14 = .ok (.newarray .int, 2) := by decide +kernel
theorem dX0_init_16 : decode cX0_init 16 = .ok (.putfield 7, 3) := by decide +kernel
theorem dX0_init_19 : decode cX0_init 19 = .ok (.return_, 1) := by decide +kernel
theorem dX0_size_0 : decode cX0_size 0 = .ok (.aload_n 0, 1) := by decide +kernel
theorem dX0_size_1 : decode cX0_size 1 = .ok (.getfield 13, 3) := by decide +kernel
theorem dX0_size_4 : decode cX0_size 4 = .ok (.ireturn, 1) := by decide +kernel
theorem dX0_at_0 : decode cX0_at 0 = .ok (.iload_n 1, 1) := by decide +kernel
theorem dX0_at_1 : decode cX0_at 1 = .ok (.ifCond .lt 29, 3) := by decide +kernel
theorem dX0_at_4 : decode cX0_at 4 = .ok (.iload_n 1, 1) := by decide +kernel
theorem dX0_at_5 : decode cX0_at 5 = .ok (.aload_n 0, 1) := by decide +kernel
theorem dX0_at_6 : decode cX0_at 6 = .ok (.getfield 13, 3) := by decide +kernel
theorem dX0_at_9 : decode cX0_at 9 = .ok (.if_icmp .ge 21, 3) := by decide +kernel
theorem dX0_at_12 : decode cX0_at 12 = .ok (.iload_n 1, 1) := by decide +kernel
theorem dX0_at_13 : decode cX0_at 13 = .ok (.aload_n 0, 1) := by decide +kernel
theorem dX0_at_14 : decode cX0_at 14 = .ok (.getfield 7, 3) := by decide +kernel
theorem dX0_at_17 : decode cX0_at 17 = .ok (.arraylength, 1) := by decide +kernel
theorem dX0_at_18 : decode cX0_at 18 = .ok (.if_icmp .ge 12, 3) := by decide +kernel
theorem dX0_at_21 : decode cX0_at 21 = .ok (.aload_n 0, 1) := by decide +kernel
theorem dX0_at_22 : decode cX0_at 22 = .ok (.getfield 7, 3) := by decide +kernel
theorem dX0_at_25 : decode cX0_at 25 = .ok (.iload_n 1, 1) := by decide +kernel
theorem dX0_at_26 : decode cX0_at 26 = .ok (.iaload, 1) := by decide +kernel
theorem dX0_at_27 : decode cX0_at 27 = .ok (.goto 4, 3) := by decide +kernel
theorem dX0_at_30 : decode cX0_at 30 = .ok (.iconst 0, 1) := by decide +kernel
theorem dX0_at_31 : decode cX0_at 31 = .ok (.ireturn, 1) := by decide +kernel
set_option maxRecDepth 20000 in
theorem ggX0_word_X0_at : GoodIn wsX0_word wsX0_at := goodIn_r _ [5, 6, 7, 8, 9] (by decide +kernel) (by decide +kernel)
set_option maxRecDepth 20000 in
theorem gX0_word_X0_at : GoodIn wsX0_word (wsV RX0 17 RX0 yX0_at wsX0_at) := goodIn_app (goodIn_of _ (by decide +kernel)) ggX0_word_X0_at
theorem dX0_word_0 : decode cX0_word 0 = .ok (.aload_n 0, 1) := by decide +kernel
theorem dX0_word_1 : decode cX0_word 1 = .ok (.iload_n 1, 1) := by decide +kernel
theorem dX0_word_2 : decode cX0_word 2 = .ok (.invokevirtual 17, 3) := by decide +kernel
theorem dX0_word_5 : decode cX0_word 5 = .ok (.sipush 256, 3) := by decide +kernel
theorem dX0_word_8 : decode cX0_word 8 = .ok (.imul, 1) := by decide +kernel
theorem dX0_word_9 : decode cX0_word 9 = .ok (.aload_n 0, 1) := by decide +kernel
theorem dX0_word_10 : decode cX0_word 10 = .ok (.iload_n 1, 1) := by decide +kernel
theorem dX0_word_11 : decode cX0_word 11 = .ok (.iconst 1, 1) := by decide +kernel
theorem dX0_word_12 : decode cX0_word 12 = .ok (.iadd, 1) := by decide +kernel
theorem dX0_word_13 : decode cX0_word 13 = .ok (.invokevirtual 17, 3) := by decide +kernel
theorem dX0_word_16 : decode cX0_word 16 = .ok (.iadd, 1) := by decide +kernel
theorem dX0_word_17 : decode cX0_word 17 = .ok (.ireturn, 1) := by decide +kernel
theorem dX0_put_0 : decode cX0_put 0 = .ok (.iload_n 1, 1) := by decide +kernel
theorem dX0_put_1 : decode cX0_put 1 = .ok (.ifCond .lt 27, 3) := by decide +kernel
theorem dX0_put_4 : decode cX0_put 4 = .ok (.iload_n 1, 1) := by decide +kernel
theorem dX0_put_5 : decode cX0_put 5 = .ok (.aload_n 0, 1) := by decide +kernel
theorem dX0_put_6 : decode cX0_put 6 = .ok (.getfield 13, 3) := by decide +kernel
theorem dX0_put_9 : decode cX0_put 9 = .ok (.if_icmp .ge 19, 3) := by decide +kernel
theorem dX0_put_12 : decode cX0_put 12 = .ok (.iload_n 1, 1) := by decide +kernel
theorem dX0_put_13 : decode cX0_put 13 = .ok (.aload_n 0, 1) := by decide +kernel
theorem dX0_put_14 : decode cX0_put 14 = .ok (.getfield 7, 3) := by decide +kernel
theorem dX0_put_17 : decode cX0_put 17 = .ok (.arraylength, 1) := by decide +kernel
theorem dX0_put_18 : decode cX0_put 18 = .ok (.if_icmp .ge 10, 3) := by decide +kernel
theorem dX0_put_21 : decode cX0_put 21 = .ok (.aload_n 0, 1) := by decide +kernel
theorem dX0_put_22 : decode cX0_put 22 = .ok (.getfield 7, 3) := by decide +kernel
theorem dX0_put_25 : decode cX0_put 25 = .ok (.iload_n 1, 1) := by decide +kernel
theorem dX0_put_26 : decode cX0_put 26 = .ok (.iload_n 2, 1) := by decide +kernel
theorem dX0_put_27 : decode cX0_put 27 = .ok (.iastore, 1) := by decide +kernel
theorem dX0_put_28 : decode cX0_put 28 = .ok (.return_, 1) := by decide +kernel
set_option maxRecDepth 20000 in
theorem ggX0_putWord_X0_put : GoodIn wsX0_putWord wsX0_put := goodIn_r _ [5, 6, 7, 8, 9] (by decide +kernel) (by decide +kernel)
set_option maxRecDepth 20000 in
theorem gX0_putWord_X0_put : GoodIn wsX0_putWord (wsV RX0 21 RX0 yX0_put wsX0_put) := goodIn_app (goodIn_of _ (by decide +kernel)) ggX0_putWord_X0_put
theorem dX0_putWord_0 : decode cX0_putWord 0 = .ok (.aload_n 0, 1) := by decide +kernel
theorem dX0_putWord_1 : decode cX0_putWord 1 = .ok (.iload_n 1, 1) := by decide +kernel
theorem dX0_putWord_2 : decode cX0_putWord 2 = .ok (.iload_n 2, 1) := by decide +kernel
theorem dX0_putWord_3 : decode cX0_putWord 3 = .ok (.sipush 256, 3) := by decide +kernel
theorem dX0_putWord_6 : decode cX0_putWord 6 = .ok (.idiv, 1) := by decide +kernel
theorem dX0_putWord_7 : decode cX0_putWord 7 = .ok (.invokevirtual 21, 3) := by decide +kernel
theorem dX0_putWord_10 : decode cX0_putWord 10 = .ok (.aload_n 0, 1) := by decide +kernel
theorem dX0_putWord_11 : decode cX0_putWord 11 = .ok (.iload_n 1, 1) := by decide +kernel
theorem dX0_putWord_12 : decode cX0_putWord 12 = .ok (.iconst 1, 1) := by decide +kernel
theorem dX0_putWord_13 : decode cX0_putWord 13 = .ok (.iadd, 1) := by decide +kernel
theorem dX0_putWord_14 : decode cX0_putWord 14 = .ok (.iload_n 2, 1) := by decide +kernel
theorem dX0_putWord_15 : decode cX0_putWord 15 = .ok (.sipush 256, 3) := by decide +kernel
theorem dX0_putWord_18 : decode cX0_putWord 18 = .ok (.irem, 1) := by decide +kernel
theorem dX0_putWord_19 : decode cX0_putWord 19 = .ok (.invokevirtual 21, 3) := by decide +kernel
theorem dX0_putWord_22 : decode cX0_putWord 22 = .ok (.return_, 1) := by decide +kernel
theorem dX0_add_0 : decode cX0_add 0 = .ok (.aload_n 0, 1) := by decide +kernel
theorem dX0_add_1 : decode cX0_add 1 = .ok (.getfield 13, 3) := by decide +kernel
theorem dX0_add_4 : decode cX0_add 4 = .ok (.ifCond .lt 35, 3) := by decide +kernel
theorem dX0_add_7 : decode cX0_add 7 = .ok (.aload_n 0, 1) := by decide +kernel
theorem dX0_add_8 : decode cX0_add 8 = .ok (.getfield 13, 3) := by decide +kernel
theorem dX0_add_11 : decode cX0_add 11 = .ok (.aload_n 0, 1) := by decide +kernel
theorem dX0_add_12 : decode cX0_add 12 = .ok (.getfield 7, 3) := by decide +kernel
theorem dX0_add_15 : decode cX0_add 15 = .ok (.arraylength, 1) := by decide +kernel
theorem dX0_add_16 : decode cX0_add 16 = .ok (.if_icmp .ge 23, 3) := by decide +kernel
theorem dX0_add_19 : decode cX0_add 19 = .ok (.aload_n 0, 1) := by decide +kernel
theorem dX0_add_20 : decode cX0_add 20 = .ok (.getfield 7, 3) := by decide +kernel
theorem dX0_add_23 : decode cX0_add 23 = .ok (.aload_n 0, 1) := by decide +kernel
theorem dX0_add_24 : decode cX0_add 24 = .ok (.getfield 13, 3) := by decide +kernel
theorem dX0_add_27 : decode cX0_add 27 = .ok (.iload_n 1, 1) := by decide +kernel
theorem dX0_add_28 : decode cX0_add 28 = .ok (.iastore, 1) := by decide +kernel
theorem dX0_add_29 : decode cX0_add 29 = .ok (.aload_n 0, 1) := by decide +kernel
theorem dX0_add_30 : decode cX0_add 30 = .ok (.dup, 1) := by decide +kernel
theorem dX0_add_31 : decode cX0_add 31 = .ok (.getfield 13, 3) := by decide +kernel
theorem dX0_add_34 : decode cX0_add 34 = .ok (.iconst 1, 1) := by decide +kernel
theorem dX0_add_35 : decode cX0_add 35 = .ok (.iadd, 1) := by decide +kernel
theorem dX0_add_36 : decode cX0_add 36 = .ok (.putfield 13, 3) := by decide +kernel
theorem dX0_add_39 : decode cX0_add 39 = .ok (.return_, 1) := by decide +kernel
set_option maxRecDepth 20000 in
theorem ggX0_addWord_X0_add : GoodIn wsX0_addWord wsX0_add := goodIn_r _ [5, 6, 7, 8, 9] (by decide +kernel) (by decide +kernel)
set_option maxRecDepth 20000 in
theorem gX0_addWord_X0_add : GoodIn wsX0_addWord (wsV RX0 25 RX0 yX0_add wsX0_add) := goodIn_app (goodIn_of _ (by decide +kernel)) ggX0_addWord_X0_add
theorem dX0_addWord_0 : decode cX0_addWord 0 = .ok (.aload_n 0, 1) := by decide +kernel
theorem dX0_addWord_1 : decode cX0_addWord 1 = .ok (.iload_n 1, 1) := by decide +kernel
theorem dX0_addWord_2 : decode cX0_addWord 2 = .ok (.sipush 256, 3) := by decide +kernel
theorem dX0_addWord_5 : decode cX0_addWord 5 = .ok (.idiv, 1) := by decide +kernel
theorem dX0_addWord_6 : decode cX0_addWord 6 = .ok (.invokevirtual 25, 3) := by decide +kernel
theorem dX0_addWord_9 : decode cX0_addWord 9 = .ok (.aload_n 0, 1) := by decide +kernel
theorem dX0_addWord_10 : decode cX0_addWord 10 = .ok (.iload_n 1, 1) := by decide +kernel
theorem dX0_addWord_11 : decode cX0_addWord 11 = .ok (.sipush 256, 3) := by decide +kernel
theorem dX0_addWord_14 : decode cX0_addWord 14 = .ok (.irem, 1) := by decide +kernel
theorem dX0_addWord_15 : decode cX0_addWord 15 = .ok (.invokevirtual 25, 3) := by decide +kernel
theorem dX0_addWord_18 : decode cX0_addWord 18 = .ok (.return_, 1) := by decide +kernel
set_option maxRecDepth 20000 in
theorem ggX0_addTimes_X0_add : GoodIn wsX0_addTimes wsX0_add := goodIn_r _ [5, 6, 7, 8, 9] (by decide +kernel) (by decide +kernel)
set_option maxRecDepth 20000 in
theorem gX0_addTimes_X0_add : GoodIn wsX0_addTimes (wsV RX0 25 RX0 yX0_add wsX0_add) := goodIn_app (goodIn_of _ (by decide +kernel)) ggX0_addTimes_X0_add
theorem dX0_addTimes_0 : decode cX0_addTimes 0 = .ok (.iconst 0, 1) := by decide +kernel
theorem dX0_addTimes_1 : decode cX0_addTimes 1 = .ok (.istore_n 3, 1) := by decide +kernel
theorem dX0_addTimes_2 : decode cX0_addTimes 2 = .ok (.iload_n 3, 1) := by decide +kernel
theorem dX0_addTimes_3 : decode cX0_addTimes 3 = .ok (.iload_n 2, 1) := by decide +kernel
theorem dX0_addTimes_4 : decode cX0_addTimes 4 = .ok (.if_icmp .ge 14, 3) := by decide +kernel
theorem dX0_addTimes_7 : decode cX0_addTimes 7 = .ok (.aload_n 0, 1) := by decide +kernel
theorem dX0_addTimes_8 : decode cX0_addTimes 8 = .ok (.iload_n 1, 1) := by decide +kernel
theorem dX0_addTimes_9 : decode cX0_addTimes 9 = .ok (.invokevirtual 25, 3) := by decide +kernel
theorem dX0_addTimes_12 : decode cX0_addTimes 12 = .ok (.iinc 3 1, 3) := by decide +kernel
theorem dX0_addTimes_15 : decode cX0_addTimes 15 = .ok (.goto (-13), 3) := by decide +kernel
theorem dX0_addTimes_18 : decode cX0_addTimes 18 = .ok (.return_, 1) := by decide +kernel
set_option maxRecDepth 20000 in
theorem ggX0_addPart_X0_at : GoodIn wsX0_addPart wsX0_at := goodIn_r _ [5, 6, 7, 12, 13] (by decide +kernel) (by decide +kernel)
set_option maxRecDepth 20000 in
theorem gX0_addPart_X0_at : GoodIn wsX0_addPart (wsV RX0 17 RX0 yX0_at wsX0_at) := goodIn_app (goodIn_of _ (by decide +kernel)) ggX0_addPart_X0_at
set_option maxRecDepth 20000 in
theorem ggX0_addPart_X0_add : GoodIn wsX0_addPart wsX0_add := goodIn_r _ [11, 6, 7, 12, 13] (by decide +kernel) (by decide +kernel)
set_option maxRecDepth 20000 in
theorem gX0_addPart_X0_add : GoodIn wsX0_addPart (wsV RX0 25 RX0 yX0_add wsX0_add) := goodIn_app (goodIn_of _ (by decide +kernel)) ggX0_addPart_X0_add
theorem dX0_addPart_0 : decode cX0_addPart 0 = .ok (.iconst 0, 1) := by decide +kernel
theorem dX0_addPart_1 : decode cX0_addPart 1 = .ok (.istore 4, 2) := by decide +kernel
theorem dX0_addPart_3 : decode cX0_addPart 3 = .ok (.iload 4, 2) := by decide +kernel
theorem dX0_addPart_5 : decode cX0_addPart 5 = .ok (.iload_n 3, 1) := by decide +kernel
theorem dX0_addPart_6 : decode cX0_addPart 6 = .ok (.if_icmp .ge 21, 3) := by decide +kernel
theorem dX0_addPart_9 : decode cX0_addPart 9 = .ok (.aload_n 0, 1) := by decide +kernel
theorem dX0_addPart_10 : decode cX0_addPart 10 = .ok (.aload_n 1, 1) := by decide +kernel
theorem dX0_addPart_11 : decode cX0_addPart 11 = .ok (.iload_n 2, 1) := by decide +kernel
theorem dX0_addPart_12 : decode cX0_addPart 12 = .ok (.iload 4, 2) := by decide +kernel
theorem dX0_addPart_14 : decode cX0_addPart 14 = .ok (.iadd, 1) := by decide +kernel
theorem dX0_addPart_15 : decode cX0_addPart 15 = .ok (.invokevirtual 17, 3) := by decide +kernel
theorem dX0_addPart_18 : decode cX0_addPart 18 = .ok (.invokevirtual 25, 3) := by decide +kernel
theorem dX0_addPart_21 : decode cX0_addPart 21 = .ok (.iinc 4 1, 3) := by decide +kernel
theorem dX0_addPart_24 : decode cX0_addPart 24 = .ok (.goto (-21), 3) := by decide +kernel
theorem dX0_addPart_27 : decode cX0_addPart 27 = .ok (.return_, 1) := by decide +kernel
theorem dX0_clear_0 : decode cX0_clear 0 = .ok (.aload_n 0, 1) := by decide +kernel
theorem dX0_clear_1 : decode cX0_clear 1 = .ok (.iconst 0, 1) := by decide +kernel
theorem dX0_clear_2 : decode cX0_clear 2 = .ok (.putfield 13, 3) := by decide +kernel
theorem dX0_clear_5 : decode cX0_clear 5 = .ok (.return_, 1) := by decide +kernel
theorem dX0_shorten_0 : decode cX0_shorten 0 = .ok (.iload_n 1, 1) := by decide +kernel
theorem dX0_shorten_1 : decode cX0_shorten 1 = .ok (.ifCond .lt 16, 3) := by decide +kernel
theorem dX0_shorten_4 : decode cX0_shorten 4 = .ok (.iload_n 1, 1) := by decide +kernel
theorem dX0_shorten_5 : decode cX0_shorten 5 = .ok (.aload_n 0, 1) := by decide +kernel
theorem dX0_shorten_6 : decode cX0_shorten 6 = .ok (.getfield 13, 3) := by decide +kernel
theorem dX0_shorten_9 : decode cX0_shorten 9 = .ok (.if_icmp .ge 8, 3) := by decide +kernel
theorem dX0_shorten_12 : decode cX0_shorten 12 = .ok (.aload_n 0, 1) := by decide +kernel
theorem dX0_shorten_13 : decode cX0_shorten 13 = .ok (.iload_n 1, 1) := by decide +kernel
theorem dX0_shorten_14 : decode cX0_shorten 14 = .ok (.putfield 13, 3) := by decide +kernel
theorem dX0_shorten_17 : decode cX0_shorten 17 = .ok (.return_, 1) := by decide +kernel
set_option maxRecDepth 20000 in
theorem ggX0_fillFrom_X0_clear : GoodIn wsX0_fillFrom wsX0_clear := goodIn_r _ [5, 6, 24, 25] (by decide +kernel) (by decide +kernel)
set_option maxRecDepth 20000 in
theorem gX0_fillFrom_X0_clear : GoodIn wsX0_fillFrom (wsV RX0 29 RX0 yX0_clear wsX0_clear) := goodIn_app (goodIn_of _ (by decide +kernel)) ggX0_fillFrom_X0_clear
set_option maxRecDepth 20000 in
theorem ggX0_fillFrom_X0_size : GoodIn wsX0_fillFrom wsX0_size := goodIn_r _ [10, 6, 24, 25] (by decide +kernel) (by decide +kernel)
set_option maxRecDepth 20000 in
theorem gX0_fillFrom_X0_size : GoodIn wsX0_fillFrom (wsV RX0 32 RX0 yX0_size wsX0_size) := goodIn_app (goodIn_of _ (by decide +kernel)) ggX0_fillFrom_X0_size
set_option maxRecDepth 20000 in
theorem ggX0_fillFrom_X0_addPart : GoodIn wsX0_fillFrom wsX0_addPart := goodIn_r _ [14, 15, 16, 17, 4, 18, 6, 19, 20, 21, 22, 23, 24, 25] (by decide +kernel) (by decide +kernel)
set_option maxRecDepth 20000 in
theorem gX0_fillFrom_X0_addPart : GoodIn wsX0_fillFrom (wsV RX0 35 RX0 yX0_addPart wsX0_addPart) := goodIn_app (goodIn_of _ (by decide +kernel)) ggX0_fillFrom_X0_addPart
theorem dX0_fillFrom_0 : decode cX0_fillFrom 0 = .ok (.aload_n 1, 1) := by decide +kernel
theorem dX0_fillFrom_1 : decode cX0_fillFrom 1 = .ok (.aload_n 0, 1) := by decide +kernel
theorem dX0_fillFrom_2 : decode cX0_fillFrom 2 = .ok (.if_acmp .eq 17, 3) := by decide +kernel
theorem dX0_fillFrom_5 : decode cX0_fillFrom 5 = .ok (.aload_n 0, 1) := by decide +kernel
theorem dX0_fillFrom_6 : decode cX0_fillFrom 6 = .ok (.invokevirtual 29, 3) := by decide +kernel
theorem dX0_fillFrom_9 : decode cX0_fillFrom 9 = .ok (.aload_n 0, 1) := by decide +kernel
theorem dX0_fillFrom_10 : decode cX0_fillFrom 10 = .ok (.aload_n 1, 1) := by decide +kernel
theorem dX0_fillFrom_11 : decode cX0_fillFrom 11 = .ok (.iconst 0, 1) := by decide +kernel
theorem dX0_fillFrom_12 : decode cX0_fillFrom 12 = .ok (.aload_n 1, 1) := by decide +kernel
theorem dX0_fillFrom_13 : decode cX0_fillFrom 13 = .ok (.invokevirtual 32, 3) := by decide +kernel
theorem dX0_fillFrom_16 : decode cX0_fillFrom 16 = .ok (.invokevirtual 35, 3) := by decide +kernel
theorem dX0_fillFrom_19 : decode cX0_fillFrom 19 = .ok (.return_, 1) := by decide +kernel
set_option maxRecDepth 20000 in
theorem ggX0_sameAs_X0_size : GoodIn wsX0_sameAs wsX0_size := goodIn_r _ [6, 1, 12, 13] (by decide +kernel) (by decide +kernel)
set_option maxRecDepth 20000 in
theorem gX0_sameAs_X0_size : GoodIn wsX0_sameAs (wsV RX0 32 RX0 yX0_size wsX0_size) := goodIn_app (goodIn_of _ (by decide +kernel)) ggX0_sameAs_X0_size
set_option maxRecDepth 20000 in
theorem ggX0_sameAs_X0_at : GoodIn wsX0_sameAs wsX0_at := goodIn_r _ [10, 1, 11, 12, 13] (by decide +kernel) (by decide +kernel)
set_option maxRecDepth 20000 in
theorem gX0_sameAs_X0_at : GoodIn wsX0_sameAs (wsV RX0 17 RX0 yX0_at wsX0_at) := goodIn_app (goodIn_of _ (by decide +kernel)) ggX0_sameAs_X0_at
theorem dX0_sameAs_0 : decode cX0_sameAs 0 = .ok (.aload_n 0, 1) := by decide +kernel
theorem dX0_sameAs_1 : decode cX0_sameAs 1 = .ok (.getfield 13, 3) := by decide +kernel
theorem dX0_sameAs_4 : decode cX0_sameAs 4 = .ok (.aload_n 1, 1) := by decide +kernel
theorem dX0_sameAs_5 : decode cX0_sameAs 5 = .ok (.invokevirtual 32, 3) := by decide +kernel
theorem dX0_sameAs_8 : decode cX0_sameAs 8 = .ok (.if_icmp .eq 5, 3) := by decide +kernel
theorem dX0_sameAs_11 : decode cX0_sameAs 11 = .ok (.iconst 0, 1) := by decide +kernel
theorem dX0_sameAs_12 : decode cX0_sameAs 12 = .ok (.ireturn, 1) := by decide +kernel
theorem dX0_sameAs_13 : decode cX0_sameAs 13 = .ok (.iconst 0, 1) := by decide +kernel
theorem dX0_sameAs_14 : decode cX0_sameAs 14 = .ok (.istore_n 2, 1) := by decide +kernel
theorem dX0_sameAs_15 : decode cX0_sameAs 15 = .ok (.iload_n 2, 1) := by decide +kernel
theorem dX0_sameAs_16 : decode cX0_sameAs 16 = .ok (.aload_n 0, 1) := by decide +kernel
theorem dX0_sameAs_17 : decode cX0_sameAs 17 = .ok (.getfield 13, 3) := by decide +kernel
theorem dX0_sameAs_20 : decode cX0_sameAs 20 = .ok (.if_icmp .ge 24, 3) := by decide +kernel
theorem dX0_sameAs_23 : decode cX0_sameAs 23 = .ok (.aload_n 0, 1) := by decide +kernel
theorem dX0_sameAs_24 : decode cX0_sameAs 24 = .ok (.iload_n 2, 1) := by decide +kernel
theorem dX0_sameAs_25 : decode cX0_sameAs 25 = .ok (.invokevirtual 17, 3) := by decide +kernel
theorem dX0_sameAs_28 : decode cX0_sameAs 28 = .ok (.aload_n 1, 1) := by decide +kernel
theorem dX0_sameAs_29 : decode cX0_sameAs 29 = .ok (.iload_n 2, 1) := by decide +kernel
theorem dX0_sameAs_30 : decode cX0_sameAs 30 = .ok (.invokevirtual 17, 3) := by decide +kernel
theorem dX0_sameAs_33 : decode cX0_sameAs 33 = .ok (.if_icmp .eq 5, 3) := by decide +kernel
theorem dX0_sameAs_36 : decode cX0_sameAs 36 = .ok (.iconst 0, 1) := by decide +kernel
theorem dX0_sameAs_37 : decode cX0_sameAs 37 = .ok (.ireturn, 1) := by decide +kernel
theorem dX0_sameAs_38 : decode cX0_sameAs 38 = .ok (.iinc 2 1, 3) := by decide +kernel
theorem dX0_sameAs_41 : decode cX0_sameAs 41 = .ok (.goto (-26), 3) := by decide +kernel
theorem dX0_sameAs_44 : decode cX0_sameAs 44 = .ok (.iconst 1, 1) := by decide +kernel
theorem dX0_sameAs_45 : decode cX0_sameAs 45 = .ok (.ireturn, 1) := by decide +kernel
end
section
/-! ===== the layer: numbers, a memory as a function, one judgement X over W, a row an instruction ===== -/
def zI (k : Int) : Int32 := Int32.ofInt k
theorem zI_add (a b : Int) : zI a + zI b = zI (a + b) := (Int32.ofInt_add a b).symm
theorem zI_sub (a b : Int) : zI a - zI b = zI (a - b) := (Int32.ofInt_sub a b).symm
theorem zI_mul (a b : Int) : zI a * zI b = zI (a * b) := (Int32.ofInt_mul a b).symm
theorem zI_toInt {a : Int} (h : -2147483648 ≤ a ∧ a < 2147483648) : (zI a).toInt = a := Int32.toInt_ofInt_of_le h.1 h.2
theorem zI_lt {a b : Int} (ha : -2147483648 ≤ a ∧ a < 2147483648) (hb : -2147483648 ≤ b ∧ b < 2147483648) : zI a < zI b ↔ a < b := by
  rw [Int32.lt_iff_toInt_lt, zI_toInt ha, zI_toInt hb]
theorem zI_le {a b : Int} (ha : -2147483648 ≤ a ∧ a < 2147483648) (hb : -2147483648 ≤ b ∧ b < 2147483648) : zI a ≤ zI b ↔ a ≤ b := by
  rw [Int32.le_iff_toInt_le, zI_toInt ha, zI_toInt hb]
theorem zI_eq {a b : Int} (ha : -2147483648 ≤ a ∧ a < 2147483648) (hb : -2147483648 ≤ b ∧ b < 2147483648) : zI a = zI b ↔ a = b := by
  rw [← Int32.toInt_inj, zI_toInt ha, zI_toInt hb]
theorem zI_0 : zI 0 = 0 := by decide +kernel
theorem zI_nat (n : Nat) : zI (n : Int) = nI n := rfl
theorem zI_of (x : Int32) : ∃ k : Int, x = zI k ∧ -2147483648 ≤ k ∧ k < 2147483648 :=
  ⟨x.toInt, (Int32.ofInt_toInt x).symm, x.le_toInt, x.toInt_lt⟩
theorem zI_clamp {k : Int} (h : 0 ≤ k ∧ k < 2147483648) : (zI k).toNatClampNeg = k.toNat := by
  show (zI k).toInt.toNat = _
  rw [zI_toInt ⟨by omega, h.2⟩]
theorem zI_in {k : Int} {n : Nat} (h0 : 0 ≤ k) (h1 : k < n) (hn : n < 2147483648) : vp_in (zI k) n := by
  rw [vp_in_iff, zI_toInt ⟨by omega, by omega⟩]
  exact ⟨h0, h1⟩
theorem zI_ne0 {b : Int} (hb : 0 < b ∧ b < 2147483648) : ¬ zI b = 0 := by
  rw [← zI_0, zI_eq ⟨by omega, by omega⟩ (by decide)]
  omega
theorem zI_div {a b : Int} (ha : 0 ≤ a ∧ a < 2147483648) (hb : 0 < b ∧ b < 2147483648) : zI a / zI b = zI (a / b) := by
  obtain ⟨x, rfl⟩ := Int.eq_ofNat_of_zero_le ha.1
  obtain ⟨y, rfl⟩ := Int.eq_ofNat_of_zero_le (Int.le_of_lt hb.1)
  exact pk_div (by omega) (by omega) (by omega)
theorem zI_rem {a b : Int} (ha : 0 ≤ a ∧ a < 2147483648) (hb : 0 < b ∧ b < 2147483648) : zI a - zI a / zI b * zI b = zI (a % b) := by
  obtain ⟨x, rfl⟩ := Int.eq_ofNat_of_zero_le ha.1
  obtain ⟨y, rfl⟩ := Int.eq_ofNat_of_zero_le (Int.le_of_lt hb.1)
  exact pk_rem (by omega) (by omega) (by omega)
/-- a memory: what stands at an address -/
abbrev mq_M : Type := Nat → Option va_E
def mq_up (M : mq_M) (a : Nat) (e : va_E) : mq_M := fun b => if b = a then some e else M b
theorem mq_up_s {M : mq_M} {a : Nat} {e : va_E} : mq_up M a e a = some e := by simp [mq_up]
theorem mq_up_n {M : mq_M} {a b : Nat} {e : va_E} (h : b ≠ a) : mq_up M a e b = M b := by simp [mq_up, h]
/-- the list of cells ws is the memory M -/
def mq_I (M : mq_M) (ws : va_W) : Prop := ∀ (a : Nat) (e : va_E), M a = some e ↔ (a, e) ∈ ws
/-- the heap holds M, all of it at or above z -/
def mq_H (D : va_G) (z : Nat) (M : mq_M) (H : Heap) : Prop := ∃ ws : va_W, va_P D vwCl ws H ∧ va_D (fun q => z ≤ q) ws ∧ mq_I M ws
theorem mq_I.at {M : mq_M} {ws : va_W} {a : Nat} {e : va_E} (h : mq_I M ws) (hM : M a = some e) : ∃ q : Nat, ws[q]? = some (a, e) := List.getElem?_of_mem ((h a e).mp hM)
theorem mq_I.set {M : mq_M} {ws : va_W} {A : Nat → Prop} {q a : Nat} {e0 e : va_E} (h : mq_I M ws) (hD : va_D A ws) (hq : ws[q]? = some (a, e0)) : mq_I (mq_up M a e) (ws.set q (a, e)) := by
  have hl := (List.getElem?_eq_some_iff.mp hq).1
  intro b x
  by_cases hb : b = a
  · subst hb
    rw [mq_up_s]
    constructor
    · intro hx
      cases hx
      exact List.mem_of_getElem? (i := q) (by rw [List.getElem?_set_self hl])
    · intro hx
      obtain ⟨i, hi⟩ := List.getElem?_of_mem hx
      by_cases hiq : i = q
      · subst hiq
        rw [List.getElem?_set_self hl] at hi
        cases hi
        rfl
      · rw [List.getElem?_set_ne (Ne.symm hiq)] at hi
        exact absurd (hD.1 i q _ _ hi hq rfl) hiq
  · rw [mq_up_n hb, h b x]
    constructor
    · intro hx
      obtain ⟨i, hi⟩ := List.getElem?_of_mem hx
      have hiq : i ≠ q := fun z => by
        subst z
        rw [hq] at hi
        cases hi
        exact hb rfl
      exact List.mem_of_getElem? (i := i) (by rw [List.getElem?_set_ne (Ne.symm hiq)]; exact hi)
    · intro hx
      obtain ⟨i, hi⟩ := List.getElem?_of_mem hx
      by_cases hiq : i = q
      · subst hiq
        rw [List.getElem?_set_self hl] at hi
        cases hi
        exact absurd rfl hb
      · rw [List.getElem?_set_ne (Ne.symm hiq)] at hi
        exact List.mem_of_getElem? hi
theorem mq_I.push {M : mq_M} {ws : va_W} {A : Nat → Prop} {a : Nat} {e : va_E} (h : mq_I M ws) (hD : va_D A (ws ++ [(a, e)])) : M a = none ∧ mq_I (mq_up M a e) (ws ++ [(a, e)]) := by
  have hn : M a = none := by
    cases hx : M a with
    | none => rfl
    | some x =>
      obtain ⟨i, hi⟩ := h.at hx
      have hl := (List.getElem?_eq_some_iff.mp hi).1
      have h1 : (ws ++ [(a, e)])[i]? = some (a, x) := by rw [List.getElem?_append_left hl]; exact hi
      have h2 : (ws ++ [(a, e)])[ws.length]? = some (a, e) := by simp
      have := hD.1 i ws.length _ _ h1 h2 rfl
      omega
  refine ⟨hn, fun b x => ?_⟩
  by_cases hb : b = a
  · subst hb
    rw [mq_up_s]
    constructor
    · intro hx
      cases hx
      exact List.mem_append_right _ List.mem_cons_self
    · intro hx
      rcases List.mem_append.mp hx with h1 | h1
      · rw [(h b x).mpr h1] at hn
        cases hn
      · cases List.mem_singleton.mp h1
        rfl
  · rw [mq_up_n hb, h b x]
    constructor
    · exact fun hx => List.mem_append_left _ hx
    · intro hx
      rcases List.mem_append.mp hx with h1 | h1
      · exact h1
      · cases List.mem_singleton.mp h1
        exact absurd rfl hb
/-- locals, by place; none: nothing is known -/
def mq_L (la : Array Slot) (nL : Nat) (L : List (Option Value)) : Prop := la.size = nL ∧ lv_wf la ∧ L.length = nL ∧ ∀ (i : Nat) (v : Value), L[i]? = some (some v) → la[i]? = some (.val v)
def mq_prs (L : List (Option Value)) : List (Nat × Value) := (List.range L.length).filterMap (fun i => match L[i]? with | some (some v) => some (i, v) | _ => none)
theorem mq_prs_mem {L : List (Option Value)} {i : Nat} {v : Value} : (i, v) ∈ mq_prs L ↔ L[i]? = some (some v) := by
  unfold mq_prs
  rw [List.mem_filterMap]
  constructor
  · rintro ⟨j, -, h2⟩
    split at h2
    · rename_i w hw
      cases h2
      exact hw
    · cases h2
  · intro h
    refine ⟨i, List.mem_range.mpr (List.getElem?_eq_some_iff.mp h).1, ?_⟩
    rw [h]
theorem mq_L.has {la : Array Slot} {nL : Nat} {L : List (Option Value)} (h : mq_L la nL L) : lv_has la nL (mq_prs L) := ⟨h.1, h.2.1, fun q hq => h.2.2.2 q.1 q.2 (mq_prs_mem.mp hq)⟩
/-- no long or double stands just ahead of place i -/
def mq_no2 (L : List (Option Value)) : Nat → Bool
  | 0 => true
  | j + 1 => match L[j]? with
    | some (some v) => v.category == 1
    | _ => true
theorem mq_L.set1 {la la' : Array Slot} {nL : Nat} {L : List (Option Value)} {i : Nat} {v : Value} (h : mq_L la nL L) (hi : i < nL) (h2 : mq_no2 L i = true)
    (h' : lv_has la' nL ((i, v) :: (mq_prs L).filter (fun q => !(q.1 == i) && !(q.1 + 1 == i && q.2.category == 2)))) : mq_L la' nL (L.set i (some v)) := by
  refine ⟨h'.1, h'.2.1, by rw [List.length_set]; exact h.2.2.1, fun j w hj => ?_⟩
  by_cases hji : j = i
  · subst hji
    rw [List.getElem?_set_self (by rw [h.2.2.1]; exact hi)] at hj
    cases hj
    exact h'.2.2 (j, v) List.mem_cons_self
  · rw [List.getElem?_set_ne (Ne.symm hji)] at hj
    refine h'.2.2 (j, w) (List.mem_cons_of_mem _ (List.mem_filter.mpr ⟨mq_prs_mem.mpr hj, ?_⟩))
    have h3 : (j + 1 == i && w.category == 2) = false := by
      by_cases hk : j + 1 = i
      · subst hk
        have h4 : w.category = 1 := by simpa [mq_no2, hj] using h2
        simp [h4]
      · simp [hk]
    simp [hji, h3]
theorem mq_L.set2 {la la' : Array Slot} {nL : Nat} {L : List (Option Value)} {i : Nat} {v : Value} (h : mq_L la nL L) (hi : i + 1 < nL) (h2 : mq_no2 L i = true)
    (h' : lv_has la' nL ((i, v) :: (mq_prs L).filter (fun q => !(q.1 == i) && (!(q.1 == i + 1) && !(q.1 + 1 == i && q.2.category == 2))))) : mq_L la' nL ((L.set i (some v)).set (i + 1) none) := by
  refine ⟨h'.1, h'.2.1, by rw [List.length_set, List.length_set]; exact h.2.2.1, fun j w hj => ?_⟩
  by_cases hj1 : j = i + 1
  · subst hj1
    rw [List.getElem?_set_self (by rw [List.length_set, h.2.2.1]; exact hi)] at hj
    cases hj
  rw [List.getElem?_set_ne (Ne.symm hj1)] at hj
  by_cases hji : j = i
  · subst hji
    rw [List.getElem?_set_self (by rw [h.2.2.1]; omega)] at hj
    cases hj
    exact h'.2.2 (j, v) List.mem_cons_self
  · rw [List.getElem?_set_ne (Ne.symm hji)] at hj
    refine h'.2.2 (j, w) (List.mem_cons_of_mem _ (List.mem_filter.mpr ⟨mq_prs_mem.mpr hj, ?_⟩))
    have h3 : (j + 1 == i && w.category == 2) = false := by
      by_cases hk : j + 1 = i
      · subst hk
        have h4 : w.category = 1 := by simpa [mq_no2, hj] using h2
        simp [h4]
      · simp [hk]
    simp [hji, hj1, h3]
/-- the locals of a method at its entry -/
def mq_of (n : Nat) (l : List (Nat × Value)) : List (Option Value) := (List.range n).map (fun i => (l.find? (fun q => q.1 == i)).map (fun q => q.2))
theorem mq_L.entry {la : Array Slot} {n : Nat} {l : List (Nat × Value)} (h : lv_has la n l) : mq_L la n (mq_of n l) := by
  refine ⟨h.1, h.2.1, by simp [mq_of], fun i v hi => ?_⟩
  unfold mq_of at hi
  rw [List.getElem?_map] at hi
  by_cases hn : i < n
  · rw [List.getElem?_range hn] at hi
    simp only [Option.map_some, Option.some.injEq] at hi
    cases hf : l.find? (fun q => q.1 == i) with
    | none => rw [hf] at hi; cases hi
    | some q =>
      rw [hf] at hi
      cases hi
      have h1 := List.mem_of_find?_eq_some hf
      have h2 := List.find?_some hf
      have h3 : q.1 = i := by simpa using h2
      rw [← h3]
      exact h.2.2 q h1
  · rw [List.getElem?_eq_none (by simp; omega)] at hi
    cases hi
/-- a contract: from the memory M with the arguments av the method returns, 'post' of its answer and of the memory behind it; nothing below z changes -/
def mq_nf : List (String × Nat × String × String × String × String) := [("OssuaryVault$Desk", 56, "OssuaryVault$DeskFile", "content", "LOssuaryVault$Bytes;", "OssuaryVault"), ("OssuaryVault", 153, "OssuaryVault$DeskFile", "content", "LOssuaryVault$Bytes;", "OssuaryVault"), ("OssuaryVault", 163, "OssuaryVault$DeskFile", "packed", "LOssuaryVault$Bytes;", "OssuaryVault"), ("OssuaryVault$Desk", 49, "OssuaryVault$DeskFile", "key", "I", "OssuaryVault"), ("OssuaryVault", 147, "OssuaryVault$DeskFile", "key", "I", "OssuaryVault"), ("OssuaryVault", 160, "OssuaryVault$DeskFile", "contentCheck", "I", "OssuaryVault"), ("OssuaryVault", 89, "OssuaryVault$Desk", "sheet", "LOssuaryVault$Bytes;", "OssuaryVault"), ("OssuaryVault$Recovery", 62, "OssuaryVault$Volume", "bytes", "LOssuaryVault$Bytes;", "OssuaryVault"), ("OssuaryVault$Shelf", 100, "OssuaryVault$Volume", "bytes", "LOssuaryVault$Bytes;", "OssuaryVault"), ("OssuaryVault", 195, "OssuaryVault$Volume", "bytes", "LOssuaryVault$Bytes;", "OssuaryVault"), ("OssuaryVault", 233, "OssuaryVault$Shelf", "leaderPlace", "I", "OssuaryVault"), ("OssuaryVault", 236, "OssuaryVault$Shelf", "members", "I", "OssuaryVault"), ("OssuaryVault$Reading", 111, "OssuaryVault$FoundFile", "content", "LOssuaryVault$Bytes;", "OssuaryVault"), ("OssuaryVault", 298, "OssuaryVault$FoundFile", "content", "LOssuaryVault$Bytes;", "OssuaryVault"), ("OssuaryVault$Reading", 92, "OssuaryVault$FoundFile", "key", "I", "OssuaryVault"), ("OssuaryVault", 286, "OssuaryVault$FoundFile", "key", "I", "OssuaryVault"), ("OssuaryVault$Reading", 95, "OssuaryVault$FoundFile", "place", "I", "OssuaryVault"), ("OssuaryVault", 289, "OssuaryVault$FoundFile", "place", "I", "OssuaryVault"), ("OssuaryVault$Reading", 98, "OssuaryVault$FoundFile", "lengthTold", "I", "OssuaryVault"), ("OssuaryVault$Reading", 63, "OssuaryVault$FoundFile", "good", "Z", "OssuaryVault"), ("OssuaryVault", 292, "OssuaryVault$FoundFile", "good", "Z", "OssuaryVault"), ("OssuaryVault", 248, "OssuaryVault$Reading", "stream", "LOssuaryVault$Bytes;", "OssuaryVault"), ("OssuaryVault", 327, "OssuaryVault$Reading", "isOpen", "Z", "OssuaryVault"), ("OssuaryVault", 251, "OssuaryVault$Reading", "data", "I", "OssuaryVault"), ("OssuaryVault", 254, "OssuaryVault$Reading", "parity", "I", "OssuaryVault"), ("OssuaryVault", 276, "OssuaryVault$Reading", "indexed", "Z", "OssuaryVault"), ("OssuaryVault", 280, "OssuaryVault$Reading", "count", "I", "OssuaryVault")]
def mq_na : List String := ["OssuaryVault$DeskFile", "OssuaryVault$FoundFile", "OssuaryVault$Volume"]
def mq_nm : List (String × Nat × MethodName × String) := [("OssuaryVault$Desk", 33, ⟨"OssuaryVault$DeskFile", "<init>", "()V"⟩, "OssuaryVault"), ("OssuaryVault$Reading", 31, ⟨"OssuaryVault$FoundFile", "<init>", "()V"⟩, "OssuaryVault"), ("OssuaryVault$Volume", 54, ⟨"OssuaryVault", "bodySize", "(II)I"⟩, "OssuaryVault"), ("OssuaryVault$Shelf", 91, ⟨"OssuaryVault", "bodySize", "(II)I"⟩, "OssuaryVault")]
/-- the links among nest mates stand in the tables -/
def mq_N (U : State) : Prop := (∀ q ∈ mq_nf, va_Nw (.fieldLinkNest q.1 q.2.1 q.2.2.1 q.2.2.2.1 q.2.2.2.2.1 q.2.2.2.2.2) U) ∧ (∀ q ∈ mq_nm, va_Nw (.methodLinkNest q.1 q.2.1 q.2.2.1 q.2.2.2) U) ∧ ∀ q ∈ mq_na, va_AO q U
theorem mq_N.warm {s U : State} (hW : s.WarmedH U.vm) (h : mq_N s) : mq_N U := ⟨fun q hq => va_Nw.warmF hW (h.1 q hq), fun q hq => va_Nw.warmM hW (h.2.1 q hq), fun q hq => (h.2.2 q hq).moved hW.alike⟩
theorem mq_N.same {s U : State} (e : s.vm = U.vm) (h : mq_N s) : mq_N U := ⟨fun q hq => va_Nw.same rfl e (h.1 q hq), fun q hq => va_Nw.same rfl e (h.2.1 q hq), fun q hq => (h.2.2 q hq).moved (by rw [e]; exact Vm.Alike.refl _)⟩
def mq_K (D : va_G) (tys : List (ClassId × FieldType)) (U : State) : Prop := va_K D vwCl tys U ∧ mq_N U
def mq_Qc (D : va_G) (z : Nat) (post : Option Value → mq_M → Prop) : Array Value → State → Outcome → State → Prop := fun _ st oc t => (∃ (v : Option Value) (M' : mq_M), oc = .returned v ∧ post v M' ∧ mq_H D z M' t.heap) ∧ va_F (fun q => z ≤ q) st t
def mq_Pr (D : va_G) (tys : List (ClassId × FieldType)) (z : Nat) (M : mq_M) (U : State) : Prop := mq_H D z M U.heap ∧ z ≤ U.heap.size ∧ mq_K D tys U
def mq_Met (l : Launch) (y : MethodName) (ws : List Cond) (rm : Room) (D : va_G) (tys : List (ClassId × FieldType)) (av : List Value) (M : mq_M) (post : Option Value → mq_M → Prop) (mc ms : Nat) : Prop :=
  ∀ z : Nat, Met l y ws rm (va_Pc av (mq_Pr D tys z M)) (mq_Qc D z post) mc ms (fun q => z ≤ q)
/-- the kinds of answers -/
def mq_pi (P : Int → mq_M → Prop) : Option Value → mq_M → Prop := fun v M' => ∃ k : Int, v = some (.int (zI k)) ∧ P k M'
def mq_pl (P : Int64 → mq_M → Prop) : Option Value → mq_M → Prop := fun v M' => ∃ k : Int64, v = some (.long k) ∧ P k M'
def mq_pv (P : mq_M → Prop) : Option Value → mq_M → Prop := fun v M' => v = none ∧ P M'
def mq_pr (P : Option Nat → mq_M → Prop) : Option Value → mq_M → Prop := fun v M' => ∃ k : Option Nat, v = some (va_rf k) ∧ P k M'
/-- what stays through a method's walk -/
def mq_C (p : Program) (m : MethodId) (c : Code) (cc : ByteArray) (nL : Nat) (s : State) (args : Array Value) (Ts : List Cond) (own : String) (D : va_G) (tys : List (ClassId × FieldType)) : Prop :=
  CallFix p m c cc nL s args Ts own ∧ mq_K D tys s
section MQX
variable {p : Program} {l : Launch} {e : Env} {R : Room} {s : State} {m : MethodId} {args : Array Value} {below : List Frame} {meth : Method} {c : Code} {Q : State → Prop}
variable {cc : ByteArray} {nL : Nat} {Ts : List Cond} {own : String} {D : va_G} {tys : List (ClassId × FieldType)} {z : Nat} {H0 : Heap} {cells slots : Nat} {M : mq_M} {pc : Nat} {L : List (Option Value)} {st : List Value}
/-- the machine at pc, the memory M, the locals L, the stack st: it comes to Q -/
def mq_X (p : Program) (l : Launch) (e : Env) (R : Room) (s : State) (m : MethodId) (args : Array Value) (below : List Frame) (meth : Method) (c : Code) (Q : State → Prop) (nL : Nat) (D : va_G) (z : Nat) (H0 : Heap) (cells slots : Nat) (M : mq_M) (pc : Nat) (L : List (Option Value)) (st : List Value) : Prop :=
  ∀ (H : Heap) (locs : List Loc) (la : Array Slot) (ws : va_W), mq_L la nL L → va_P D vwCl ws H → va_D (fun q => z ≤ q) ws → mq_I M ws → va_S (fun q => z ≤ q) H0 H locs → z ≤ H0.size → W p l e R s m args below meth c H locs cells slots Q (F0 m pc la st)

theorem xr_iconst (C : mq_C p m c cc nL s args Ts own D tys) {n : Int} (d : decode cc pc = .ok (.iconst n, 1)) (hv : Int32.ofInt n = zI n)
    (k : mq_X p l e R s m args below meth c Q nL D z H0 cells slots M (pc + 1) L (.int (zI n) :: st)) : mq_X p l e R s m args below meth c Q nL D z H0 cells slots M pc L st :=
  fun H locs la ws h1 h2 h3 h4 h5 h6 => lv_iconst C.1.1 C.1.2.1 d hv (k H locs la ws h1 h2 h3 h4 h5 h6)
theorem xr_bipush (C : mq_C p m c cc nL s args Ts own D tys) {n : Int} (d : decode cc pc = .ok (.bipush n, 2)) (hv : (Int8.ofInt n).toInt32 = zI n)
    (k : mq_X p l e R s m args below meth c Q nL D z H0 cells slots M (pc + 2) L (.int (zI n) :: st)) : mq_X p l e R s m args below meth c Q nL D z H0 cells slots M pc L st :=
  fun H locs la ws h1 h2 h3 h4 h5 h6 => lv_bipush C.1.1 C.1.2.1 d hv (k H locs la ws h1 h2 h3 h4 h5 h6)
theorem xr_sipush (C : mq_C p m c cc nL s args Ts own D tys) {n : Int} (d : decode cc pc = .ok (.sipush n, 3)) (hv : (Int16.ofInt n).toInt32 = zI n)
    (k : mq_X p l e R s m args below meth c Q nL D z H0 cells slots M (pc + 3) L (.int (zI n) :: st)) : mq_X p l e R s m args below meth c Q nL D z H0 cells slots M pc L st :=
  fun H locs la ws h1 h2 h3 h4 h5 h6 => lv_sipush C.1.1 C.1.2.1 d hv (k H locs la ws h1 h2 h3 h4 h5 h6)
theorem xr_ldc (C : mq_C p m c cc nL s args Ts own D tys) {index : Nat} {k0 : Int} (hc : (Jvm.Cond.constant own index (zI k0)).before args s = true) (d : decode cc pc = .ok (.ldc index, 2))
    (k : mq_X p l e R s m args below meth c Q nL D z H0 cells slots M (pc + 2) L (.int (zI k0) :: st)) : mq_X p l e R s m args below meth c Q nL D z H0 cells slots M pc L st :=
  fun H locs la ws h1 h2 h3 h4 h5 h6 => lv_ldc C.1.1 C.1.2.1 C.1.2.2.2.1 hc d (k H locs la ws h1 h2 h3 h4 h5 h6)
theorem xr_ldc2 (C : mq_C p m c cc nL s args Ts own D tys) {index : Nat} {k0 : Int64} (hc : (Jvm.Cond.constantLong own index k0).before args s = true) (d : decode cc pc = .ok (.ldc2_w index, 3))
    (k : mq_X p l e R s m args below meth c Q nL D z H0 cells slots M (pc + 3) L (.long k0 :: st)) : mq_X p l e R s m args below meth c Q nL D z H0 cells slots M pc L st :=
  fun H locs la ws h1 h2 h3 h4 h5 h6 => lv_ldc2 C.1.1 C.1.2.1 C.1.2.2.2.1 hc d (k H locs la ws h1 h2 h3 h4 h5 h6)
theorem xr_lconst (C : mq_C p m c cc nL s args Ts own D tys) {n : Fin 2} {v : Int64} (d : decode cc pc = .ok (.lconst n, 1)) (hv : Int64.ofNat (n : Nat) = v)
    (k : mq_X p l e R s m args below meth c Q nL D z H0 cells slots M (pc + 1) L (.long v :: st)) : mq_X p l e R s m args below meth c Q nL D z H0 cells slots M pc L st :=
  fun H locs la ws h1 h2 h3 h4 h5 h6 => lv_lconst C.1.1 C.1.2.1 d hv (k H locs la ws h1 h2 h3 h4 h5 h6)
theorem xr_null (C : mq_C p m c cc nL s args Ts own D tys) (d : decode cc pc = .ok (.aconst_null, 1))
    (k : mq_X p l e R s m args below meth c Q nL D z H0 cells slots M (pc + 1) L (.null :: st)) : mq_X p l e R s m args below meth c Q nL D z H0 cells slots M pc L st :=
  fun H locs la ws h1 h2 h3 h4 h5 h6 => lv_null C.1.1 C.1.2.1 d (k H locs la ws h1 h2 h3 h4 h5 h6)
theorem xr_iload_n (C : mq_C p m c cc nL s args Ts own D tys) {k0 : Fin 4} {x : Int32} (d : decode cc pc = .ok (.iload_n k0, 1)) (hL : L[(k0 : Nat)]? = some (some (.int x)))
    (k : mq_X p l e R s m args below meth c Q nL D z H0 cells slots M (pc + 1) L (.int x :: st)) : mq_X p l e R s m args below meth c Q nL D z H0 cells slots M pc L st :=
  fun H locs la ws h1 h2 h3 h4 h5 h6 => lv_iload_n C.1.1 C.1.2.1 d rfl (h1.2.2.2 _ _ hL) (k H locs la ws h1 h2 h3 h4 h5 h6)
theorem xr_iload (C : mq_C p m c cc nL s args Ts own D tys) {i : Nat} {x : Int32} (d : decode cc pc = .ok (.iload i, 2)) (hL : L[i]? = some (some (.int x)))
    (k : mq_X p l e R s m args below meth c Q nL D z H0 cells slots M (pc + 2) L (.int x :: st)) : mq_X p l e R s m args below meth c Q nL D z H0 cells slots M pc L st :=
  fun H locs la ws h1 h2 h3 h4 h5 h6 => lv_iload C.1.1 C.1.2.1 d (h1.2.2.2 _ _ hL) (k H locs la ws h1 h2 h3 h4 h5 h6)
theorem xr_istore_n (C : mq_C p m c cc nL s args Ts own D tys) {k0 : Fin 4} {x : Int32} (d : decode cc pc = .ok (.istore_n k0, 1)) (hi : (k0 : Nat) < nL) (h2 : mq_no2 L (k0 : Nat) = true)
    (k : mq_X p l e R s m args below meth c Q nL D z H0 cells slots M (pc + 1) (L.set (k0 : Nat) (some (.int x))) st) : mq_X p l e R s m args below meth c Q nL D z H0 cells slots M pc L (.int x :: st) :=
  fun H locs la ws h1 g2 h3 h4 h5 h6 => lv_istore_n C.1.1 C.1.2.1 d rfl h1.has hi rfl (fun la2 h => k H locs la2 ws (h1.set1 hi h2 h) g2 h3 h4 h5 h6)
theorem xr_istore (C : mq_C p m c cc nL s args Ts own D tys) {i : Nat} {x : Int32} (d : decode cc pc = .ok (.istore i, 2)) (hi : i < nL) (h2 : mq_no2 L i = true)
    (k : mq_X p l e R s m args below meth c Q nL D z H0 cells slots M (pc + 2) (L.set i (some (.int x))) st) : mq_X p l e R s m args below meth c Q nL D z H0 cells slots M pc L (.int x :: st) :=
  fun H locs la ws h1 g2 h3 h4 h5 h6 => lv_istore C.1.1 C.1.2.1 d h1.has hi rfl (fun la2 h => k H locs la2 ws (h1.set1 hi h2 h) g2 h3 h4 h5 h6)
theorem xr_lload_n (C : mq_C p m c cc nL s args Ts own D tys) {k0 : Fin 4} {x : Int64} (d : decode cc pc = .ok (.lload_n k0, 1)) (hL : L[(k0 : Nat)]? = some (some (.long x)))
    (k : mq_X p l e R s m args below meth c Q nL D z H0 cells slots M (pc + 1) L (.long x :: st)) : mq_X p l e R s m args below meth c Q nL D z H0 cells slots M pc L st :=
  fun H locs la ws h1 h2 h3 h4 h5 h6 => lv_lload_n C.1.1 C.1.2.1 d rfl (h1.2.2.2 _ _ hL) (k H locs la ws h1 h2 h3 h4 h5 h6)
theorem xr_lload (C : mq_C p m c cc nL s args Ts own D tys) {i : Nat} {x : Int64} (d : decode cc pc = .ok (.lload i, 2)) (hL : L[i]? = some (some (.long x)))
    (k : mq_X p l e R s m args below meth c Q nL D z H0 cells slots M (pc + 2) L (.long x :: st)) : mq_X p l e R s m args below meth c Q nL D z H0 cells slots M pc L st :=
  fun H locs la ws h1 h2 h3 h4 h5 h6 => lv_lload C.1.1 C.1.2.1 d (h1.2.2.2 _ _ hL) (k H locs la ws h1 h2 h3 h4 h5 h6)
theorem xr_lstore_n (C : mq_C p m c cc nL s args Ts own D tys) {k0 : Fin 4} {x : Int64} (d : decode cc pc = .ok (.lstore_n k0, 1)) (hi : (k0 : Nat) + 1 < nL) (h2 : mq_no2 L (k0 : Nat) = true)
    (k : mq_X p l e R s m args below meth c Q nL D z H0 cells slots M (pc + 1) ((L.set (k0 : Nat) (some (.long x))).set ((k0 : Nat) + 1) none) st) : mq_X p l e R s m args below meth c Q nL D z H0 cells slots M pc L (.long x :: st) :=
  fun H locs la ws h1 g2 h3 h4 h5 h6 => lv_lstore_n C.1.1 C.1.2.1 d rfl h1.has hi rfl (fun la2 h => k H locs la2 ws (h1.set2 hi h2 h) g2 h3 h4 h5 h6)
theorem xr_lstore (C : mq_C p m c cc nL s args Ts own D tys) {i : Nat} {x : Int64} (d : decode cc pc = .ok (.lstore i, 2)) (hi : i + 1 < nL) (h2 : mq_no2 L i = true)
    (k : mq_X p l e R s m args below meth c Q nL D z H0 cells slots M (pc + 2) ((L.set i (some (.long x))).set (i + 1) none) st) : mq_X p l e R s m args below meth c Q nL D z H0 cells slots M pc L (.long x :: st) :=
  fun H locs la ws h1 g2 h3 h4 h5 h6 => lv_lstore C.1.1 C.1.2.1 d h1.has hi rfl (fun la2 h => k H locs la2 ws (h1.set2 hi h2 h) g2 h3 h4 h5 h6)
theorem xr_aload_n (C : mq_C p m c cc nL s args Ts own D tys) {k0 : Fin 4} {x : Nat} (d : decode cc pc = .ok (.aload_n k0, 1)) (hL : L[(k0 : Nat)]? = some (some (.ref x)))
    (k : mq_X p l e R s m args below meth c Q nL D z H0 cells slots M (pc + 1) L (.ref x :: st)) : mq_X p l e R s m args below meth c Q nL D z H0 cells slots M pc L st :=
  fun H locs la ws h1 h2 h3 h4 h5 h6 => lv_aload_n C.1.1 C.1.2.1 d rfl (h1.2.2.2 _ _ hL) (k H locs la ws h1 h2 h3 h4 h5 h6)
theorem xr_aload (C : mq_C p m c cc nL s args Ts own D tys) {i : Nat} {x : Nat} (d : decode cc pc = .ok (.aload i, 2)) (hL : L[i]? = some (some (.ref x)))
    (k : mq_X p l e R s m args below meth c Q nL D z H0 cells slots M (pc + 2) L (.ref x :: st)) : mq_X p l e R s m args below meth c Q nL D z H0 cells slots M pc L st :=
  fun H locs la ws h1 h2 h3 h4 h5 h6 => lv_aload C.1.1 C.1.2.1 d (h1.2.2.2 _ _ hL) (k H locs la ws h1 h2 h3 h4 h5 h6)
theorem xr_astore_n (C : mq_C p m c cc nL s args Ts own D tys) {k0 : Fin 4} {x : Nat} (d : decode cc pc = .ok (.astore_n k0, 1)) (hi : (k0 : Nat) < nL) (h2 : mq_no2 L (k0 : Nat) = true)
    (k : mq_X p l e R s m args below meth c Q nL D z H0 cells slots M (pc + 1) (L.set (k0 : Nat) (some (.ref x))) st) : mq_X p l e R s m args below meth c Q nL D z H0 cells slots M pc L (.ref x :: st) :=
  fun H locs la ws h1 g2 h3 h4 h5 h6 => lv_astore_n C.1.1 C.1.2.1 d rfl h1.has hi rfl (fun la2 h => k H locs la2 ws (h1.set1 hi h2 h) g2 h3 h4 h5 h6)
theorem xr_astore (C : mq_C p m c cc nL s args Ts own D tys) {i : Nat} {x : Nat} (d : decode cc pc = .ok (.astore i, 2)) (hi : i < nL) (h2 : mq_no2 L i = true)
    (k : mq_X p l e R s m args below meth c Q nL D z H0 cells slots M (pc + 2) (L.set i (some (.ref x))) st) : mq_X p l e R s m args below meth c Q nL D z H0 cells slots M pc L (.ref x :: st) :=
  fun H locs la ws h1 g2 h3 h4 h5 h6 => lv_astore C.1.1 C.1.2.1 d h1.has hi rfl (fun la2 h => k H locs la2 ws (h1.set1 hi h2 h) g2 h3 h4 h5 h6)
theorem xr_iinc (C : mq_C p m c cc nL s args Ts own D tys) {i : Nat} {n x : Int} (d : decode cc pc = .ok (.iinc i n, 3)) (hL : L[i]? = some (some (.int (zI x)))) (hi : i < nL) (h2 : mq_no2 L i = true)
    (k : mq_X p l e R s m args below meth c Q nL D z H0 cells slots M (pc + 3) (L.set i (some (.int (zI (x + n))))) st) : mq_X p l e R s m args below meth c Q nL D z H0 cells slots M pc L st :=
  fun H locs la ws h1 g2 h3 h4 h5 h6 => by
    obtain ⟨q, hq⟩ := List.getElem?_of_mem (mq_prs_mem.mpr hL)
    exact lv_iinc C.1.1 C.1.2.1 d h1.has hq (zI_add x n) hi rfl (fun la2 h => k H locs la2 ws (h1.set1 hi h2 h) g2 h3 h4 h5 h6)
theorem xr_nload_n (C : mq_C p m c cc nL s args Ts own D tys) {k0 : Fin 4} (d : decode cc pc = .ok (.aload_n k0, 1)) (hL : L[(k0 : Nat)]? = some (some .null))
    (k : mq_X p l e R s m args below meth c Q nL D z H0 cells slots M (pc + 1) L (.null :: st)) : mq_X p l e R s m args below meth c Q nL D z H0 cells slots M pc L st :=
  fun H locs la ws h1 h2 h3 h4 h5 h6 => lv_aload_nN C.1.1 C.1.2.1 d rfl (h1.2.2.2 _ _ hL) (k H locs la ws h1 h2 h3 h4 h5 h6)
theorem xr_nload (C : mq_C p m c cc nL s args Ts own D tys) {i : Nat} (d : decode cc pc = .ok (.aload i, 2)) (hL : L[i]? = some (some .null))
    (k : mq_X p l e R s m args below meth c Q nL D z H0 cells slots M (pc + 2) L (.null :: st)) : mq_X p l e R s m args below meth c Q nL D z H0 cells slots M pc L st :=
  fun H locs la ws h1 h2 h3 h4 h5 h6 => lv_aloadN C.1.1 C.1.2.1 d (h1.2.2.2 _ _ hL) (k H locs la ws h1 h2 h3 h4 h5 h6)
theorem xr_nstore_n (C : mq_C p m c cc nL s args Ts own D tys) {k0 : Fin 4} (d : decode cc pc = .ok (.astore_n k0, 1)) (hi : (k0 : Nat) < nL) (h2 : mq_no2 L (k0 : Nat) = true)
    (k : mq_X p l e R s m args below meth c Q nL D z H0 cells slots M (pc + 1) (L.set (k0 : Nat) (some .null)) st) : mq_X p l e R s m args below meth c Q nL D z H0 cells slots M pc L (.null :: st) :=
  fun H locs la ws h1 g2 h3 h4 h5 h6 => lv_astore_nN C.1.1 C.1.2.1 d rfl h1.has hi rfl (fun la2 h => k H locs la2 ws (h1.set1 hi h2 h) g2 h3 h4 h5 h6)
theorem xr_nstore (C : mq_C p m c cc nL s args Ts own D tys) {i : Nat} (d : decode cc pc = .ok (.astore i, 2)) (hi : i < nL) (h2 : mq_no2 L i = true)
    (k : mq_X p l e R s m args below meth c Q nL D z H0 cells slots M (pc + 2) (L.set i (some .null)) st) : mq_X p l e R s m args below meth c Q nL D z H0 cells slots M pc L (.null :: st) :=
  fun H locs la ws h1 g2 h3 h4 h5 h6 => lv_astoreN C.1.1 C.1.2.1 d h1.has hi rfl (fun la2 h => k H locs la2 ws (h1.set1 hi h2 h) g2 h3 h4 h5 h6)
theorem xr_iadd (C : mq_C p m c cc nL s args Ts own D tys) {a b : Int} (d : decode cc pc = .ok (.iadd, 1))
    (k : mq_X p l e R s m args below meth c Q nL D z H0 cells slots M (pc + 1) L (.int (zI (a + b)) :: st)) : mq_X p l e R s m args below meth c Q nL D z H0 cells slots M pc L (.int (zI b) :: .int (zI a) :: st) :=
  fun H locs la ws h1 h2 h3 h4 h5 h6 => lv_iadd C.1.1 C.1.2.1 d (by rw [zI_add]; exact k H locs la ws h1 h2 h3 h4 h5 h6)
theorem xr_isub (C : mq_C p m c cc nL s args Ts own D tys) {a b : Int} (d : decode cc pc = .ok (.isub, 1))
    (k : mq_X p l e R s m args below meth c Q nL D z H0 cells slots M (pc + 1) L (.int (zI (a - b)) :: st)) : mq_X p l e R s m args below meth c Q nL D z H0 cells slots M pc L (.int (zI b) :: .int (zI a) :: st) :=
  fun H locs la ws h1 h2 h3 h4 h5 h6 => lv_isub C.1.1 C.1.2.1 d (by rw [zI_sub]; exact k H locs la ws h1 h2 h3 h4 h5 h6)
theorem xr_imul (C : mq_C p m c cc nL s args Ts own D tys) {a b : Int} (d : decode cc pc = .ok (.imul, 1))
    (k : mq_X p l e R s m args below meth c Q nL D z H0 cells slots M (pc + 1) L (.int (zI (a * b)) :: st)) : mq_X p l e R s m args below meth c Q nL D z H0 cells slots M pc L (.int (zI b) :: .int (zI a) :: st) :=
  fun H locs la ws h1 h2 h3 h4 h5 h6 => lv_imul C.1.1 C.1.2.1 d (by rw [zI_mul]; exact k H locs la ws h1 h2 h3 h4 h5 h6)
theorem xr_iand (C : mq_C p m c cc nL s args Ts own D tys) {x y : Int32} {w : Int} (d : decode cc pc = .ok (.iand, 1)) (hw : x &&& y = zI w)
    (k : mq_X p l e R s m args below meth c Q nL D z H0 cells slots M (pc + 1) L (.int (zI w) :: st)) : mq_X p l e R s m args below meth c Q nL D z H0 cells slots M pc L (.int y :: .int x :: st) :=
  fun H locs la ws h1 h2 h3 h4 h5 h6 => lv_iand C.1.1 C.1.2.1 d (by rw [hw]; exact k H locs la ws h1 h2 h3 h4 h5 h6)
theorem xr_ior (C : mq_C p m c cc nL s args Ts own D tys) {x y : Int32} {w : Int} (d : decode cc pc = .ok (.ior, 1)) (hw : x ||| y = zI w)
    (k : mq_X p l e R s m args below meth c Q nL D z H0 cells slots M (pc + 1) L (.int (zI w) :: st)) : mq_X p l e R s m args below meth c Q nL D z H0 cells slots M pc L (.int y :: .int x :: st) :=
  fun H locs la ws h1 h2 h3 h4 h5 h6 => lv_ior C.1.1 C.1.2.1 d (by rw [hw]; exact k H locs la ws h1 h2 h3 h4 h5 h6)
theorem xr_ixor (C : mq_C p m c cc nL s args Ts own D tys) {x y : Int32} {w : Int} (d : decode cc pc = .ok (.ixor, 1)) (hw : x ^^^ y = zI w)
    (k : mq_X p l e R s m args below meth c Q nL D z H0 cells slots M (pc + 1) L (.int (zI w) :: st)) : mq_X p l e R s m args below meth c Q nL D z H0 cells slots M pc L (.int y :: .int x :: st) :=
  fun H locs la ws h1 h2 h3 h4 h5 h6 => lv_ixor C.1.1 C.1.2.1 d (by rw [hw]; exact k H locs la ws h1 h2 h3 h4 h5 h6)
theorem xr_idiv (C : mq_C p m c cc nL s args Ts own D tys) {a b : Int} (d : decode cc pc = .ok (.idiv, 1)) (ha : 0 ≤ a ∧ a < 2147483648) (hb : 0 < b ∧ b < 2147483648)
    (k : mq_X p l e R s m args below meth c Q nL D z H0 cells slots M (pc + 1) L (.int (zI (a / b)) :: st)) : mq_X p l e R s m args below meth c Q nL D z H0 cells slots M pc L (.int (zI b) :: .int (zI a) :: st) :=
  fun H locs la ws h1 h2 h3 h4 h5 h6 => lv_idiv C.1.1 C.1.2.1 d (zI_ne0 hb) (by rw [zI_div ha hb]; exact k H locs la ws h1 h2 h3 h4 h5 h6)
theorem xr_irem (C : mq_C p m c cc nL s args Ts own D tys) {a b : Int} (d : decode cc pc = .ok (.irem, 1)) (ha : 0 ≤ a ∧ a < 2147483648) (hb : 0 < b ∧ b < 2147483648)
    (k : mq_X p l e R s m args below meth c Q nL D z H0 cells slots M (pc + 1) L (.int (zI (a % b)) :: st)) : mq_X p l e R s m args below meth c Q nL D z H0 cells slots M pc L (.int (zI b) :: .int (zI a) :: st) :=
  fun H locs la ws h1 h2 h3 h4 h5 h6 => lv_irem C.1.1 C.1.2.1 d (zI_ne0 hb) (by rw [zI_rem ha hb]; exact k H locs la ws h1 h2 h3 h4 h5 h6)
theorem xr_ladd (C : mq_C p m c cc nL s args Ts own D tys) {x y : Int64} (d : decode cc pc = .ok (.ladd, 1))
    (k : mq_X p l e R s m args below meth c Q nL D z H0 cells slots M (pc + 1) L (.long (x + y) :: st)) : mq_X p l e R s m args below meth c Q nL D z H0 cells slots M pc L (.long y :: .long x :: st) :=
  fun H locs la ws h1 h2 h3 h4 h5 h6 => lv_ladd C.1.1 C.1.2.1 d (k H locs la ws h1 h2 h3 h4 h5 h6)
theorem xr_lmul (C : mq_C p m c cc nL s args Ts own D tys) {x y : Int64} (d : decode cc pc = .ok (.lmul, 1))
    (k : mq_X p l e R s m args below meth c Q nL D z H0 cells slots M (pc + 1) L (.long (x * y) :: st)) : mq_X p l e R s m args below meth c Q nL D z H0 cells slots M pc L (.long y :: .long x :: st) :=
  fun H locs la ws h1 h2 h3 h4 h5 h6 => lv_lmul C.1.1 C.1.2.1 d (k H locs la ws h1 h2 h3 h4 h5 h6)
theorem xr_i2l (C : mq_C p m c cc nL s args Ts own D tys) {x : Int32} (d : decode cc pc = .ok (.i2l, 1))
    (k : mq_X p l e R s m args below meth c Q nL D z H0 cells slots M (pc + 1) L (.long x.toInt64 :: st)) : mq_X p l e R s m args below meth c Q nL D z H0 cells slots M pc L (.int x :: st) :=
  fun H locs la ws h1 h2 h3 h4 h5 h6 => lv_i2l C.1.1 C.1.2.1 d rfl (k H locs la ws h1 h2 h3 h4 h5 h6)
theorem xr_dup (C : mq_C p m c cc nL s args Ts own D tys) {v : Value} (d : decode cc pc = .ok (.dup, 1)) (hv : v.category = 1)
    (k : mq_X p l e R s m args below meth c Q nL D z H0 cells slots M (pc + 1) L (v :: v :: st)) : mq_X p l e R s m args below meth c Q nL D z H0 cells slots M pc L (v :: st) :=
  fun H locs la ws h1 h2 h3 h4 h5 h6 => lv_dup C.1.1 C.1.2.1 d hv (k H locs la ws h1 h2 h3 h4 h5 h6)
theorem xr_pop (C : mq_C p m c cc nL s args Ts own D tys) {v : Value} (d : decode cc pc = .ok (.pop, 1)) (hv : v.category = 1)
    (k : mq_X p l e R s m args below meth c Q nL D z H0 cells slots M (pc + 1) L st) : mq_X p l e R s m args below meth c Q nL D z H0 cells slots M pc L (v :: st) :=
  fun H locs la ws h1 h2 h3 h4 h5 h6 => lv_pop C.1.1 C.1.2.1 d hv (k H locs la ws h1 h2 h3 h4 h5 h6)
theorem xr_dup_x1 (C : mq_C p m c cc nL s args Ts own D tys) {v w : Value} (d : decode cc pc = .ok (.dup_x1, 1)) (hv : v.category = 1) (hw : w.category = 1)
    (k : mq_X p l e R s m args below meth c Q nL D z H0 cells slots M (pc + 1) L (v :: w :: v :: st)) : mq_X p l e R s m args below meth c Q nL D z H0 cells slots M pc L (v :: w :: st) :=
  fun H locs la ws h1 h2 h3 h4 h5 h6 => lv_dup_x1 C.1.1 C.1.2.1 d hv hw (k H locs la ws h1 h2 h3 h4 h5 h6)
theorem xr_goto (C : mq_C p m c cc nL s args Ts own D tys) {off : Int} {tgt : Nat} (d : decode cc pc = .ok (.goto off, 3)) (ht : (pc : Int) + off = (tgt : Int))
    (k : mq_X p l e R s m args below meth c Q nL D z H0 cells slots M tgt L st) : mq_X p l e R s m args below meth c Q nL D z H0 cells slots M pc L st :=
  fun H locs la ws h1 h2 h3 h4 h5 h6 => lv_goto C.1.1 C.1.2.1 d ht (k H locs la ws h1 h2 h3 h4 h5 h6)
theorem xr_icmp_eq (C : mq_C p m c cc nL s args Ts own D tys) {a b : Int} {off : Int} {tgt : Nat} (d : decode cc pc = .ok (.if_icmp .eq off, 3)) (ht : (pc : Int) + off = (tgt : Int)) (ha : -2147483648 ≤ a ∧ a < 2147483648) (hb : -2147483648 ≤ b ∧ b < 2147483648)
    (kt : a = b → mq_X p l e R s m args below meth c Q nL D z H0 cells slots M tgt L st) (kf : a ≠ b → mq_X p l e R s m args below meth c Q nL D z H0 cells slots M (pc + 3) L st) : mq_X p l e R s m args below meth c Q nL D z H0 cells slots M pc L (.int (zI b) :: .int (zI a) :: st) :=
  fun H locs la ws h1 h2 h3 h4 h5 h6 => lv_icmp_eq C.1.1 C.1.2.1 d ht (fun h => kt ((zI_eq ha hb).mp h) H locs la ws h1 h2 h3 h4 h5 h6) (fun h => kf (fun q => h ((zI_eq ha hb).mpr q)) H locs la ws h1 h2 h3 h4 h5 h6)
theorem xr_if_eq (C : mq_C p m c cc nL s args Ts own D tys) {a : Int} {off : Int} {tgt : Nat} (d : decode cc pc = .ok (.ifCond .eq off, 3)) (ht : (pc : Int) + off = (tgt : Int)) (ha : -2147483648 ≤ a ∧ a < 2147483648)
    (kt : a = 0 → mq_X p l e R s m args below meth c Q nL D z H0 cells slots M tgt L st) (kf : a ≠ 0 → mq_X p l e R s m args below meth c Q nL D z H0 cells slots M (pc + 3) L st) : mq_X p l e R s m args below meth c Q nL D z H0 cells slots M pc L (.int (zI a) :: st) := by
  have hb : -2147483648 ≤ (0 : Int) ∧ (0 : Int) < 2147483648 := by decide
  exact fun H locs la ws h1 h2 h3 h4 h5 h6 => lv_if_eq C.1.1 C.1.2.1 d ht (fun h => kt (by rw [← zI_0] at h; exact ((zI_eq ha hb).mp h)) H locs la ws h1 h2 h3 h4 h5 h6) (fun h => kf (by rw [← zI_0] at h; exact (fun q => h ((zI_eq ha hb).mpr q))) H locs la ws h1 h2 h3 h4 h5 h6)
theorem xr_icmp_ne (C : mq_C p m c cc nL s args Ts own D tys) {a b : Int} {off : Int} {tgt : Nat} (d : decode cc pc = .ok (.if_icmp .ne off, 3)) (ht : (pc : Int) + off = (tgt : Int)) (ha : -2147483648 ≤ a ∧ a < 2147483648) (hb : -2147483648 ≤ b ∧ b < 2147483648)
    (kt : a ≠ b → mq_X p l e R s m args below meth c Q nL D z H0 cells slots M tgt L st) (kf : a = b → mq_X p l e R s m args below meth c Q nL D z H0 cells slots M (pc + 3) L st) : mq_X p l e R s m args below meth c Q nL D z H0 cells slots M pc L (.int (zI b) :: .int (zI a) :: st) :=
  fun H locs la ws h1 h2 h3 h4 h5 h6 => lv_icmp_ne C.1.1 C.1.2.1 d ht (fun h => kt (fun q => h ((zI_eq ha hb).mpr q)) H locs la ws h1 h2 h3 h4 h5 h6) (fun h => kf ((zI_eq ha hb).mp h) H locs la ws h1 h2 h3 h4 h5 h6)
theorem xr_if_ne (C : mq_C p m c cc nL s args Ts own D tys) {a : Int} {off : Int} {tgt : Nat} (d : decode cc pc = .ok (.ifCond .ne off, 3)) (ht : (pc : Int) + off = (tgt : Int)) (ha : -2147483648 ≤ a ∧ a < 2147483648)
    (kt : a ≠ 0 → mq_X p l e R s m args below meth c Q nL D z H0 cells slots M tgt L st) (kf : a = 0 → mq_X p l e R s m args below meth c Q nL D z H0 cells slots M (pc + 3) L st) : mq_X p l e R s m args below meth c Q nL D z H0 cells slots M pc L (.int (zI a) :: st) := by
  have hb : -2147483648 ≤ (0 : Int) ∧ (0 : Int) < 2147483648 := by decide
  exact fun H locs la ws h1 h2 h3 h4 h5 h6 => lv_if_ne C.1.1 C.1.2.1 d ht (fun h => kt (by rw [← zI_0] at h; exact (fun q => h ((zI_eq ha hb).mpr q))) H locs la ws h1 h2 h3 h4 h5 h6) (fun h => kf (by rw [← zI_0] at h; exact ((zI_eq ha hb).mp h)) H locs la ws h1 h2 h3 h4 h5 h6)
theorem xr_icmp_lt (C : mq_C p m c cc nL s args Ts own D tys) {a b : Int} {off : Int} {tgt : Nat} (d : decode cc pc = .ok (.if_icmp .lt off, 3)) (ht : (pc : Int) + off = (tgt : Int)) (ha : -2147483648 ≤ a ∧ a < 2147483648) (hb : -2147483648 ≤ b ∧ b < 2147483648)
    (kt : a < b → mq_X p l e R s m args below meth c Q nL D z H0 cells slots M tgt L st) (kf : b ≤ a → mq_X p l e R s m args below meth c Q nL D z H0 cells slots M (pc + 3) L st) : mq_X p l e R s m args below meth c Q nL D z H0 cells slots M pc L (.int (zI b) :: .int (zI a) :: st) :=
  fun H locs la ws h1 h2 h3 h4 h5 h6 => lv_icmp_lt C.1.1 C.1.2.1 d ht (fun h => kt ((zI_lt ha hb).mp h) H locs la ws h1 h2 h3 h4 h5 h6) (fun h => kf (Int.not_lt.mp fun q => h ((zI_lt ha hb).mpr q)) H locs la ws h1 h2 h3 h4 h5 h6)
theorem xr_if_lt (C : mq_C p m c cc nL s args Ts own D tys) {a : Int} {off : Int} {tgt : Nat} (d : decode cc pc = .ok (.ifCond .lt off, 3)) (ht : (pc : Int) + off = (tgt : Int)) (ha : -2147483648 ≤ a ∧ a < 2147483648)
    (kt : a < 0 → mq_X p l e R s m args below meth c Q nL D z H0 cells slots M tgt L st) (kf : 0 ≤ a → mq_X p l e R s m args below meth c Q nL D z H0 cells slots M (pc + 3) L st) : mq_X p l e R s m args below meth c Q nL D z H0 cells slots M pc L (.int (zI a) :: st) := by
  have hb : -2147483648 ≤ (0 : Int) ∧ (0 : Int) < 2147483648 := by decide
  exact fun H locs la ws h1 h2 h3 h4 h5 h6 => lv_if_lt C.1.1 C.1.2.1 d ht (fun h => kt (by rw [← zI_0] at h; exact ((zI_lt ha hb).mp h)) H locs la ws h1 h2 h3 h4 h5 h6) (fun h => kf (by rw [← zI_0] at h; exact (Int.not_lt.mp fun q => h ((zI_lt ha hb).mpr q))) H locs la ws h1 h2 h3 h4 h5 h6)
theorem xr_icmp_ge (C : mq_C p m c cc nL s args Ts own D tys) {a b : Int} {off : Int} {tgt : Nat} (d : decode cc pc = .ok (.if_icmp .ge off, 3)) (ht : (pc : Int) + off = (tgt : Int)) (ha : -2147483648 ≤ a ∧ a < 2147483648) (hb : -2147483648 ≤ b ∧ b < 2147483648)
    (kt : b ≤ a → mq_X p l e R s m args below meth c Q nL D z H0 cells slots M tgt L st) (kf : a < b → mq_X p l e R s m args below meth c Q nL D z H0 cells slots M (pc + 3) L st) : mq_X p l e R s m args below meth c Q nL D z H0 cells slots M pc L (.int (zI b) :: .int (zI a) :: st) :=
  fun H locs la ws h1 h2 h3 h4 h5 h6 => lv_icmp_ge C.1.1 C.1.2.1 d ht (fun h => kt ((zI_le hb ha).mp h) H locs la ws h1 h2 h3 h4 h5 h6) (fun h => kf (Int.not_le.mp fun q => h ((zI_le hb ha).mpr q)) H locs la ws h1 h2 h3 h4 h5 h6)
theorem xr_if_ge (C : mq_C p m c cc nL s args Ts own D tys) {a : Int} {off : Int} {tgt : Nat} (d : decode cc pc = .ok (.ifCond .ge off, 3)) (ht : (pc : Int) + off = (tgt : Int)) (ha : -2147483648 ≤ a ∧ a < 2147483648)
    (kt : 0 ≤ a → mq_X p l e R s m args below meth c Q nL D z H0 cells slots M tgt L st) (kf : a < 0 → mq_X p l e R s m args below meth c Q nL D z H0 cells slots M (pc + 3) L st) : mq_X p l e R s m args below meth c Q nL D z H0 cells slots M pc L (.int (zI a) :: st) := by
  have hb : -2147483648 ≤ (0 : Int) ∧ (0 : Int) < 2147483648 := by decide
  exact fun H locs la ws h1 h2 h3 h4 h5 h6 => lv_if_ge C.1.1 C.1.2.1 d ht (fun h => kt (by rw [← zI_0] at h; exact ((zI_le hb ha).mp h)) H locs la ws h1 h2 h3 h4 h5 h6) (fun h => kf (by rw [← zI_0] at h; exact (Int.not_le.mp fun q => h ((zI_le hb ha).mpr q))) H locs la ws h1 h2 h3 h4 h5 h6)
theorem xr_icmp_gt (C : mq_C p m c cc nL s args Ts own D tys) {a b : Int} {off : Int} {tgt : Nat} (d : decode cc pc = .ok (.if_icmp .gt off, 3)) (ht : (pc : Int) + off = (tgt : Int)) (ha : -2147483648 ≤ a ∧ a < 2147483648) (hb : -2147483648 ≤ b ∧ b < 2147483648)
    (kt : b < a → mq_X p l e R s m args below meth c Q nL D z H0 cells slots M tgt L st) (kf : a ≤ b → mq_X p l e R s m args below meth c Q nL D z H0 cells slots M (pc + 3) L st) : mq_X p l e R s m args below meth c Q nL D z H0 cells slots M pc L (.int (zI b) :: .int (zI a) :: st) :=
  fun H locs la ws h1 h2 h3 h4 h5 h6 => lv_icmp_gt C.1.1 C.1.2.1 d ht (fun h => kt ((zI_lt hb ha).mp h) H locs la ws h1 h2 h3 h4 h5 h6) (fun h => kf (Int.not_lt.mp fun q => h ((zI_lt hb ha).mpr q)) H locs la ws h1 h2 h3 h4 h5 h6)
theorem xr_if_gt (C : mq_C p m c cc nL s args Ts own D tys) {a : Int} {off : Int} {tgt : Nat} (d : decode cc pc = .ok (.ifCond .gt off, 3)) (ht : (pc : Int) + off = (tgt : Int)) (ha : -2147483648 ≤ a ∧ a < 2147483648)
    (kt : 0 < a → mq_X p l e R s m args below meth c Q nL D z H0 cells slots M tgt L st) (kf : a ≤ 0 → mq_X p l e R s m args below meth c Q nL D z H0 cells slots M (pc + 3) L st) : mq_X p l e R s m args below meth c Q nL D z H0 cells slots M pc L (.int (zI a) :: st) := by
  have hb : -2147483648 ≤ (0 : Int) ∧ (0 : Int) < 2147483648 := by decide
  exact fun H locs la ws h1 h2 h3 h4 h5 h6 => lv_if_gt C.1.1 C.1.2.1 d ht (fun h => kt (by rw [← zI_0] at h; exact ((zI_lt hb ha).mp h)) H locs la ws h1 h2 h3 h4 h5 h6) (fun h => kf (by rw [← zI_0] at h; exact (Int.not_lt.mp fun q => h ((zI_lt hb ha).mpr q))) H locs la ws h1 h2 h3 h4 h5 h6)
theorem xr_icmp_le (C : mq_C p m c cc nL s args Ts own D tys) {a b : Int} {off : Int} {tgt : Nat} (d : decode cc pc = .ok (.if_icmp .le off, 3)) (ht : (pc : Int) + off = (tgt : Int)) (ha : -2147483648 ≤ a ∧ a < 2147483648) (hb : -2147483648 ≤ b ∧ b < 2147483648)
    (kt : a ≤ b → mq_X p l e R s m args below meth c Q nL D z H0 cells slots M tgt L st) (kf : b < a → mq_X p l e R s m args below meth c Q nL D z H0 cells slots M (pc + 3) L st) : mq_X p l e R s m args below meth c Q nL D z H0 cells slots M pc L (.int (zI b) :: .int (zI a) :: st) :=
  fun H locs la ws h1 h2 h3 h4 h5 h6 => lv_icmp_le C.1.1 C.1.2.1 d ht (fun h => kt ((zI_le ha hb).mp h) H locs la ws h1 h2 h3 h4 h5 h6) (fun h => kf (Int.not_le.mp fun q => h ((zI_le ha hb).mpr q)) H locs la ws h1 h2 h3 h4 h5 h6)
theorem xr_if_le (C : mq_C p m c cc nL s args Ts own D tys) {a : Int} {off : Int} {tgt : Nat} (d : decode cc pc = .ok (.ifCond .le off, 3)) (ht : (pc : Int) + off = (tgt : Int)) (ha : -2147483648 ≤ a ∧ a < 2147483648)
    (kt : a ≤ 0 → mq_X p l e R s m args below meth c Q nL D z H0 cells slots M tgt L st) (kf : 0 < a → mq_X p l e R s m args below meth c Q nL D z H0 cells slots M (pc + 3) L st) : mq_X p l e R s m args below meth c Q nL D z H0 cells slots M pc L (.int (zI a) :: st) := by
  have hb : -2147483648 ≤ (0 : Int) ∧ (0 : Int) < 2147483648 := by decide
  exact fun H locs la ws h1 h2 h3 h4 h5 h6 => lv_if_le C.1.1 C.1.2.1 d ht (fun h => kt (by rw [← zI_0] at h; exact ((zI_le ha hb).mp h)) H locs la ws h1 h2 h3 h4 h5 h6) (fun h => kf (by rw [← zI_0] at h; exact (Int.not_le.mp fun q => h ((zI_le ha hb).mpr q))) H locs la ws h1 h2 h3 h4 h5 h6)
theorem xr_ifnull_s (C : mq_C p m c cc nL s args Ts own D tys) {x : Nat} {off : Int} (d : decode cc pc = .ok (.ifnull off, 3))
    (k : mq_X p l e R s m args below meth c Q nL D z H0 cells slots M (pc + 3) L st) : mq_X p l e R s m args below meth c Q nL D z H0 cells slots M pc L (.ref x :: st) :=
  fun H locs la ws h1 h2 h3 h4 h5 h6 => lv_ifnull C.1.1 C.1.2.1 d (k H locs la ws h1 h2 h3 h4 h5 h6)
theorem xr_ifnull_n (C : mq_C p m c cc nL s args Ts own D tys) {off : Int} {tgt : Nat} (d : decode cc pc = .ok (.ifnull off, 3)) (ht : (pc : Int) + off = (tgt : Int))
    (k : mq_X p l e R s m args below meth c Q nL D z H0 cells slots M tgt L st) : mq_X p l e R s m args below meth c Q nL D z H0 cells slots M pc L (.null :: st) :=
  fun H locs la ws h1 h2 h3 h4 h5 h6 => lv_ifnullN C.1.1 C.1.2.1 d ht (k H locs la ws h1 h2 h3 h4 h5 h6)
theorem xr_ifnonnull_s (C : mq_C p m c cc nL s args Ts own D tys) {x : Nat} {off : Int} {tgt : Nat} (d : decode cc pc = .ok (.ifnonnull off, 3)) (ht : (pc : Int) + off = (tgt : Int))
    (k : mq_X p l e R s m args below meth c Q nL D z H0 cells slots M tgt L st) : mq_X p l e R s m args below meth c Q nL D z H0 cells slots M pc L (.ref x :: st) :=
  fun H locs la ws h1 h2 h3 h4 h5 h6 => lv_ifnonnull C.1.1 C.1.2.1 d ht (k H locs la ws h1 h2 h3 h4 h5 h6)
theorem xr_ifnonnull_n (C : mq_C p m c cc nL s args Ts own D tys) {off : Int} (d : decode cc pc = .ok (.ifnonnull off, 3))
    (k : mq_X p l e R s m args below meth c Q nL D z H0 cells slots M (pc + 3) L st) : mq_X p l e R s m args below meth c Q nL D z H0 cells slots M pc L (.null :: st) :=
  fun H locs la ws h1 h2 h3 h4 h5 h6 => lv_ifnonnullN C.1.1 C.1.2.1 d (k H locs la ws h1 h2 h3 h4 h5 h6)
theorem xr_acmp_eq_n (C : mq_C p m c cc nL s args Ts own D tys) {x y : Nat} {off : Int} {tgt : Nat} (d : decode cc pc = .ok (.if_acmp .eq off, 3)) (ht : (pc : Int) + off = (tgt : Int)) (hne : y ≠ x)
    (k : mq_X p l e R s m args below meth c Q nL D z H0 cells slots M (pc + 3) L st) : mq_X p l e R s m args below meth c Q nL D z H0 cells slots M pc L (.ref y :: .ref x :: st) :=
  fun H locs la ws h1 h2 h3 h4 h5 h6 => lv_acmp_eq (rx := some x) (ry := some y) C.1.1 C.1.2.1 d ht (fun h => absurd (Option.some.inj h).symm hne) (fun _ => k H locs la ws h1 h2 h3 h4 h5 h6)
theorem xr_get (C : mq_C p m c cc nL s args Ts own D tys) {ref Cn : String} {T : u_T} {N ci index : Nat} {fs : List Value} {a : Nat} (hin : ∀ w ∈ u_ws Cn T N, w ∈ Ts) (hM : M a = some (.inr (ci, fs))) (hc : vwCl[ci]? = some (Cn, T, N)) (i : Nat) (hi : i < N) (hlink : (Cond.fieldLink own index ref (T i).2.1 (T i).2.2.1).before args s = true) (hsame : ∀ x, s.fieldFound? (T i).1 (T i).2.1 (T i).2.2.1 = some x → s.fieldFound? ref (T i).2.1 (T i).2.2.1 = some x) {v : Value} (hv : fs[i]? = some v) (d : decode cc pc = .ok (.getfield index, 3))
    (k : mq_X p l e R s m args below meth c Q nL D z H0 cells slots M (pc + 3) L (v :: st)) : mq_X p l e R s m args below meth c Q nL D z H0 cells slots M pc L (.ref a :: st) :=
  fun H locs la ws h1 h2 h3 h4 h5 h6 => by
    obtain ⟨q, hq⟩ := h4.at hM
    exact va_get C.1.1 C.1.2.1 C.1.2.2.2.2 hin C.1.2.2.2.1 C.2.1 h2 q hq hc i hi hlink hsame hv d (k H locs la ws h1 h2 h3 h4 h5 h6)
theorem xr_put (C : mq_C p m c cc nL s args Ts own D tys) {ref Cn : String} {T : u_T} {N ci index : Nat} {fs : List Value} {a : Nat} (hin : ∀ w ∈ u_ws Cn T N, w ∈ Ts) (hM : M a = some (.inr (ci, fs))) (hc : vwCl[ci]? = some (Cn, T, N)) (i : Nat) (hi : i < N) (ty0 : Nat → FieldType) (hty : ∀ k, k < N → parseFieldDescriptor (T k).2.2.1 = some (ty0 k)) (hnm : ∀ a, a < N → ∀ b, b < N → a ≠ b → (T a).2.1 ≠ (T b).2.1) (hlink : (Cond.fieldLink own index ref (T i).2.1 (T i).2.2.1).before args s = true) (hsame : ∀ x, s.fieldFound? (T i).1 (T i).2.1 (T i).2.2.1 = some x → s.fieldFound? ref (T i).2.1 (T i).2.2.1 = some x) (hfin : (T i).2.2.2 = false) {ty : FieldType} {v : Value} (hd : parseFieldDescriptor (T i).2.2.1 = some ty) (hn : narrow ty v = v) (hfit : fits ty v = true) (hl : i < fs.length) (d : decode cc pc = .ok (.putfield index, 3))
    (k : mq_X p l e R s m args below meth c Q nL D z H0 cells slots (mq_up M a (.inr (ci, fs.set i v))) (pc + 3) L st) : mq_X p l e R s m args below meth c Q nL D z H0 cells slots M pc L (v :: .ref a :: st) :=
  fun H locs la ws h1 h2 h3 h4 h5 h6 => by
    obtain ⟨q, hq⟩ := h4.at hM
    exact va_put C.1.1 C.1.2.1 C.1.2.2.2.2 hin ty0 hty hnm C.1.2.2.2.1 C.2.1 h2 h3 h5 q hq hc i hi hlink hsame hfin hd hn hfit hl d (fun H2 locs2 g2 g3 g5 => k H2 locs2 la _ h1 g2 g3 (h4.set h3 hq) g5 h6)
theorem xr_putF (C : mq_C p m c cc nL s args Ts own D tys) {ref Cn : String} {T : u_T} {N ci index : Nat} {fs : List Value} {a : Nat} (hin : ∀ w ∈ u_ws Cn T N, w ∈ Ts) (hM : M a = some (.inr (ci, fs))) (hc : vwCl[ci]? = some (Cn, T, N)) (i : Nat) (hi : i < N) (ty0 : Nat → FieldType) (hty : ∀ k, k < N → parseFieldDescriptor (T k).2.2.1 = some (ty0 k)) (hnm : ∀ a, a < N → ∀ b, b < N → a ≠ b → (T a).2.1 ≠ (T b).2.1) (hlink : (Cond.fieldLink own index ref (T i).2.1 (T i).2.2.1).before args s = true) (hsame : ∀ x, s.fieldFound? (T i).1 (T i).2.1 (T i).2.2.1 = some x → s.fieldFound? ref (T i).2.1 (T i).2.2.1 = some x) (hfin : (T i).2.2.2 = true) (hin2 : meth.name = "<init>") (hdecl : (T i).1 = own) {ty : FieldType} {v : Value} (hd : parseFieldDescriptor (T i).2.2.1 = some ty) (hn : narrow ty v = v) (hfit : fits ty v = true) (hl : i < fs.length) (d : decode cc pc = .ok (.putfield index, 3))
    (k : mq_X p l e R s m args below meth c Q nL D z H0 cells slots (mq_up M a (.inr (ci, fs.set i v))) (pc + 3) L st) : mq_X p l e R s m args below meth c Q nL D z H0 cells slots M pc L (v :: .ref a :: st) :=
  fun H locs la ws h1 h2 h3 h4 h5 h6 => by
    obtain ⟨q, hq⟩ := h4.at hM
    exact va_putF C.1.1 C.1.2.1 C.1.2.2.2.2 hin ty0 hty hnm C.1.2.2.2.1 C.2.1 h2 h3 h5 q hq hc i hi hlink hsame hfin hin2 hdecl hd hn hfit hl d (fun H2 locs2 g2 g3 g5 => k H2 locs2 la _ h1 g2 g3 (h4.set h3 hq) g5 h6)
theorem xr_getN (C : mq_C p m c cc nL s args Ts own D tys) {ref Cn : String} {T : u_T} {N ci index : Nat} {fs : List Value} {a : Nat} (hin : ∀ w ∈ u_ws Cn T N, w ∈ Ts) (hM : M a = some (.inr (ci, fs))) (hc : vwCl[ci]? = some (Cn, T, N)) (i : Nat) (hi : i < N) {host : String} (hlink : (Cond.fieldLinkNest own index ref (T i).2.1 (T i).2.2.1 host).before args s = true) (hsame : ∀ x, s.fieldFound? (T i).1 (T i).2.1 (T i).2.2.1 = some x → s.fieldFound? ref (T i).2.1 (T i).2.2.1 = some x) {v : Value} (hv : fs[i]? = some v) (d : decode cc pc = .ok (.getfield index, 3))
    (k : mq_X p l e R s m args below meth c Q nL D z H0 cells slots M (pc + 3) L (v :: st)) : mq_X p l e R s m args below meth c Q nL D z H0 cells slots M pc L (.ref a :: st) :=
  fun H locs la ws h1 h2 h3 h4 h5 h6 => by
    obtain ⟨q, hq⟩ := h4.at hM
    exact va_getN C.1.1 C.1.2.1 C.1.2.2.2.2 hin C.1.2.2.2.1 C.2.1 h2 q hq hc i hi hlink hsame hv d (k H locs la ws h1 h2 h3 h4 h5 h6)
theorem xr_putN (C : mq_C p m c cc nL s args Ts own D tys) {ref Cn : String} {T : u_T} {N ci index : Nat} {fs : List Value} {a : Nat} (hin : ∀ w ∈ u_ws Cn T N, w ∈ Ts) (hM : M a = some (.inr (ci, fs))) (hc : vwCl[ci]? = some (Cn, T, N)) (i : Nat) (hi : i < N) (ty0 : Nat → FieldType) (hty : ∀ k, k < N → parseFieldDescriptor (T k).2.2.1 = some (ty0 k)) (hnm : ∀ a, a < N → ∀ b, b < N → a ≠ b → (T a).2.1 ≠ (T b).2.1) {host : String} (hlink : (Cond.fieldLinkNest own index ref (T i).2.1 (T i).2.2.1 host).before args s = true) (hsame : ∀ x, s.fieldFound? (T i).1 (T i).2.1 (T i).2.2.1 = some x → s.fieldFound? ref (T i).2.1 (T i).2.2.1 = some x) (hfin : (T i).2.2.2 = false) {ty : FieldType} {v : Value} (hd : parseFieldDescriptor (T i).2.2.1 = some ty) (hn : narrow ty v = v) (hfit : fits ty v = true) (hl : i < fs.length) (d : decode cc pc = .ok (.putfield index, 3))
    (k : mq_X p l e R s m args below meth c Q nL D z H0 cells slots (mq_up M a (.inr (ci, fs.set i v))) (pc + 3) L st) : mq_X p l e R s m args below meth c Q nL D z H0 cells slots M pc L (v :: .ref a :: st) :=
  fun H locs la ws h1 h2 h3 h4 h5 h6 => by
    obtain ⟨q, hq⟩ := h4.at hM
    exact va_putN C.1.1 C.1.2.1 C.1.2.2.2.2 hin ty0 hty hnm C.1.2.2.2.1 C.2.1 h2 h3 h5 q hq hc i hi hlink hsame hfin hd hn hfit hl d (fun H2 locs2 g2 g3 g5 => k H2 locs2 la _ h1 g2 g3 (h4.set h3 hq) g5 h6)
theorem xr_iald (C : mq_C p m c cc nL s args Ts own D tys) {cA : ClassId} {n a : Nat} {f : Nat → Int32} {i : Int} (hM : M a = some (.inl (cA, n, .inl f))) (ht : (cA, FieldType.int) ∈ tys) (hi0 : 0 ≤ i) (hi1 : i < n) (hn : n < 2147483648) (d : decode cc pc = .ok (.iaload, 1))
    (k : mq_X p l e R s m args below meth c Q nL D z H0 cells slots M (pc + 1) L (.int (f i.toNat) :: st)) : mq_X p l e R s m args below meth c Q nL D z H0 cells slots M pc L (.int (zI i) :: .ref a :: st) :=
  fun H locs la ws h1 h2 h3 h4 h5 h6 => by
    obtain ⟨q, hq⟩ := h4.at hM
    obtain ⟨t0, ht0⟩ := List.getElem?_of_mem ht
    refine va_iald C.1.1 C.1.2.1 C.2.1 h2 q t0 hq ht0 (zI_in hi0 hi1 hn) d ?_
    rw [zI_clamp ⟨hi0, by omega⟩]
    exact k H locs la ws h1 h2 h3 h4 h5 h6
theorem xr_iast (C : mq_C p m c cc nL s args Ts own D tys) {cA : ClassId} {n a : Nat} {f : Nat → Int32} {i : Int} {x : Int32} (hM : M a = some (.inl (cA, n, .inl f))) (ht : (cA, FieldType.int) ∈ tys) (hi0 : 0 ≤ i) (hi1 : i < n) (hn : n < 2147483648) (d : decode cc pc = .ok (.iastore, 1))
    (k : mq_X p l e R s m args below meth c Q nL D z H0 cells slots (mq_up M a (.inl (cA, n, .inl (upd f i.toNat x)))) (pc + 1) L st) : mq_X p l e R s m args below meth c Q nL D z H0 cells slots M pc L (.int x :: .int (zI i) :: .ref a :: st) :=
  fun H locs la ws h1 h2 h3 h4 h5 h6 => by
    obtain ⟨q, hq⟩ := h4.at hM
    obtain ⟨t0, ht0⟩ := List.getElem?_of_mem ht
    refine va_iast C.1.1 C.1.2.1 C.2.1 h2 h3 h5 q t0 hq ht0 (zI_in hi0 hi1 hn) d (fun H2 locs2 g2 g3 g5 => ?_)
    rw [zI_clamp ⟨hi0, by omega⟩] at g2 g3
    exact k H2 locs2 la _ h1 g2 g3 (h4.set h3 hq) g5 h6
theorem xr_aald (C : mq_C p m c cc nL s args Ts own D tys) {cA : ClassId} {Cn : String} {n a : Nat} {f : Nat → Option Nat} {i : Int} (hM : M a = some (.inl (cA, n, .inr (.inr (.inr (.inr f)))))) (ht : (cA, FieldType.object Cn) ∈ tys) (hi0 : 0 ≤ i) (hi1 : i < n) (hn : n < 2147483648) (d : decode cc pc = .ok (.aaload, 1))
    (k : mq_X p l e R s m args below meth c Q nL D z H0 cells slots M (pc + 1) L (va_rf (f i.toNat) :: st)) : mq_X p l e R s m args below meth c Q nL D z H0 cells slots M pc L (.int (zI i) :: .ref a :: st) :=
  fun H locs la ws h1 h2 h3 h4 h5 h6 => by
    obtain ⟨q, hq⟩ := h4.at hM
    obtain ⟨t0, ht0⟩ := List.getElem?_of_mem ht
    refine va_aldq C.1.1 C.1.2.1 C.2.1 h2 q t0 hq ht0 (zI_in hi0 hi1 hn) d ?_
    rw [zI_clamp ⟨hi0, by omega⟩]
    exact k H locs la ws h1 h2 h3 h4 h5 h6
theorem xr_aast (C : mq_C p m c cc nL s args Ts own D tys) {cA : ClassId} {r : vw_C} {n a v ci : Nat} {vs : List Value} {f : Nat → Option Nat} {i : Int} (hM : M a = some (.inl (cA, n, .inr (.inr (.inr (.inr f)))))) (ht : (cA, FieldType.object r.1) ∈ tys) (hv : M v = some (.inr (ci, vs))) (hc : vwCl[ci]? = some r) (hi0 : 0 ≤ i) (hi1 : i < n) (hn : n < 2147483648) (d : decode cc pc = .ok (.aastore, 1))
    (k : mq_X p l e R s m args below meth c Q nL D z H0 cells slots (mq_up M a (.inl (cA, n, .inr (.inr (.inr (.inr (va_up f i.toNat (some v)))))))) (pc + 1) L st) : mq_X p l e R s m args below meth c Q nL D z H0 cells slots M pc L (.ref v :: .int (zI i) :: .ref a :: st) :=
  fun H locs la ws h1 h2 h3 h4 h5 h6 => by
    obtain ⟨q, hq⟩ := h4.at hM
    obtain ⟨qv, hqv⟩ := h4.at hv
    obtain ⟨t0, ht0⟩ := List.getElem?_of_mem ht
    refine va_astq C.1.1 C.1.2.1 C.2.1 h2 h3 h5 q t0 qv ci hq ht0 hqv hc (zI_in hi0 hi1 hn) d (fun H2 locs2 g2 g3 g5 => ?_)
    rw [zI_clamp ⟨hi0, by omega⟩] at g2 g3
    exact k H2 locs2 la _ h1 g2 g3 (h4.set h3 hq) g5 h6
theorem xr_alen (C : mq_C p m c cc nL s args Ts own D tys) {cA : ClassId} {x : vp_A} {a : Nat} {ty : FieldType} (hM : M a = some (.inl (cA, x))) (ht : (cA, ty) ∈ tys) (d : decode cc pc = .ok (.arraylength, 1))
    (k : mq_X p l e R s m args below meth c Q nL D z H0 cells slots M (pc + 1) L (.int (zI (x.1 : Int)) :: st)) : mq_X p l e R s m args below meth c Q nL D z H0 cells slots M pc L (.ref a :: st) :=
  fun H locs la ws h1 h2 h3 h4 h5 h6 => by
    obtain ⟨q, hq⟩ := h4.at hM
    obtain ⟨t0, ht0⟩ := List.getElem?_of_mem ht
    exact va_alen C.1.1 C.1.2.1 C.2.1 h2 q t0 hq ht0 (v := zI (x.1 : Int)) rfl d (k H locs la ws h1 h2 h3 h4 h5 h6)
theorem xr_objI (C : mq_C p m c cc nL s args Ts own D tys) {idx a : Nat} (hlink : (Cond.methodLink own idx Lib.objectInit).before args s = true) (hinst : (Cond.instanceMethod Lib.objectInit).before args s = true) (hcode : (Cond.code Lib.objectInit ⟨#[0xb1]⟩ 1 none).before args s = true) (hf : 1 ≤ R.frames) (hl : (st.map fun v => v.category).sum + 12 ≤ R.locals) (d : decode cc pc = .ok (.invokespecial idx, 3))
    (k : mq_X p l e R s m args below meth c Q nL D z H0 cells slots M (pc + 3) L st) : mq_X p l e R s m args below meth c Q nL D z H0 cells slots M pc L (.ref a :: st) :=
  fun H locs la ws h1 h2 h3 h4 h5 h6 => by
    refine W.objInit C.1.1 C.1.2.1 C.1.2.2.2.1 hlink hinst hcode rfl (by rw [C.1.2.2.1]; exact h1.1) rfl d hf (by simpa using hl) ?_
    exact W.eq (g2 := F0 m (pc + 3) la st) rfl (k H locs la ws h1 h2 h3 h4 h5 h6)
theorem mq_tyEq {cA cB : ClassId} {ty : FieldType} (h1 : va_RA s cA ty) (h2 : va_RA s cB ty) : cA = cB := by
  cases ty with
  | object Cn =>
    obtain ⟨_, _, _, _, _, a4⟩ := h1
    obtain ⟨_, _, _, _, _, b4⟩ := h2
    exact Option.some.inj (a4.symm.trans b4)
  | _ => exact Option.some.inj (Eq.symm (h1 : s.vm.findClass _ = _) |>.trans h2)
theorem mq_tyK {cA cB : ClassId} {ty : FieldType} (h : (cB, ty) ∈ tys) (hK : va_K D vwCl tys s) (hK2 : va_K D vwCl (tys ++ [(cA, ty)]) s) : cA = cB := by
  obtain ⟨t0, ht0⟩ := List.getElem?_of_mem h
  exact mq_tyEq (hK2.2 tys.length (cA, ty) (by simp)).2 (hK.2 t0 _ ht0).2
theorem xr_newI (C : mq_C p m c cc nL s args Ts own D tys) {k0 : Int} {cA : ClassId} (harr : (Cond.arrayClass .int).before args s = true) (ht : (cA, FieldType.int) ∈ tys) (hk : 0 ≤ k0 ∧ k0 < 100000000) (hc : cells + 1 ≤ R.cells) (hs : slots + k0.toNat ≤ R.slots) (d : decode cc pc = .ok (.newarray .int, 2))
    (k : ∀ q : Nat, M q = none → mq_X p l e R s m args below meth c Q nL D z H0 (cells + 1) (slots + k0.toNat) (mq_up M q (.inl (cA, k0.toNat, .inl (fun _ => 0)))) (pc + 2) L (.ref q :: st)) : mq_X p l e R s m args below meth c Q nL D z H0 cells slots M pc L (.int (zI k0) :: st) :=
  fun H locs la ws h1 h2 h3 h4 h5 h6 => by
    refine va_newa (atype := .int) (ty := .int) (N' := k0.toNat) (a0 := (k0.toNat, .inl (fun _ => 0))) C.1.1 C.1.2.1 harr rfl C.2.1 h2 h3 h5 (fun q hq => Nat.le_trans h6 hq) (fun _ => rfl) (by rw [← zI_0, zI_lt ⟨by omega, by omega⟩ (by decide)]; omega) (zI_clamp ⟨by omega, by omega⟩) (by show k0.toNat * 4 ≤ _; omega) hc hs d (fun q cB H2 gK g2 g3 g5 => ?_)
    have e1 := mq_tyK ht C.2.1 gK
    subst e1
    obtain ⟨hn, hI⟩ := h4.push g3
    exact k q hn H2 locs la _ h1 g2 g3 hI g5 h6
theorem xr_newR (C : mq_C p m c cc nL s args Ts own D tys) {k0 : Int} {cA : ClassId} {Cn : String} {index : Nat} (hcl : (Cond.classLink own index Cn).before args s = true) (hna : Cn ∈ mq_na) (ht : (cA, FieldType.object Cn) ∈ tys) (hk : 0 ≤ k0 ∧ k0 < 100000000) (hc : cells + 1 ≤ R.cells) (hs : slots + k0.toNat ≤ R.slots) (d : decode cc pc = .ok (.anewarray index, 3))
    (k : ∀ q : Nat, M q = none → mq_X p l e R s m args below meth c Q nL D z H0 (cells + 1) (slots + k0.toNat) (mq_up M q (.inl (cA, k0.toNat, .inr (.inr (.inr (.inr (fun _ => none))))))) (pc + 3) L (.ref q :: st)) : mq_X p l e R s m args below meth c Q nL D z H0 cells slots M pc L (.int (zI k0) :: st) :=
  fun H locs la ws h1 h2 h3 h4 h5 h6 => by
    refine va_newq (N' := k0.toNat) C.1.1 C.1.2.1 C.1.2.2.2.1 hcl (C.2.2.2.2 Cn hna) C.2.1 h2 h3 h5 (fun q hq => Nat.le_trans h6 hq) (by rw [← zI_0, zI_lt ⟨by omega, by omega⟩ (by decide)]; omega) (zI_clamp ⟨by omega, by omega⟩) (by omega) hc hs d (fun q cB H2 gK g2 g3 g5 => ?_)
    have e1 := mq_tyK ht C.2.1 gK
    subst e1
    obtain ⟨hn, hI⟩ := h4.push g3
    exact k q hn H2 locs la _ h1 g2 g3 hI g5 h6
theorem xr_new (C : mq_C p m c cc nL s args Ts own D tys) {Cn : String} {T : u_T} {N ci index : Nat} {fs : List Value} (hin : ∀ w ∈ u_ws Cn T N, w ∈ Ts) (ty : Nat → FieldType) (hty : ∀ k, k < N → parseFieldDescriptor (T k).2.2.1 = some (ty k)) (hcl : (Cond.classLink own index Cn).before args s = true) (hinst : (Cond.instantiable Cn N).before args s = true) (hini : (Cond.initialized Cn).before args s = true) (hc0 : vwCl[ci]? = some (Cn, T, N)) (hfs : ∀ j, j < N → defaultValue (ty j) = vp_V fs j) (hc : cells + 1 ≤ R.cells) (hs : slots + N ≤ R.slots) (d : decode cc pc = .ok (.new index, 3))
    (k : ∀ q : Nat, M q = none → mq_X p l e R s m args below meth c Q nL D z H0 (cells + 1) (slots + N) (mq_up M q (.inr (ci, fs))) (pc + 3) L (.ref q :: st)) : mq_X p l e R s m args below meth c Q nL D z H0 cells slots M pc L st :=
  fun H locs la ws h1 h2 h3 h4 h5 h6 => by
    refine va_new C.1.1 C.1.2.1 C.1.2.2.2.2 hin ty hty C.1.2.2.2.1 hcl hinst hini C.2.1 h2 h3 h5 (fun q hq => Nat.le_trans h6 hq) hc0 hfs hc hs d (fun q H2 g2 g3 g5 => ?_)
    obtain ⟨hn, hI⟩ := h4.push g3
    exact k q hn H2 locs la _ h1 g2 g3 hI g5 h6
theorem mq_ren {a : Nat} {e0 : va_E} (k : ∀ M1 : mq_M, M1 = mq_up M a e0 → mq_X p l e R s m args below meth c Q nL D z H0 cells slots M1 pc L st) : mq_X p l e R s m args below meth c Q nL D z H0 cells slots (mq_up M a e0) pc L st := k _ rfl
/-- a loop: an invariant and a measure over the states x at the head -/
theorem mq_loop {σ : Type} (I : σ → Prop) (μ : σ → Nat) (fM : σ → mq_M) (fL : σ → List (Option Value)) (fs : σ → List Value)
    (hs : ∀ x, I x → (∀ y, I y → μ y < μ x → mq_X p l e R s m args below meth c Q nL D z H0 cells slots (fM y) pc (fL y) (fs y)) → mq_X p l e R s m args below meth c Q nL D z H0 cells slots (fM x) pc (fL x) (fs x)) :
    ∀ x, I x → mq_X p l e R s m args below meth c Q nL D z H0 cells slots (fM x) pc (fL x) (fs x) := by
  intro x
  generalize hn : μ x = n
  induction n using Nat.strongRecOn generalizing x with
  | ind n ih => exact fun hI => hs x hI (fun y hy hlt => ih (μ y) (hn ▸ hlt) y rfl hy)
theorem mq_eqL {L2 : List (Option Value)} {st2 : List Value} {pc2 : Nat} {M2 : mq_M} (hM : M = M2) (h : L = L2) (h2 : st = st2) (h3 : pc = pc2) (k : mq_X p l e R s m args below meth c Q nL D z H0 cells slots M2 pc2 L2 st2) : mq_X p l e R s m args below meth c Q nL D z H0 cells slots M pc L st := by
  subst hM; subst h; subst h2; subst h3; exact k
theorem mq_widen {k n : Nat} (h1 : cells ≤ k) (h2 : slots ≤ n) (kk : mq_X p l e R s m args below meth c Q nL D z H0 k n M pc L st) : mq_X p l e R s m args below meth c Q nL D z H0 cells slots M pc L st :=
  fun H locs la ws g1 g2 g3 g4 g5 g6 => W.widen h1 h2 (kk H locs la ws g1 g2 g3 g4 g5 g6)
theorem xr_iret (C : mq_C p m c cc nL s args Ts own D tys) {v : Int32} {post : Option Value → mq_M → Prop} {mc ms : Nat} (hr : meth.sig.returnType = some .int) (hlk : meth.locks = false) (hp : post (some (.int v)) M) (hc : cells ≤ mc) (hs : slots ≤ ms) (d : decode cc pc = .ok (.ireturn, 1)) :
    mq_X p l e R s m args below meth c (MQ below (mq_Qc D z post) args s mc ms (fun q => z ≤ q)) nL D z s.heap cells slots M pc L [.int v] :=
  fun H locs la ws h1 h2 h3 h4 h5 h6 => W.widen hc hs (W.iret C.1.1 C.1.2.1 hr (fun t ht _ => ⟨⟨_, M, rfl, hp, ws, by rw [ht]; exact h2, h3, h4⟩, h5.F ht⟩) h5.2.2 d (hlocks := hlk))
theorem xr_lret (C : mq_C p m c cc nL s args Ts own D tys) {v : Int64} {post : Option Value → mq_M → Prop} {mc ms : Nat} (hr : meth.sig.returnType = some .long) (hlk : meth.locks = false) (hp : post (some (.long v)) M) (hc : cells ≤ mc) (hs : slots ≤ ms) (d : decode cc pc = .ok (.lreturn, 1)) :
    mq_X p l e R s m args below meth c (MQ below (mq_Qc D z post) args s mc ms (fun q => z ≤ q)) nL D z s.heap cells slots M pc L [.long v] :=
  fun H locs la ws h1 h2 h3 h4 h5 h6 => W.widen hc hs (W.lret C.1.1 C.1.2.1 hr (fun t ht _ => ⟨⟨_, M, rfl, hp, ws, by rw [ht]; exact h2, h3, h4⟩, h5.F ht⟩) h5.2.2 d (hlocks := hlk))
theorem xr_zret (C : mq_C p m c cc nL s args Ts own D tys) {v : Int32} {ty : FieldType} {post : Option Value → mq_M → Prop} {mc ms : Nat} (hr : meth.sig.returnType = some ty) (hn : narrow ty (.int v) = .int v) (hlk : meth.locks = false) (hp : post (some (.int v)) M) (hc : cells ≤ mc) (hs : slots ≤ ms) (d : decode cc pc = .ok (.ireturn, 1)) :
    mq_X p l e R s m args below meth c (MQ below (mq_Qc D z post) args s mc ms (fun q => z ≤ q)) nL D z s.heap cells slots M pc L [.int v] :=
  fun H locs la ws h1 h2 h3 h4 h5 h6 => W.widen hc hs (W.zret C.1.1 C.1.2.1 hr hn (fun t ht _ => ⟨⟨_, M, rfl, hp, ws, by rw [ht]; exact h2, h3, h4⟩, h5.F ht⟩) h5.2.2 d (hlocks := hlk))
theorem xr_vret (C : mq_C p m c cc nL s args Ts own D tys) {post : Option Value → mq_M → Prop} {mc ms : Nat} (hr : meth.sig.returnType = none) (hlk : meth.locks = false) (hp : post none M) (hc : cells ≤ mc) (hs : slots ≤ ms) (d : decode cc pc = .ok (.return_, 1)) :
    mq_X p l e R s m args below meth c (MQ below (mq_Qc D z post) args s mc ms (fun q => z ≤ q)) nL D z s.heap cells slots M pc L [] :=
  fun H locs la ws h1 h2 h3 h4 h5 h6 => W.widen hc hs (W.vret C.1.1 C.1.2.1 hr (fun t ht _ => ⟨⟨_, M, rfl, hp, ws, by rw [ht]; exact h2, h3, h4⟩, h5.F ht⟩) h5.2.2 d (hlocks := hlk))
theorem xr_aret (C : mq_C p m c cc nL s args Ts own D tys) {v : Option Nat} {rt : FieldType} {post : Option Value → mq_M → Prop} {mc ms : Nat} (hr : meth.sig.returnType = some rt) (hrt : (∃ n, rt = .object n) ∨ ∃ t, rt = .array t) (hlk : meth.locks = false) (hp : post (some (va_rf v)) M) (hc : cells ≤ mc) (hs : slots ≤ ms) (d : decode cc pc = .ok (.areturn, 1)) :
    mq_X p l e R s m args below meth c (MQ below (mq_Qc D z post) args s mc ms (fun q => z ≤ q)) nL D z s.heap cells slots M pc L [va_rf v] :=
  fun H locs la ws h1 h2 h3 h4 h5 h6 => W.widen hc hs (W.aret C.1.1 C.1.2.1 hr hrt (by cases v with | none => exact Or.inl rfl | some a => exact Or.inr ⟨a, rfl⟩) (fun t ht _ => ⟨⟨_, M, rfl, hp, ws, by rw [ht]; exact h2, h3, h4⟩, h5.F ht⟩) h5.2.2 d (hlocks := hlk))
theorem mq_callk {H : Heap} {locs : List Loc} {la : Array Slot} {mc ms : Nat} {st0 rest : List Value} {a : Array Value} {post : Option Value → mq_M → Prop}
    (hr : va_Run p l e R s m args below meth c H locs cells slots mc ms (F0 m pc la st0) rest (mq_Qc D z post a) (fun q => z ≤ q)) (hS : va_S (fun q => z ≤ q) H0 H locs)
    (kk : ∀ (v : Option Value) (M' : mq_M) (H1 : Heap) (locs1 : List Loc), post v M' → mq_H D z M' H1 → va_S (fun q => z ≤ q) H0 H1 locs1 → W p l e R s m args below meth c H1 locs1 (cells + mc) (slots + ms) Q (F0 m (pc + 3) la (v.toList ++ rest))) : W p l e R s m args below meth c H locs cells slots Q (F0 m pc la st0) := by
  intro T hT X
  obtain ⟨v, st₀, t, T', Lq, h0, X', hL, e1, e2, ⟨⟨w, M', hv, hp, hH⟩, hz, hk⟩, go⟩ := hr T hT X
  cases hv
  rw [h0] at hz hk
  obtain ⟨t2, a1, b1⟩ := kk v M' T'.heap (locs ++ Lq) hp (by rw [e1]; exact hH)
    ⟨Nat.le_trans hS.1 (by rw [e1]; exact hz), fun q h1 h2 => by rw [e1, hk q (Nat.lt_of_lt_of_le h1 hS.1) h2]; exact hS.2.1 q h1 h2, fun q hq => by
      rcases List.mem_append.mp hq with h | h
      · exact hS.2.2 q h
      · exact hL q h⟩ T' rfl X'
  exact ⟨t2, go t2 a1, b1⟩
theorem mq_blind {z : Nat} {av : List Value} : FrameBlind (va_Pc av (mq_Pr D tys z M)) := by
  intro a U g mk q
  obtain ⟨q0, q1, q2, qK⟩ := q
  exact ⟨q0, q1, q2, va_K.moved (u := U) (U := U.calling g mk a) (Vm.Alike.refl U.vm) qK.1, qK.2.same rfl⟩
theorem mq_pre {H : Heap} {ws : va_W} {av : List Value} (C : mq_C p m c cc nL s args Ts own D tys) (h2 : va_P D vwCl ws H) (h3 : va_D (fun q => z ≤ q) ws) (h4 : mq_I M ws) (hz : z ≤ H.size) : ∀ U : State, U.heap = H → s.WarmedH U.vm → va_Pc av (mq_Pr D tys z M) av.toArray U :=
  fun U hU hW => ⟨rfl, ⟨ws, by rw [hU]; exact h2, h3, h4⟩, by rw [hU]; exact hz, va_K.moved hW.alike C.2.1, C.2.2.warm hW⟩
theorem mq_call {H : Heap} {locs : List Loc} {la : Array Slot} {mc ms : Nat} {st0 rest : List Value} {a : Array Value} {post : Option Value → mq_M → Prop} (h1 : mq_L la nL L) (h5 : va_S (fun q => z ≤ q) H0 H locs) (h6 : z ≤ H0.size)
    (hr : va_Run p l e R s m args below meth c H locs cells slots mc ms (F0 m pc la st0) rest (mq_Qc D z post a) (fun q => z ≤ q))
    (k : ∀ (v : Option Value) (M' : mq_M), post v M' → mq_X p l e R s m args below meth c Q nL D z H0 (cells + mc) (slots + ms) M' (pc + 3) L (v.toList ++ rest)) : W p l e R s m args below meth c H locs cells slots Q (F0 m pc la st0) :=
  mq_callk hr h5 fun v M' H1 locs1 hp hH hS => by
    obtain ⟨ws, g2, g3, g4⟩ := hH
    exact k v M' hp H1 locs1 la ws h1 g2 g3 g4 hS h6

theorem xr_callV0i (C : mq_C p m c cc nL s args Ts own D tys) {y : MethodName} {bytes : ByteArray} {maxL index mc ms b ci : Nat} {ret : Option FieldType} {ws0 : List Cond} {rm : Room} {Cn : String} {T : u_T} {N : Nat} {fs : List Value}  {P : Int → mq_M → Prop}
    (hM : mq_Met l y ws0 rm D tys [.ref b] M (mq_pi P) mc ms) (cw : CallW R s args own Cn index y bytes maxL ret ws0 rm mc ms 0) (hb : M b = some (.inr (ci, fs))) (hc : vwCl[ci]? = some (Cn, T, N)) (hst : (st.map fun v => v.category).sum ≤ 8) (hf : cells + mc ≤ R.cells ∧ slots + ms ≤ R.slots) (d : decode cc pc = .ok (.invokevirtual index, 3))
    (k : ∀ (r : Int) (M2 : mq_M), P r M2 → mq_X p l e R s m args below meth c Q nL D z H0 (cells + mc) (slots + ms) M2 (pc + 3) L (.int (zI r) :: st)) : mq_X p l e R s m args below meth c Q nL D z H0 cells slots M pc L (.ref b :: st) :=
  fun H locs la ws h1 h2 h3 h4 h5 h6 => by
    obtain ⟨q, hq⟩ := h4.at hb
    exact mq_call h1 h5 h6 (va_runV (As := []) (rest := st) C.1 (hM z) cw ⟨mq_blind, va_recv C.2.1 h2 hc hq, mq_pre C h2 h3 h4 (Nat.le_trans h6 h5.1)⟩ rfl rfl h1.1 rfl (lv_room hst) d hf) (fun v M2 hp => by
      obtain ⟨r, rfl, hp⟩ := hp
      exact k r M2 hp)
theorem xr_callV0iN (C : mq_C p m c cc nL s args Ts own D tys) {y : MethodName} {bytes : ByteArray} {maxL index mc ms b ci : Nat} {ret : Option FieldType} {ws0 : List Cond} {rm : Room} {Cn host : String} {T : u_T} {N : Nat} {fs : List Value}  {P : Int → mq_M → Prop}
    (hM : mq_Met l y ws0 rm D tys [.ref b] M (mq_pi P) mc ms) (cw : va_CN R s args own index y host bytes maxL ret ws0 rm mc ms 0 ∧ (Cond.instanceMethod y).before args s = true ∧ (Cond.selects Cn y y).before args s = true) (hb : M b = some (.inr (ci, fs))) (hc : vwCl[ci]? = some (Cn, T, N)) (hst : (st.map fun v => v.category).sum ≤ 8) (hf : cells + mc ≤ R.cells ∧ slots + ms ≤ R.slots) (d : decode cc pc = .ok (.invokevirtual index, 3))
    (k : ∀ (r : Int) (M2 : mq_M), P r M2 → mq_X p l e R s m args below meth c Q nL D z H0 (cells + mc) (slots + ms) M2 (pc + 3) L (.int (zI r) :: st)) : mq_X p l e R s m args below meth c Q nL D z H0 cells slots M pc L (.ref b :: st) :=
  fun H locs la ws h1 h2 h3 h4 h5 h6 => by
    obtain ⟨q, hq⟩ := h4.at hb
    exact mq_call h1 h5 h6 (va_runVN (As := []) (rest := st) C.1 (hM z) cw ⟨mq_blind, va_recv C.2.1 h2 hc hq, mq_pre C h2 h3 h4 (Nat.le_trans h6 h5.1)⟩ rfl rfl h1.1 rfl (lv_room hst) d hf) (fun v M2 hp => by
      obtain ⟨r, rfl, hp⟩ := hp
      exact k r M2 hp)
theorem xr_callS0i (C : mq_C p m c cc nL s args Ts own D tys) {y : MethodName} {bytes : ByteArray} {maxL index mc ms : Nat} {ret : Option FieldType} {ws0 : List Cond} {rm : Room}  {P : Int → mq_M → Prop}
    (hM : mq_Met l y ws0 rm D tys [] M (mq_pi P) mc ms) (cw : CallB R s args own index y bytes maxL ret ws0 rm mc ms 0 ∧ (Cond.static y).before args s = true) (hst : (st.map fun v => v.category).sum ≤ 8) (hf : cells + mc ≤ R.cells ∧ slots + ms ≤ R.slots) (d : decode cc pc = .ok (.invokestatic index, 3))
    (k : ∀ (r : Int) (M2 : mq_M), P r M2 → mq_X p l e R s m args below meth c Q nL D z H0 (cells + mc) (slots + ms) M2 (pc + 3) L (.int (zI r) :: st)) : mq_X p l e R s m args below meth c Q nL D z H0 cells slots M pc L (st) :=
  fun H locs la ws h1 h2 h3 h4 h5 h6 =>
    mq_call h1 h5 h6 (va_runS (As := []) (rest := st) C.1 (hM z) cw ⟨mq_blind, mq_pre C h2 h3 h4 (Nat.le_trans h6 h5.1)⟩ rfl rfl h1.1 rfl (lv_room hst) d hf) (fun v M2 hp => by
      obtain ⟨r, rfl, hp⟩ := hp
      exact k r M2 hp)
theorem xr_callS0iN (C : mq_C p m c cc nL s args Ts own D tys) {y : MethodName} {bytes : ByteArray} {maxL index mc ms : Nat} {ret : Option FieldType} {ws0 : List Cond} {rm : Room} {host : String}  {P : Int → mq_M → Prop}
    (hM : mq_Met l y ws0 rm D tys [] M (mq_pi P) mc ms) (cw : va_CN R s args own index y host bytes maxL ret ws0 rm mc ms 0 ∧ (Cond.static y).before args s = true ∧ True) (hst : (st.map fun v => v.category).sum ≤ 8) (hf : cells + mc ≤ R.cells ∧ slots + ms ≤ R.slots) (d : decode cc pc = .ok (.invokestatic index, 3))
    (k : ∀ (r : Int) (M2 : mq_M), P r M2 → mq_X p l e R s m args below meth c Q nL D z H0 (cells + mc) (slots + ms) M2 (pc + 3) L (.int (zI r) :: st)) : mq_X p l e R s m args below meth c Q nL D z H0 cells slots M pc L (st) :=
  fun H locs la ws h1 h2 h3 h4 h5 h6 =>
    mq_call h1 h5 h6 (va_runSN (As := []) (rest := st) C.1 (hM z) cw ⟨mq_blind, mq_pre C h2 h3 h4 (Nat.le_trans h6 h5.1)⟩ rfl rfl h1.1 rfl (lv_room hst) d hf) (fun v M2 hp => by
      obtain ⟨r, rfl, hp⟩ := hp
      exact k r M2 hp)
theorem xr_callV0v (C : mq_C p m c cc nL s args Ts own D tys) {y : MethodName} {bytes : ByteArray} {maxL index mc ms b ci : Nat} {ret : Option FieldType} {ws0 : List Cond} {rm : Room} {Cn : String} {T : u_T} {N : Nat} {fs : List Value}  {P : mq_M → Prop}
    (hM : mq_Met l y ws0 rm D tys [.ref b] M (mq_pv P) mc ms) (cw : CallW R s args own Cn index y bytes maxL ret ws0 rm mc ms 0) (hb : M b = some (.inr (ci, fs))) (hc : vwCl[ci]? = some (Cn, T, N)) (hst : (st.map fun v => v.category).sum ≤ 8) (hf : cells + mc ≤ R.cells ∧ slots + ms ≤ R.slots) (d : decode cc pc = .ok (.invokevirtual index, 3))
    (k : ∀ (M2 : mq_M), P M2 → mq_X p l e R s m args below meth c Q nL D z H0 (cells + mc) (slots + ms) M2 (pc + 3) L st) : mq_X p l e R s m args below meth c Q nL D z H0 cells slots M pc L (.ref b :: st) :=
  fun H locs la ws h1 h2 h3 h4 h5 h6 => by
    obtain ⟨q, hq⟩ := h4.at hb
    exact mq_call h1 h5 h6 (va_runV (As := []) (rest := st) C.1 (hM z) cw ⟨mq_blind, va_recv C.2.1 h2 hc hq, mq_pre C h2 h3 h4 (Nat.le_trans h6 h5.1)⟩ rfl rfl h1.1 rfl (lv_room hst) d hf) (fun v M2 hp => by
      obtain ⟨rfl, hp⟩ := hp
      exact k M2 hp)
theorem xr_callV0vN (C : mq_C p m c cc nL s args Ts own D tys) {y : MethodName} {bytes : ByteArray} {maxL index mc ms b ci : Nat} {ret : Option FieldType} {ws0 : List Cond} {rm : Room} {Cn host : String} {T : u_T} {N : Nat} {fs : List Value}  {P : mq_M → Prop}
    (hM : mq_Met l y ws0 rm D tys [.ref b] M (mq_pv P) mc ms) (cw : va_CN R s args own index y host bytes maxL ret ws0 rm mc ms 0 ∧ (Cond.instanceMethod y).before args s = true ∧ (Cond.selects Cn y y).before args s = true) (hb : M b = some (.inr (ci, fs))) (hc : vwCl[ci]? = some (Cn, T, N)) (hst : (st.map fun v => v.category).sum ≤ 8) (hf : cells + mc ≤ R.cells ∧ slots + ms ≤ R.slots) (d : decode cc pc = .ok (.invokevirtual index, 3))
    (k : ∀ (M2 : mq_M), P M2 → mq_X p l e R s m args below meth c Q nL D z H0 (cells + mc) (slots + ms) M2 (pc + 3) L st) : mq_X p l e R s m args below meth c Q nL D z H0 cells slots M pc L (.ref b :: st) :=
  fun H locs la ws h1 h2 h3 h4 h5 h6 => by
    obtain ⟨q, hq⟩ := h4.at hb
    exact mq_call h1 h5 h6 (va_runVN (As := []) (rest := st) C.1 (hM z) cw ⟨mq_blind, va_recv C.2.1 h2 hc hq, mq_pre C h2 h3 h4 (Nat.le_trans h6 h5.1)⟩ rfl rfl h1.1 rfl (lv_room hst) d hf) (fun v M2 hp => by
      obtain ⟨rfl, hp⟩ := hp
      exact k M2 hp)
theorem xr_callS0v (C : mq_C p m c cc nL s args Ts own D tys) {y : MethodName} {bytes : ByteArray} {maxL index mc ms : Nat} {ret : Option FieldType} {ws0 : List Cond} {rm : Room}  {P : mq_M → Prop}
    (hM : mq_Met l y ws0 rm D tys [] M (mq_pv P) mc ms) (cw : CallB R s args own index y bytes maxL ret ws0 rm mc ms 0 ∧ (Cond.static y).before args s = true) (hst : (st.map fun v => v.category).sum ≤ 8) (hf : cells + mc ≤ R.cells ∧ slots + ms ≤ R.slots) (d : decode cc pc = .ok (.invokestatic index, 3))
    (k : ∀ (M2 : mq_M), P M2 → mq_X p l e R s m args below meth c Q nL D z H0 (cells + mc) (slots + ms) M2 (pc + 3) L st) : mq_X p l e R s m args below meth c Q nL D z H0 cells slots M pc L (st) :=
  fun H locs la ws h1 h2 h3 h4 h5 h6 =>
    mq_call h1 h5 h6 (va_runS (As := []) (rest := st) C.1 (hM z) cw ⟨mq_blind, mq_pre C h2 h3 h4 (Nat.le_trans h6 h5.1)⟩ rfl rfl h1.1 rfl (lv_room hst) d hf) (fun v M2 hp => by
      obtain ⟨rfl, hp⟩ := hp
      exact k M2 hp)
theorem xr_callS0vN (C : mq_C p m c cc nL s args Ts own D tys) {y : MethodName} {bytes : ByteArray} {maxL index mc ms : Nat} {ret : Option FieldType} {ws0 : List Cond} {rm : Room} {host : String}  {P : mq_M → Prop}
    (hM : mq_Met l y ws0 rm D tys [] M (mq_pv P) mc ms) (cw : va_CN R s args own index y host bytes maxL ret ws0 rm mc ms 0 ∧ (Cond.static y).before args s = true ∧ True) (hst : (st.map fun v => v.category).sum ≤ 8) (hf : cells + mc ≤ R.cells ∧ slots + ms ≤ R.slots) (d : decode cc pc = .ok (.invokestatic index, 3))
    (k : ∀ (M2 : mq_M), P M2 → mq_X p l e R s m args below meth c Q nL D z H0 (cells + mc) (slots + ms) M2 (pc + 3) L st) : mq_X p l e R s m args below meth c Q nL D z H0 cells slots M pc L (st) :=
  fun H locs la ws h1 h2 h3 h4 h5 h6 =>
    mq_call h1 h5 h6 (va_runSN (As := []) (rest := st) C.1 (hM z) cw ⟨mq_blind, mq_pre C h2 h3 h4 (Nat.le_trans h6 h5.1)⟩ rfl rfl h1.1 rfl (lv_room hst) d hf) (fun v M2 hp => by
      obtain ⟨rfl, hp⟩ := hp
      exact k M2 hp)
theorem xr_callI0 (C : mq_C p m c cc nL s args Ts own D tys) {y : MethodName} {bytes : ByteArray} {maxL index mc ms b : Nat} {ws0 : List Cond} {rm : Room}  {P : mq_M → Prop}
    (hM : mq_Met l y ws0 rm D tys [.ref b] M (mq_pv P) mc ms) (cw : CallB R s args own index y bytes maxL none ws0 rm mc ms 0 ∧ y.name = "<init>" ∧ (Cond.instanceMethod y).before args s = true) (hst : (st.map fun v => v.category).sum ≤ 8) (hf : cells + mc ≤ R.cells ∧ slots + ms ≤ R.slots) (d : decode cc pc = .ok (.invokespecial index, 3))
    (k : ∀ (M2 : mq_M), P M2 → mq_X p l e R s m args below meth c Q nL D z H0 (cells + mc) (slots + ms) M2 (pc + 3) L st) : mq_X p l e R s m args below meth c Q nL D z H0 cells slots M pc L (.ref b :: st) :=
  fun H locs la ws h1 h2 h3 h4 h5 h6 =>
    mq_call h1 h5 h6 (va_runI (As := []) (rest := st) C.1 (hM z) cw ⟨mq_blind, mq_pre C h2 h3 h4 (Nat.le_trans h6 h5.1)⟩ rfl rfl h1.1 rfl (lv_room hst) d hf) (fun v M2 hp => by
      obtain ⟨rfl, hp⟩ := hp
      exact k M2 hp)
theorem xr_callI0N (C : mq_C p m c cc nL s args Ts own D tys) {y : MethodName} {bytes : ByteArray} {maxL index mc ms b : Nat} {ws0 : List Cond} {rm : Room} {host : String}  {P : mq_M → Prop}
    (hM : mq_Met l y ws0 rm D tys [.ref b] M (mq_pv P) mc ms) (cw : va_CN R s args own index y host bytes maxL none ws0 rm mc ms 0 ∧ y.name = "<init>" ∧ (Cond.instanceMethod y).before args s = true) (hst : (st.map fun v => v.category).sum ≤ 8) (hf : cells + mc ≤ R.cells ∧ slots + ms ≤ R.slots) (d : decode cc pc = .ok (.invokespecial index, 3))
    (k : ∀ (M2 : mq_M), P M2 → mq_X p l e R s m args below meth c Q nL D z H0 (cells + mc) (slots + ms) M2 (pc + 3) L st) : mq_X p l e R s m args below meth c Q nL D z H0 cells slots M pc L (.ref b :: st) :=
  fun H locs la ws h1 h2 h3 h4 h5 h6 =>
    mq_call h1 h5 h6 (va_runIN (As := []) (rest := st) C.1 (hM z) cw ⟨mq_blind, mq_pre C h2 h3 h4 (Nat.le_trans h6 h5.1)⟩ rfl rfl h1.1 rfl (lv_room hst) d hf) (fun v M2 hp => by
      obtain ⟨rfl, hp⟩ := hp
      exact k M2 hp)
theorem xr_callV0l (C : mq_C p m c cc nL s args Ts own D tys) {y : MethodName} {bytes : ByteArray} {maxL index mc ms b ci : Nat} {ret : Option FieldType} {ws0 : List Cond} {rm : Room} {Cn : String} {T : u_T} {N : Nat} {fs : List Value}  {P : Int64 → mq_M → Prop}
    (hM : mq_Met l y ws0 rm D tys [.ref b] M (mq_pl P) mc ms) (cw : CallW R s args own Cn index y bytes maxL ret ws0 rm mc ms 0) (hb : M b = some (.inr (ci, fs))) (hc : vwCl[ci]? = some (Cn, T, N)) (hst : (st.map fun v => v.category).sum ≤ 8) (hf : cells + mc ≤ R.cells ∧ slots + ms ≤ R.slots) (d : decode cc pc = .ok (.invokevirtual index, 3))
    (k : ∀ (r : Int64) (M2 : mq_M), P r M2 → mq_X p l e R s m args below meth c Q nL D z H0 (cells + mc) (slots + ms) M2 (pc + 3) L (.long r :: st)) : mq_X p l e R s m args below meth c Q nL D z H0 cells slots M pc L (.ref b :: st) :=
  fun H locs la ws h1 h2 h3 h4 h5 h6 => by
    obtain ⟨q, hq⟩ := h4.at hb
    exact mq_call h1 h5 h6 (va_runV (As := []) (rest := st) C.1 (hM z) cw ⟨mq_blind, va_recv C.2.1 h2 hc hq, mq_pre C h2 h3 h4 (Nat.le_trans h6 h5.1)⟩ rfl rfl h1.1 rfl (lv_room hst) d hf) (fun v M2 hp => by
      obtain ⟨r, rfl, hp⟩ := hp
      exact k r M2 hp)
theorem xr_callV0lN (C : mq_C p m c cc nL s args Ts own D tys) {y : MethodName} {bytes : ByteArray} {maxL index mc ms b ci : Nat} {ret : Option FieldType} {ws0 : List Cond} {rm : Room} {Cn host : String} {T : u_T} {N : Nat} {fs : List Value}  {P : Int64 → mq_M → Prop}
    (hM : mq_Met l y ws0 rm D tys [.ref b] M (mq_pl P) mc ms) (cw : va_CN R s args own index y host bytes maxL ret ws0 rm mc ms 0 ∧ (Cond.instanceMethod y).before args s = true ∧ (Cond.selects Cn y y).before args s = true) (hb : M b = some (.inr (ci, fs))) (hc : vwCl[ci]? = some (Cn, T, N)) (hst : (st.map fun v => v.category).sum ≤ 8) (hf : cells + mc ≤ R.cells ∧ slots + ms ≤ R.slots) (d : decode cc pc = .ok (.invokevirtual index, 3))
    (k : ∀ (r : Int64) (M2 : mq_M), P r M2 → mq_X p l e R s m args below meth c Q nL D z H0 (cells + mc) (slots + ms) M2 (pc + 3) L (.long r :: st)) : mq_X p l e R s m args below meth c Q nL D z H0 cells slots M pc L (.ref b :: st) :=
  fun H locs la ws h1 h2 h3 h4 h5 h6 => by
    obtain ⟨q, hq⟩ := h4.at hb
    exact mq_call h1 h5 h6 (va_runVN (As := []) (rest := st) C.1 (hM z) cw ⟨mq_blind, va_recv C.2.1 h2 hc hq, mq_pre C h2 h3 h4 (Nat.le_trans h6 h5.1)⟩ rfl rfl h1.1 rfl (lv_room hst) d hf) (fun v M2 hp => by
      obtain ⟨r, rfl, hp⟩ := hp
      exact k r M2 hp)
theorem xr_callS0l (C : mq_C p m c cc nL s args Ts own D tys) {y : MethodName} {bytes : ByteArray} {maxL index mc ms : Nat} {ret : Option FieldType} {ws0 : List Cond} {rm : Room}  {P : Int64 → mq_M → Prop}
    (hM : mq_Met l y ws0 rm D tys [] M (mq_pl P) mc ms) (cw : CallB R s args own index y bytes maxL ret ws0 rm mc ms 0 ∧ (Cond.static y).before args s = true) (hst : (st.map fun v => v.category).sum ≤ 8) (hf : cells + mc ≤ R.cells ∧ slots + ms ≤ R.slots) (d : decode cc pc = .ok (.invokestatic index, 3))
    (k : ∀ (r : Int64) (M2 : mq_M), P r M2 → mq_X p l e R s m args below meth c Q nL D z H0 (cells + mc) (slots + ms) M2 (pc + 3) L (.long r :: st)) : mq_X p l e R s m args below meth c Q nL D z H0 cells slots M pc L (st) :=
  fun H locs la ws h1 h2 h3 h4 h5 h6 =>
    mq_call h1 h5 h6 (va_runS (As := []) (rest := st) C.1 (hM z) cw ⟨mq_blind, mq_pre C h2 h3 h4 (Nat.le_trans h6 h5.1)⟩ rfl rfl h1.1 rfl (lv_room hst) d hf) (fun v M2 hp => by
      obtain ⟨r, rfl, hp⟩ := hp
      exact k r M2 hp)
theorem xr_callS0lN (C : mq_C p m c cc nL s args Ts own D tys) {y : MethodName} {bytes : ByteArray} {maxL index mc ms : Nat} {ret : Option FieldType} {ws0 : List Cond} {rm : Room} {host : String}  {P : Int64 → mq_M → Prop}
    (hM : mq_Met l y ws0 rm D tys [] M (mq_pl P) mc ms) (cw : va_CN R s args own index y host bytes maxL ret ws0 rm mc ms 0 ∧ (Cond.static y).before args s = true ∧ True) (hst : (st.map fun v => v.category).sum ≤ 8) (hf : cells + mc ≤ R.cells ∧ slots + ms ≤ R.slots) (d : decode cc pc = .ok (.invokestatic index, 3))
    (k : ∀ (r : Int64) (M2 : mq_M), P r M2 → mq_X p l e R s m args below meth c Q nL D z H0 (cells + mc) (slots + ms) M2 (pc + 3) L (.long r :: st)) : mq_X p l e R s m args below meth c Q nL D z H0 cells slots M pc L (st) :=
  fun H locs la ws h1 h2 h3 h4 h5 h6 =>
    mq_call h1 h5 h6 (va_runSN (As := []) (rest := st) C.1 (hM z) cw ⟨mq_blind, mq_pre C h2 h3 h4 (Nat.le_trans h6 h5.1)⟩ rfl rfl h1.1 rfl (lv_room hst) d hf) (fun v M2 hp => by
      obtain ⟨r, rfl, hp⟩ := hp
      exact k r M2 hp)
theorem xr_callV0r (C : mq_C p m c cc nL s args Ts own D tys) {y : MethodName} {bytes : ByteArray} {maxL index mc ms b ci : Nat} {ret : Option FieldType} {ws0 : List Cond} {rm : Room} {Cn : String} {T : u_T} {N : Nat} {fs : List Value}  {P : Option Nat → mq_M → Prop}
    (hM : mq_Met l y ws0 rm D tys [.ref b] M (mq_pr P) mc ms) (cw : CallW R s args own Cn index y bytes maxL ret ws0 rm mc ms 0) (hb : M b = some (.inr (ci, fs))) (hc : vwCl[ci]? = some (Cn, T, N)) (hst : (st.map fun v => v.category).sum ≤ 8) (hf : cells + mc ≤ R.cells ∧ slots + ms ≤ R.slots) (d : decode cc pc = .ok (.invokevirtual index, 3))
    (k : ∀ (r : Option Nat) (M2 : mq_M), P r M2 → mq_X p l e R s m args below meth c Q nL D z H0 (cells + mc) (slots + ms) M2 (pc + 3) L (va_rf r :: st)) : mq_X p l e R s m args below meth c Q nL D z H0 cells slots M pc L (.ref b :: st) :=
  fun H locs la ws h1 h2 h3 h4 h5 h6 => by
    obtain ⟨q, hq⟩ := h4.at hb
    exact mq_call h1 h5 h6 (va_runV (As := []) (rest := st) C.1 (hM z) cw ⟨mq_blind, va_recv C.2.1 h2 hc hq, mq_pre C h2 h3 h4 (Nat.le_trans h6 h5.1)⟩ rfl rfl h1.1 rfl (lv_room hst) d hf) (fun v M2 hp => by
      obtain ⟨r, rfl, hp⟩ := hp
      exact k r M2 hp)
theorem xr_callV0rN (C : mq_C p m c cc nL s args Ts own D tys) {y : MethodName} {bytes : ByteArray} {maxL index mc ms b ci : Nat} {ret : Option FieldType} {ws0 : List Cond} {rm : Room} {Cn host : String} {T : u_T} {N : Nat} {fs : List Value}  {P : Option Nat → mq_M → Prop}
    (hM : mq_Met l y ws0 rm D tys [.ref b] M (mq_pr P) mc ms) (cw : va_CN R s args own index y host bytes maxL ret ws0 rm mc ms 0 ∧ (Cond.instanceMethod y).before args s = true ∧ (Cond.selects Cn y y).before args s = true) (hb : M b = some (.inr (ci, fs))) (hc : vwCl[ci]? = some (Cn, T, N)) (hst : (st.map fun v => v.category).sum ≤ 8) (hf : cells + mc ≤ R.cells ∧ slots + ms ≤ R.slots) (d : decode cc pc = .ok (.invokevirtual index, 3))
    (k : ∀ (r : Option Nat) (M2 : mq_M), P r M2 → mq_X p l e R s m args below meth c Q nL D z H0 (cells + mc) (slots + ms) M2 (pc + 3) L (va_rf r :: st)) : mq_X p l e R s m args below meth c Q nL D z H0 cells slots M pc L (.ref b :: st) :=
  fun H locs la ws h1 h2 h3 h4 h5 h6 => by
    obtain ⟨q, hq⟩ := h4.at hb
    exact mq_call h1 h5 h6 (va_runVN (As := []) (rest := st) C.1 (hM z) cw ⟨mq_blind, va_recv C.2.1 h2 hc hq, mq_pre C h2 h3 h4 (Nat.le_trans h6 h5.1)⟩ rfl rfl h1.1 rfl (lv_room hst) d hf) (fun v M2 hp => by
      obtain ⟨r, rfl, hp⟩ := hp
      exact k r M2 hp)
theorem xr_callS0r (C : mq_C p m c cc nL s args Ts own D tys) {y : MethodName} {bytes : ByteArray} {maxL index mc ms : Nat} {ret : Option FieldType} {ws0 : List Cond} {rm : Room}  {P : Option Nat → mq_M → Prop}
    (hM : mq_Met l y ws0 rm D tys [] M (mq_pr P) mc ms) (cw : CallB R s args own index y bytes maxL ret ws0 rm mc ms 0 ∧ (Cond.static y).before args s = true) (hst : (st.map fun v => v.category).sum ≤ 8) (hf : cells + mc ≤ R.cells ∧ slots + ms ≤ R.slots) (d : decode cc pc = .ok (.invokestatic index, 3))
    (k : ∀ (r : Option Nat) (M2 : mq_M), P r M2 → mq_X p l e R s m args below meth c Q nL D z H0 (cells + mc) (slots + ms) M2 (pc + 3) L (va_rf r :: st)) : mq_X p l e R s m args below meth c Q nL D z H0 cells slots M pc L (st) :=
  fun H locs la ws h1 h2 h3 h4 h5 h6 =>
    mq_call h1 h5 h6 (va_runS (As := []) (rest := st) C.1 (hM z) cw ⟨mq_blind, mq_pre C h2 h3 h4 (Nat.le_trans h6 h5.1)⟩ rfl rfl h1.1 rfl (lv_room hst) d hf) (fun v M2 hp => by
      obtain ⟨r, rfl, hp⟩ := hp
      exact k r M2 hp)
theorem xr_callS0rN (C : mq_C p m c cc nL s args Ts own D tys) {y : MethodName} {bytes : ByteArray} {maxL index mc ms : Nat} {ret : Option FieldType} {ws0 : List Cond} {rm : Room} {host : String}  {P : Option Nat → mq_M → Prop}
    (hM : mq_Met l y ws0 rm D tys [] M (mq_pr P) mc ms) (cw : va_CN R s args own index y host bytes maxL ret ws0 rm mc ms 0 ∧ (Cond.static y).before args s = true ∧ True) (hst : (st.map fun v => v.category).sum ≤ 8) (hf : cells + mc ≤ R.cells ∧ slots + ms ≤ R.slots) (d : decode cc pc = .ok (.invokestatic index, 3))
    (k : ∀ (r : Option Nat) (M2 : mq_M), P r M2 → mq_X p l e R s m args below meth c Q nL D z H0 (cells + mc) (slots + ms) M2 (pc + 3) L (va_rf r :: st)) : mq_X p l e R s m args below meth c Q nL D z H0 cells slots M pc L (st) :=
  fun H locs la ws h1 h2 h3 h4 h5 h6 =>
    mq_call h1 h5 h6 (va_runSN (As := []) (rest := st) C.1 (hM z) cw ⟨mq_blind, mq_pre C h2 h3 h4 (Nat.le_trans h6 h5.1)⟩ rfl rfl h1.1 rfl (lv_room hst) d hf) (fun v M2 hp => by
      obtain ⟨r, rfl, hp⟩ := hp
      exact k r M2 hp)
theorem xr_callV1i (C : mq_C p m c cc nL s args Ts own D tys) {y : MethodName} {bytes : ByteArray} {maxL index mc ms b ci : Nat} {ret : Option FieldType} {ws0 : List Cond} {rm : Room} {Cn : String} {T : u_T} {N : Nat} {fs : List Value} {a0 : Value} {P : Int → mq_M → Prop}
    (hM : mq_Met l y ws0 rm D tys [.ref b, a0] M (mq_pi P) mc ms) (cw : CallW R s args own Cn index y bytes maxL ret ws0 rm mc ms 1) (hb : M b = some (.inr (ci, fs))) (hc : vwCl[ci]? = some (Cn, T, N)) (hst : (st.map fun v => v.category).sum ≤ 8) (hf : cells + mc ≤ R.cells ∧ slots + ms ≤ R.slots) (d : decode cc pc = .ok (.invokevirtual index, 3))
    (k : ∀ (r : Int) (M2 : mq_M), P r M2 → mq_X p l e R s m args below meth c Q nL D z H0 (cells + mc) (slots + ms) M2 (pc + 3) L (.int (zI r) :: st)) : mq_X p l e R s m args below meth c Q nL D z H0 cells slots M pc L (a0 :: .ref b :: st) :=
  fun H locs la ws h1 h2 h3 h4 h5 h6 => by
    obtain ⟨q, hq⟩ := h4.at hb
    exact mq_call h1 h5 h6 (va_runV (As := [a0]) (rest := st) C.1 (hM z) cw ⟨mq_blind, va_recv C.2.1 h2 hc hq, mq_pre C h2 h3 h4 (Nat.le_trans h6 h5.1)⟩ rfl rfl h1.1 rfl (lv_room hst) d hf) (fun v M2 hp => by
      obtain ⟨r, rfl, hp⟩ := hp
      exact k r M2 hp)
theorem xr_callV1iN (C : mq_C p m c cc nL s args Ts own D tys) {y : MethodName} {bytes : ByteArray} {maxL index mc ms b ci : Nat} {ret : Option FieldType} {ws0 : List Cond} {rm : Room} {Cn host : String} {T : u_T} {N : Nat} {fs : List Value} {a0 : Value} {P : Int → mq_M → Prop}
    (hM : mq_Met l y ws0 rm D tys [.ref b, a0] M (mq_pi P) mc ms) (cw : va_CN R s args own index y host bytes maxL ret ws0 rm mc ms 1 ∧ (Cond.instanceMethod y).before args s = true ∧ (Cond.selects Cn y y).before args s = true) (hb : M b = some (.inr (ci, fs))) (hc : vwCl[ci]? = some (Cn, T, N)) (hst : (st.map fun v => v.category).sum ≤ 8) (hf : cells + mc ≤ R.cells ∧ slots + ms ≤ R.slots) (d : decode cc pc = .ok (.invokevirtual index, 3))
    (k : ∀ (r : Int) (M2 : mq_M), P r M2 → mq_X p l e R s m args below meth c Q nL D z H0 (cells + mc) (slots + ms) M2 (pc + 3) L (.int (zI r) :: st)) : mq_X p l e R s m args below meth c Q nL D z H0 cells slots M pc L (a0 :: .ref b :: st) :=
  fun H locs la ws h1 h2 h3 h4 h5 h6 => by
    obtain ⟨q, hq⟩ := h4.at hb
    exact mq_call h1 h5 h6 (va_runVN (As := [a0]) (rest := st) C.1 (hM z) cw ⟨mq_blind, va_recv C.2.1 h2 hc hq, mq_pre C h2 h3 h4 (Nat.le_trans h6 h5.1)⟩ rfl rfl h1.1 rfl (lv_room hst) d hf) (fun v M2 hp => by
      obtain ⟨r, rfl, hp⟩ := hp
      exact k r M2 hp)
theorem xr_callS1i (C : mq_C p m c cc nL s args Ts own D tys) {y : MethodName} {bytes : ByteArray} {maxL index mc ms : Nat} {ret : Option FieldType} {ws0 : List Cond} {rm : Room} {a0 : Value} {P : Int → mq_M → Prop}
    (hM : mq_Met l y ws0 rm D tys [a0] M (mq_pi P) mc ms) (cw : CallB R s args own index y bytes maxL ret ws0 rm mc ms 1 ∧ (Cond.static y).before args s = true) (hst : (st.map fun v => v.category).sum ≤ 8) (hf : cells + mc ≤ R.cells ∧ slots + ms ≤ R.slots) (d : decode cc pc = .ok (.invokestatic index, 3))
    (k : ∀ (r : Int) (M2 : mq_M), P r M2 → mq_X p l e R s m args below meth c Q nL D z H0 (cells + mc) (slots + ms) M2 (pc + 3) L (.int (zI r) :: st)) : mq_X p l e R s m args below meth c Q nL D z H0 cells slots M pc L (a0 :: st) :=
  fun H locs la ws h1 h2 h3 h4 h5 h6 =>
    mq_call h1 h5 h6 (va_runS (As := [a0]) (rest := st) C.1 (hM z) cw ⟨mq_blind, mq_pre C h2 h3 h4 (Nat.le_trans h6 h5.1)⟩ rfl rfl h1.1 rfl (lv_room hst) d hf) (fun v M2 hp => by
      obtain ⟨r, rfl, hp⟩ := hp
      exact k r M2 hp)
theorem xr_callS1iN (C : mq_C p m c cc nL s args Ts own D tys) {y : MethodName} {bytes : ByteArray} {maxL index mc ms : Nat} {ret : Option FieldType} {ws0 : List Cond} {rm : Room} {host : String} {a0 : Value} {P : Int → mq_M → Prop}
    (hM : mq_Met l y ws0 rm D tys [a0] M (mq_pi P) mc ms) (cw : va_CN R s args own index y host bytes maxL ret ws0 rm mc ms 1 ∧ (Cond.static y).before args s = true ∧ True) (hst : (st.map fun v => v.category).sum ≤ 8) (hf : cells + mc ≤ R.cells ∧ slots + ms ≤ R.slots) (d : decode cc pc = .ok (.invokestatic index, 3))
    (k : ∀ (r : Int) (M2 : mq_M), P r M2 → mq_X p l e R s m args below meth c Q nL D z H0 (cells + mc) (slots + ms) M2 (pc + 3) L (.int (zI r) :: st)) : mq_X p l e R s m args below meth c Q nL D z H0 cells slots M pc L (a0 :: st) :=
  fun H locs la ws h1 h2 h3 h4 h5 h6 =>
    mq_call h1 h5 h6 (va_runSN (As := [a0]) (rest := st) C.1 (hM z) cw ⟨mq_blind, mq_pre C h2 h3 h4 (Nat.le_trans h6 h5.1)⟩ rfl rfl h1.1 rfl (lv_room hst) d hf) (fun v M2 hp => by
      obtain ⟨r, rfl, hp⟩ := hp
      exact k r M2 hp)
theorem xr_callV1v (C : mq_C p m c cc nL s args Ts own D tys) {y : MethodName} {bytes : ByteArray} {maxL index mc ms b ci : Nat} {ret : Option FieldType} {ws0 : List Cond} {rm : Room} {Cn : String} {T : u_T} {N : Nat} {fs : List Value} {a0 : Value} {P : mq_M → Prop}
    (hM : mq_Met l y ws0 rm D tys [.ref b, a0] M (mq_pv P) mc ms) (cw : CallW R s args own Cn index y bytes maxL ret ws0 rm mc ms 1) (hb : M b = some (.inr (ci, fs))) (hc : vwCl[ci]? = some (Cn, T, N)) (hst : (st.map fun v => v.category).sum ≤ 8) (hf : cells + mc ≤ R.cells ∧ slots + ms ≤ R.slots) (d : decode cc pc = .ok (.invokevirtual index, 3))
    (k : ∀ (M2 : mq_M), P M2 → mq_X p l e R s m args below meth c Q nL D z H0 (cells + mc) (slots + ms) M2 (pc + 3) L st) : mq_X p l e R s m args below meth c Q nL D z H0 cells slots M pc L (a0 :: .ref b :: st) :=
  fun H locs la ws h1 h2 h3 h4 h5 h6 => by
    obtain ⟨q, hq⟩ := h4.at hb
    exact mq_call h1 h5 h6 (va_runV (As := [a0]) (rest := st) C.1 (hM z) cw ⟨mq_blind, va_recv C.2.1 h2 hc hq, mq_pre C h2 h3 h4 (Nat.le_trans h6 h5.1)⟩ rfl rfl h1.1 rfl (lv_room hst) d hf) (fun v M2 hp => by
      obtain ⟨rfl, hp⟩ := hp
      exact k M2 hp)
theorem xr_callV1vN (C : mq_C p m c cc nL s args Ts own D tys) {y : MethodName} {bytes : ByteArray} {maxL index mc ms b ci : Nat} {ret : Option FieldType} {ws0 : List Cond} {rm : Room} {Cn host : String} {T : u_T} {N : Nat} {fs : List Value} {a0 : Value} {P : mq_M → Prop}
    (hM : mq_Met l y ws0 rm D tys [.ref b, a0] M (mq_pv P) mc ms) (cw : va_CN R s args own index y host bytes maxL ret ws0 rm mc ms 1 ∧ (Cond.instanceMethod y).before args s = true ∧ (Cond.selects Cn y y).before args s = true) (hb : M b = some (.inr (ci, fs))) (hc : vwCl[ci]? = some (Cn, T, N)) (hst : (st.map fun v => v.category).sum ≤ 8) (hf : cells + mc ≤ R.cells ∧ slots + ms ≤ R.slots) (d : decode cc pc = .ok (.invokevirtual index, 3))
    (k : ∀ (M2 : mq_M), P M2 → mq_X p l e R s m args below meth c Q nL D z H0 (cells + mc) (slots + ms) M2 (pc + 3) L st) : mq_X p l e R s m args below meth c Q nL D z H0 cells slots M pc L (a0 :: .ref b :: st) :=
  fun H locs la ws h1 h2 h3 h4 h5 h6 => by
    obtain ⟨q, hq⟩ := h4.at hb
    exact mq_call h1 h5 h6 (va_runVN (As := [a0]) (rest := st) C.1 (hM z) cw ⟨mq_blind, va_recv C.2.1 h2 hc hq, mq_pre C h2 h3 h4 (Nat.le_trans h6 h5.1)⟩ rfl rfl h1.1 rfl (lv_room hst) d hf) (fun v M2 hp => by
      obtain ⟨rfl, hp⟩ := hp
      exact k M2 hp)
theorem xr_callS1v (C : mq_C p m c cc nL s args Ts own D tys) {y : MethodName} {bytes : ByteArray} {maxL index mc ms : Nat} {ret : Option FieldType} {ws0 : List Cond} {rm : Room} {a0 : Value} {P : mq_M → Prop}
    (hM : mq_Met l y ws0 rm D tys [a0] M (mq_pv P) mc ms) (cw : CallB R s args own index y bytes maxL ret ws0 rm mc ms 1 ∧ (Cond.static y).before args s = true) (hst : (st.map fun v => v.category).sum ≤ 8) (hf : cells + mc ≤ R.cells ∧ slots + ms ≤ R.slots) (d : decode cc pc = .ok (.invokestatic index, 3))
    (k : ∀ (M2 : mq_M), P M2 → mq_X p l e R s m args below meth c Q nL D z H0 (cells + mc) (slots + ms) M2 (pc + 3) L st) : mq_X p l e R s m args below meth c Q nL D z H0 cells slots M pc L (a0 :: st) :=
  fun H locs la ws h1 h2 h3 h4 h5 h6 =>
    mq_call h1 h5 h6 (va_runS (As := [a0]) (rest := st) C.1 (hM z) cw ⟨mq_blind, mq_pre C h2 h3 h4 (Nat.le_trans h6 h5.1)⟩ rfl rfl h1.1 rfl (lv_room hst) d hf) (fun v M2 hp => by
      obtain ⟨rfl, hp⟩ := hp
      exact k M2 hp)
theorem xr_callS1vN (C : mq_C p m c cc nL s args Ts own D tys) {y : MethodName} {bytes : ByteArray} {maxL index mc ms : Nat} {ret : Option FieldType} {ws0 : List Cond} {rm : Room} {host : String} {a0 : Value} {P : mq_M → Prop}
    (hM : mq_Met l y ws0 rm D tys [a0] M (mq_pv P) mc ms) (cw : va_CN R s args own index y host bytes maxL ret ws0 rm mc ms 1 ∧ (Cond.static y).before args s = true ∧ True) (hst : (st.map fun v => v.category).sum ≤ 8) (hf : cells + mc ≤ R.cells ∧ slots + ms ≤ R.slots) (d : decode cc pc = .ok (.invokestatic index, 3))
    (k : ∀ (M2 : mq_M), P M2 → mq_X p l e R s m args below meth c Q nL D z H0 (cells + mc) (slots + ms) M2 (pc + 3) L st) : mq_X p l e R s m args below meth c Q nL D z H0 cells slots M pc L (a0 :: st) :=
  fun H locs la ws h1 h2 h3 h4 h5 h6 =>
    mq_call h1 h5 h6 (va_runSN (As := [a0]) (rest := st) C.1 (hM z) cw ⟨mq_blind, mq_pre C h2 h3 h4 (Nat.le_trans h6 h5.1)⟩ rfl rfl h1.1 rfl (lv_room hst) d hf) (fun v M2 hp => by
      obtain ⟨rfl, hp⟩ := hp
      exact k M2 hp)
theorem xr_callI1 (C : mq_C p m c cc nL s args Ts own D tys) {y : MethodName} {bytes : ByteArray} {maxL index mc ms b : Nat} {ws0 : List Cond} {rm : Room} {a0 : Value} {P : mq_M → Prop}
    (hM : mq_Met l y ws0 rm D tys [.ref b, a0] M (mq_pv P) mc ms) (cw : CallB R s args own index y bytes maxL none ws0 rm mc ms 1 ∧ y.name = "<init>" ∧ (Cond.instanceMethod y).before args s = true) (hst : (st.map fun v => v.category).sum ≤ 8) (hf : cells + mc ≤ R.cells ∧ slots + ms ≤ R.slots) (d : decode cc pc = .ok (.invokespecial index, 3))
    (k : ∀ (M2 : mq_M), P M2 → mq_X p l e R s m args below meth c Q nL D z H0 (cells + mc) (slots + ms) M2 (pc + 3) L st) : mq_X p l e R s m args below meth c Q nL D z H0 cells slots M pc L (a0 :: .ref b :: st) :=
  fun H locs la ws h1 h2 h3 h4 h5 h6 =>
    mq_call h1 h5 h6 (va_runI (As := [a0]) (rest := st) C.1 (hM z) cw ⟨mq_blind, mq_pre C h2 h3 h4 (Nat.le_trans h6 h5.1)⟩ rfl rfl h1.1 rfl (lv_room hst) d hf) (fun v M2 hp => by
      obtain ⟨rfl, hp⟩ := hp
      exact k M2 hp)
theorem xr_callI1N (C : mq_C p m c cc nL s args Ts own D tys) {y : MethodName} {bytes : ByteArray} {maxL index mc ms b : Nat} {ws0 : List Cond} {rm : Room} {host : String} {a0 : Value} {P : mq_M → Prop}
    (hM : mq_Met l y ws0 rm D tys [.ref b, a0] M (mq_pv P) mc ms) (cw : va_CN R s args own index y host bytes maxL none ws0 rm mc ms 1 ∧ y.name = "<init>" ∧ (Cond.instanceMethod y).before args s = true) (hst : (st.map fun v => v.category).sum ≤ 8) (hf : cells + mc ≤ R.cells ∧ slots + ms ≤ R.slots) (d : decode cc pc = .ok (.invokespecial index, 3))
    (k : ∀ (M2 : mq_M), P M2 → mq_X p l e R s m args below meth c Q nL D z H0 (cells + mc) (slots + ms) M2 (pc + 3) L st) : mq_X p l e R s m args below meth c Q nL D z H0 cells slots M pc L (a0 :: .ref b :: st) :=
  fun H locs la ws h1 h2 h3 h4 h5 h6 =>
    mq_call h1 h5 h6 (va_runIN (As := [a0]) (rest := st) C.1 (hM z) cw ⟨mq_blind, mq_pre C h2 h3 h4 (Nat.le_trans h6 h5.1)⟩ rfl rfl h1.1 rfl (lv_room hst) d hf) (fun v M2 hp => by
      obtain ⟨rfl, hp⟩ := hp
      exact k M2 hp)
theorem xr_callV1l (C : mq_C p m c cc nL s args Ts own D tys) {y : MethodName} {bytes : ByteArray} {maxL index mc ms b ci : Nat} {ret : Option FieldType} {ws0 : List Cond} {rm : Room} {Cn : String} {T : u_T} {N : Nat} {fs : List Value} {a0 : Value} {P : Int64 → mq_M → Prop}
    (hM : mq_Met l y ws0 rm D tys [.ref b, a0] M (mq_pl P) mc ms) (cw : CallW R s args own Cn index y bytes maxL ret ws0 rm mc ms 1) (hb : M b = some (.inr (ci, fs))) (hc : vwCl[ci]? = some (Cn, T, N)) (hst : (st.map fun v => v.category).sum ≤ 8) (hf : cells + mc ≤ R.cells ∧ slots + ms ≤ R.slots) (d : decode cc pc = .ok (.invokevirtual index, 3))
    (k : ∀ (r : Int64) (M2 : mq_M), P r M2 → mq_X p l e R s m args below meth c Q nL D z H0 (cells + mc) (slots + ms) M2 (pc + 3) L (.long r :: st)) : mq_X p l e R s m args below meth c Q nL D z H0 cells slots M pc L (a0 :: .ref b :: st) :=
  fun H locs la ws h1 h2 h3 h4 h5 h6 => by
    obtain ⟨q, hq⟩ := h4.at hb
    exact mq_call h1 h5 h6 (va_runV (As := [a0]) (rest := st) C.1 (hM z) cw ⟨mq_blind, va_recv C.2.1 h2 hc hq, mq_pre C h2 h3 h4 (Nat.le_trans h6 h5.1)⟩ rfl rfl h1.1 rfl (lv_room hst) d hf) (fun v M2 hp => by
      obtain ⟨r, rfl, hp⟩ := hp
      exact k r M2 hp)
theorem xr_callV1lN (C : mq_C p m c cc nL s args Ts own D tys) {y : MethodName} {bytes : ByteArray} {maxL index mc ms b ci : Nat} {ret : Option FieldType} {ws0 : List Cond} {rm : Room} {Cn host : String} {T : u_T} {N : Nat} {fs : List Value} {a0 : Value} {P : Int64 → mq_M → Prop}
    (hM : mq_Met l y ws0 rm D tys [.ref b, a0] M (mq_pl P) mc ms) (cw : va_CN R s args own index y host bytes maxL ret ws0 rm mc ms 1 ∧ (Cond.instanceMethod y).before args s = true ∧ (Cond.selects Cn y y).before args s = true) (hb : M b = some (.inr (ci, fs))) (hc : vwCl[ci]? = some (Cn, T, N)) (hst : (st.map fun v => v.category).sum ≤ 8) (hf : cells + mc ≤ R.cells ∧ slots + ms ≤ R.slots) (d : decode cc pc = .ok (.invokevirtual index, 3))
    (k : ∀ (r : Int64) (M2 : mq_M), P r M2 → mq_X p l e R s m args below meth c Q nL D z H0 (cells + mc) (slots + ms) M2 (pc + 3) L (.long r :: st)) : mq_X p l e R s m args below meth c Q nL D z H0 cells slots M pc L (a0 :: .ref b :: st) :=
  fun H locs la ws h1 h2 h3 h4 h5 h6 => by
    obtain ⟨q, hq⟩ := h4.at hb
    exact mq_call h1 h5 h6 (va_runVN (As := [a0]) (rest := st) C.1 (hM z) cw ⟨mq_blind, va_recv C.2.1 h2 hc hq, mq_pre C h2 h3 h4 (Nat.le_trans h6 h5.1)⟩ rfl rfl h1.1 rfl (lv_room hst) d hf) (fun v M2 hp => by
      obtain ⟨r, rfl, hp⟩ := hp
      exact k r M2 hp)
theorem xr_callS1l (C : mq_C p m c cc nL s args Ts own D tys) {y : MethodName} {bytes : ByteArray} {maxL index mc ms : Nat} {ret : Option FieldType} {ws0 : List Cond} {rm : Room} {a0 : Value} {P : Int64 → mq_M → Prop}
    (hM : mq_Met l y ws0 rm D tys [a0] M (mq_pl P) mc ms) (cw : CallB R s args own index y bytes maxL ret ws0 rm mc ms 1 ∧ (Cond.static y).before args s = true) (hst : (st.map fun v => v.category).sum ≤ 8) (hf : cells + mc ≤ R.cells ∧ slots + ms ≤ R.slots) (d : decode cc pc = .ok (.invokestatic index, 3))
    (k : ∀ (r : Int64) (M2 : mq_M), P r M2 → mq_X p l e R s m args below meth c Q nL D z H0 (cells + mc) (slots + ms) M2 (pc + 3) L (.long r :: st)) : mq_X p l e R s m args below meth c Q nL D z H0 cells slots M pc L (a0 :: st) :=
  fun H locs la ws h1 h2 h3 h4 h5 h6 =>
    mq_call h1 h5 h6 (va_runS (As := [a0]) (rest := st) C.1 (hM z) cw ⟨mq_blind, mq_pre C h2 h3 h4 (Nat.le_trans h6 h5.1)⟩ rfl rfl h1.1 rfl (lv_room hst) d hf) (fun v M2 hp => by
      obtain ⟨r, rfl, hp⟩ := hp
      exact k r M2 hp)
theorem xr_callS1lN (C : mq_C p m c cc nL s args Ts own D tys) {y : MethodName} {bytes : ByteArray} {maxL index mc ms : Nat} {ret : Option FieldType} {ws0 : List Cond} {rm : Room} {host : String} {a0 : Value} {P : Int64 → mq_M → Prop}
    (hM : mq_Met l y ws0 rm D tys [a0] M (mq_pl P) mc ms) (cw : va_CN R s args own index y host bytes maxL ret ws0 rm mc ms 1 ∧ (Cond.static y).before args s = true ∧ True) (hst : (st.map fun v => v.category).sum ≤ 8) (hf : cells + mc ≤ R.cells ∧ slots + ms ≤ R.slots) (d : decode cc pc = .ok (.invokestatic index, 3))
    (k : ∀ (r : Int64) (M2 : mq_M), P r M2 → mq_X p l e R s m args below meth c Q nL D z H0 (cells + mc) (slots + ms) M2 (pc + 3) L (.long r :: st)) : mq_X p l e R s m args below meth c Q nL D z H0 cells slots M pc L (a0 :: st) :=
  fun H locs la ws h1 h2 h3 h4 h5 h6 =>
    mq_call h1 h5 h6 (va_runSN (As := [a0]) (rest := st) C.1 (hM z) cw ⟨mq_blind, mq_pre C h2 h3 h4 (Nat.le_trans h6 h5.1)⟩ rfl rfl h1.1 rfl (lv_room hst) d hf) (fun v M2 hp => by
      obtain ⟨r, rfl, hp⟩ := hp
      exact k r M2 hp)
theorem xr_callV1r (C : mq_C p m c cc nL s args Ts own D tys) {y : MethodName} {bytes : ByteArray} {maxL index mc ms b ci : Nat} {ret : Option FieldType} {ws0 : List Cond} {rm : Room} {Cn : String} {T : u_T} {N : Nat} {fs : List Value} {a0 : Value} {P : Option Nat → mq_M → Prop}
    (hM : mq_Met l y ws0 rm D tys [.ref b, a0] M (mq_pr P) mc ms) (cw : CallW R s args own Cn index y bytes maxL ret ws0 rm mc ms 1) (hb : M b = some (.inr (ci, fs))) (hc : vwCl[ci]? = some (Cn, T, N)) (hst : (st.map fun v => v.category).sum ≤ 8) (hf : cells + mc ≤ R.cells ∧ slots + ms ≤ R.slots) (d : decode cc pc = .ok (.invokevirtual index, 3))
    (k : ∀ (r : Option Nat) (M2 : mq_M), P r M2 → mq_X p l e R s m args below meth c Q nL D z H0 (cells + mc) (slots + ms) M2 (pc + 3) L (va_rf r :: st)) : mq_X p l e R s m args below meth c Q nL D z H0 cells slots M pc L (a0 :: .ref b :: st) :=
  fun H locs la ws h1 h2 h3 h4 h5 h6 => by
    obtain ⟨q, hq⟩ := h4.at hb
    exact mq_call h1 h5 h6 (va_runV (As := [a0]) (rest := st) C.1 (hM z) cw ⟨mq_blind, va_recv C.2.1 h2 hc hq, mq_pre C h2 h3 h4 (Nat.le_trans h6 h5.1)⟩ rfl rfl h1.1 rfl (lv_room hst) d hf) (fun v M2 hp => by
      obtain ⟨r, rfl, hp⟩ := hp
      exact k r M2 hp)
theorem xr_callV1rN (C : mq_C p m c cc nL s args Ts own D tys) {y : MethodName} {bytes : ByteArray} {maxL index mc ms b ci : Nat} {ret : Option FieldType} {ws0 : List Cond} {rm : Room} {Cn host : String} {T : u_T} {N : Nat} {fs : List Value} {a0 : Value} {P : Option Nat → mq_M → Prop}
    (hM : mq_Met l y ws0 rm D tys [.ref b, a0] M (mq_pr P) mc ms) (cw : va_CN R s args own index y host bytes maxL ret ws0 rm mc ms 1 ∧ (Cond.instanceMethod y).before args s = true ∧ (Cond.selects Cn y y).before args s = true) (hb : M b = some (.inr (ci, fs))) (hc : vwCl[ci]? = some (Cn, T, N)) (hst : (st.map fun v => v.category).sum ≤ 8) (hf : cells + mc ≤ R.cells ∧ slots + ms ≤ R.slots) (d : decode cc pc = .ok (.invokevirtual index, 3))
    (k : ∀ (r : Option Nat) (M2 : mq_M), P r M2 → mq_X p l e R s m args below meth c Q nL D z H0 (cells + mc) (slots + ms) M2 (pc + 3) L (va_rf r :: st)) : mq_X p l e R s m args below meth c Q nL D z H0 cells slots M pc L (a0 :: .ref b :: st) :=
  fun H locs la ws h1 h2 h3 h4 h5 h6 => by
    obtain ⟨q, hq⟩ := h4.at hb
    exact mq_call h1 h5 h6 (va_runVN (As := [a0]) (rest := st) C.1 (hM z) cw ⟨mq_blind, va_recv C.2.1 h2 hc hq, mq_pre C h2 h3 h4 (Nat.le_trans h6 h5.1)⟩ rfl rfl h1.1 rfl (lv_room hst) d hf) (fun v M2 hp => by
      obtain ⟨r, rfl, hp⟩ := hp
      exact k r M2 hp)
theorem xr_callS1r (C : mq_C p m c cc nL s args Ts own D tys) {y : MethodName} {bytes : ByteArray} {maxL index mc ms : Nat} {ret : Option FieldType} {ws0 : List Cond} {rm : Room} {a0 : Value} {P : Option Nat → mq_M → Prop}
    (hM : mq_Met l y ws0 rm D tys [a0] M (mq_pr P) mc ms) (cw : CallB R s args own index y bytes maxL ret ws0 rm mc ms 1 ∧ (Cond.static y).before args s = true) (hst : (st.map fun v => v.category).sum ≤ 8) (hf : cells + mc ≤ R.cells ∧ slots + ms ≤ R.slots) (d : decode cc pc = .ok (.invokestatic index, 3))
    (k : ∀ (r : Option Nat) (M2 : mq_M), P r M2 → mq_X p l e R s m args below meth c Q nL D z H0 (cells + mc) (slots + ms) M2 (pc + 3) L (va_rf r :: st)) : mq_X p l e R s m args below meth c Q nL D z H0 cells slots M pc L (a0 :: st) :=
  fun H locs la ws h1 h2 h3 h4 h5 h6 =>
    mq_call h1 h5 h6 (va_runS (As := [a0]) (rest := st) C.1 (hM z) cw ⟨mq_blind, mq_pre C h2 h3 h4 (Nat.le_trans h6 h5.1)⟩ rfl rfl h1.1 rfl (lv_room hst) d hf) (fun v M2 hp => by
      obtain ⟨r, rfl, hp⟩ := hp
      exact k r M2 hp)
theorem xr_callS1rN (C : mq_C p m c cc nL s args Ts own D tys) {y : MethodName} {bytes : ByteArray} {maxL index mc ms : Nat} {ret : Option FieldType} {ws0 : List Cond} {rm : Room} {host : String} {a0 : Value} {P : Option Nat → mq_M → Prop}
    (hM : mq_Met l y ws0 rm D tys [a0] M (mq_pr P) mc ms) (cw : va_CN R s args own index y host bytes maxL ret ws0 rm mc ms 1 ∧ (Cond.static y).before args s = true ∧ True) (hst : (st.map fun v => v.category).sum ≤ 8) (hf : cells + mc ≤ R.cells ∧ slots + ms ≤ R.slots) (d : decode cc pc = .ok (.invokestatic index, 3))
    (k : ∀ (r : Option Nat) (M2 : mq_M), P r M2 → mq_X p l e R s m args below meth c Q nL D z H0 (cells + mc) (slots + ms) M2 (pc + 3) L (va_rf r :: st)) : mq_X p l e R s m args below meth c Q nL D z H0 cells slots M pc L (a0 :: st) :=
  fun H locs la ws h1 h2 h3 h4 h5 h6 =>
    mq_call h1 h5 h6 (va_runSN (As := [a0]) (rest := st) C.1 (hM z) cw ⟨mq_blind, mq_pre C h2 h3 h4 (Nat.le_trans h6 h5.1)⟩ rfl rfl h1.1 rfl (lv_room hst) d hf) (fun v M2 hp => by
      obtain ⟨r, rfl, hp⟩ := hp
      exact k r M2 hp)
theorem xr_callV2i (C : mq_C p m c cc nL s args Ts own D tys) {y : MethodName} {bytes : ByteArray} {maxL index mc ms b ci : Nat} {ret : Option FieldType} {ws0 : List Cond} {rm : Room} {Cn : String} {T : u_T} {N : Nat} {fs : List Value} {a0 a1 : Value} {P : Int → mq_M → Prop}
    (hM : mq_Met l y ws0 rm D tys [.ref b, a0, a1] M (mq_pi P) mc ms) (cw : CallW R s args own Cn index y bytes maxL ret ws0 rm mc ms 2) (hb : M b = some (.inr (ci, fs))) (hc : vwCl[ci]? = some (Cn, T, N)) (hst : (st.map fun v => v.category).sum ≤ 8) (hf : cells + mc ≤ R.cells ∧ slots + ms ≤ R.slots) (d : decode cc pc = .ok (.invokevirtual index, 3))
    (k : ∀ (r : Int) (M2 : mq_M), P r M2 → mq_X p l e R s m args below meth c Q nL D z H0 (cells + mc) (slots + ms) M2 (pc + 3) L (.int (zI r) :: st)) : mq_X p l e R s m args below meth c Q nL D z H0 cells slots M pc L (a1 :: a0 :: .ref b :: st) :=
  fun H locs la ws h1 h2 h3 h4 h5 h6 => by
    obtain ⟨q, hq⟩ := h4.at hb
    exact mq_call h1 h5 h6 (va_runV (As := [a0, a1]) (rest := st) C.1 (hM z) cw ⟨mq_blind, va_recv C.2.1 h2 hc hq, mq_pre C h2 h3 h4 (Nat.le_trans h6 h5.1)⟩ rfl rfl h1.1 rfl (lv_room hst) d hf) (fun v M2 hp => by
      obtain ⟨r, rfl, hp⟩ := hp
      exact k r M2 hp)
theorem xr_callV2iN (C : mq_C p m c cc nL s args Ts own D tys) {y : MethodName} {bytes : ByteArray} {maxL index mc ms b ci : Nat} {ret : Option FieldType} {ws0 : List Cond} {rm : Room} {Cn host : String} {T : u_T} {N : Nat} {fs : List Value} {a0 a1 : Value} {P : Int → mq_M → Prop}
    (hM : mq_Met l y ws0 rm D tys [.ref b, a0, a1] M (mq_pi P) mc ms) (cw : va_CN R s args own index y host bytes maxL ret ws0 rm mc ms 2 ∧ (Cond.instanceMethod y).before args s = true ∧ (Cond.selects Cn y y).before args s = true) (hb : M b = some (.inr (ci, fs))) (hc : vwCl[ci]? = some (Cn, T, N)) (hst : (st.map fun v => v.category).sum ≤ 8) (hf : cells + mc ≤ R.cells ∧ slots + ms ≤ R.slots) (d : decode cc pc = .ok (.invokevirtual index, 3))
    (k : ∀ (r : Int) (M2 : mq_M), P r M2 → mq_X p l e R s m args below meth c Q nL D z H0 (cells + mc) (slots + ms) M2 (pc + 3) L (.int (zI r) :: st)) : mq_X p l e R s m args below meth c Q nL D z H0 cells slots M pc L (a1 :: a0 :: .ref b :: st) :=
  fun H locs la ws h1 h2 h3 h4 h5 h6 => by
    obtain ⟨q, hq⟩ := h4.at hb
    exact mq_call h1 h5 h6 (va_runVN (As := [a0, a1]) (rest := st) C.1 (hM z) cw ⟨mq_blind, va_recv C.2.1 h2 hc hq, mq_pre C h2 h3 h4 (Nat.le_trans h6 h5.1)⟩ rfl rfl h1.1 rfl (lv_room hst) d hf) (fun v M2 hp => by
      obtain ⟨r, rfl, hp⟩ := hp
      exact k r M2 hp)
theorem xr_callS2i (C : mq_C p m c cc nL s args Ts own D tys) {y : MethodName} {bytes : ByteArray} {maxL index mc ms : Nat} {ret : Option FieldType} {ws0 : List Cond} {rm : Room} {a0 a1 : Value} {P : Int → mq_M → Prop}
    (hM : mq_Met l y ws0 rm D tys [a0, a1] M (mq_pi P) mc ms) (cw : CallB R s args own index y bytes maxL ret ws0 rm mc ms 2 ∧ (Cond.static y).before args s = true) (hst : (st.map fun v => v.category).sum ≤ 8) (hf : cells + mc ≤ R.cells ∧ slots + ms ≤ R.slots) (d : decode cc pc = .ok (.invokestatic index, 3))
    (k : ∀ (r : Int) (M2 : mq_M), P r M2 → mq_X p l e R s m args below meth c Q nL D z H0 (cells + mc) (slots + ms) M2 (pc + 3) L (.int (zI r) :: st)) : mq_X p l e R s m args below meth c Q nL D z H0 cells slots M pc L (a1 :: a0 :: st) :=
  fun H locs la ws h1 h2 h3 h4 h5 h6 =>
    mq_call h1 h5 h6 (va_runS (As := [a0, a1]) (rest := st) C.1 (hM z) cw ⟨mq_blind, mq_pre C h2 h3 h4 (Nat.le_trans h6 h5.1)⟩ rfl rfl h1.1 rfl (lv_room hst) d hf) (fun v M2 hp => by
      obtain ⟨r, rfl, hp⟩ := hp
      exact k r M2 hp)
theorem xr_callS2iN (C : mq_C p m c cc nL s args Ts own D tys) {y : MethodName} {bytes : ByteArray} {maxL index mc ms : Nat} {ret : Option FieldType} {ws0 : List Cond} {rm : Room} {host : String} {a0 a1 : Value} {P : Int → mq_M → Prop}
    (hM : mq_Met l y ws0 rm D tys [a0, a1] M (mq_pi P) mc ms) (cw : va_CN R s args own index y host bytes maxL ret ws0 rm mc ms 2 ∧ (Cond.static y).before args s = true ∧ True) (hst : (st.map fun v => v.category).sum ≤ 8) (hf : cells + mc ≤ R.cells ∧ slots + ms ≤ R.slots) (d : decode cc pc = .ok (.invokestatic index, 3))
    (k : ∀ (r : Int) (M2 : mq_M), P r M2 → mq_X p l e R s m args below meth c Q nL D z H0 (cells + mc) (slots + ms) M2 (pc + 3) L (.int (zI r) :: st)) : mq_X p l e R s m args below meth c Q nL D z H0 cells slots M pc L (a1 :: a0 :: st) :=
  fun H locs la ws h1 h2 h3 h4 h5 h6 =>
    mq_call h1 h5 h6 (va_runSN (As := [a0, a1]) (rest := st) C.1 (hM z) cw ⟨mq_blind, mq_pre C h2 h3 h4 (Nat.le_trans h6 h5.1)⟩ rfl rfl h1.1 rfl (lv_room hst) d hf) (fun v M2 hp => by
      obtain ⟨r, rfl, hp⟩ := hp
      exact k r M2 hp)
theorem xr_callV2v (C : mq_C p m c cc nL s args Ts own D tys) {y : MethodName} {bytes : ByteArray} {maxL index mc ms b ci : Nat} {ret : Option FieldType} {ws0 : List Cond} {rm : Room} {Cn : String} {T : u_T} {N : Nat} {fs : List Value} {a0 a1 : Value} {P : mq_M → Prop}
    (hM : mq_Met l y ws0 rm D tys [.ref b, a0, a1] M (mq_pv P) mc ms) (cw : CallW R s args own Cn index y bytes maxL ret ws0 rm mc ms 2) (hb : M b = some (.inr (ci, fs))) (hc : vwCl[ci]? = some (Cn, T, N)) (hst : (st.map fun v => v.category).sum ≤ 8) (hf : cells + mc ≤ R.cells ∧ slots + ms ≤ R.slots) (d : decode cc pc = .ok (.invokevirtual index, 3))
    (k : ∀ (M2 : mq_M), P M2 → mq_X p l e R s m args below meth c Q nL D z H0 (cells + mc) (slots + ms) M2 (pc + 3) L st) : mq_X p l e R s m args below meth c Q nL D z H0 cells slots M pc L (a1 :: a0 :: .ref b :: st) :=
  fun H locs la ws h1 h2 h3 h4 h5 h6 => by
    obtain ⟨q, hq⟩ := h4.at hb
    exact mq_call h1 h5 h6 (va_runV (As := [a0, a1]) (rest := st) C.1 (hM z) cw ⟨mq_blind, va_recv C.2.1 h2 hc hq, mq_pre C h2 h3 h4 (Nat.le_trans h6 h5.1)⟩ rfl rfl h1.1 rfl (lv_room hst) d hf) (fun v M2 hp => by
      obtain ⟨rfl, hp⟩ := hp
      exact k M2 hp)
theorem xr_callV2vN (C : mq_C p m c cc nL s args Ts own D tys) {y : MethodName} {bytes : ByteArray} {maxL index mc ms b ci : Nat} {ret : Option FieldType} {ws0 : List Cond} {rm : Room} {Cn host : String} {T : u_T} {N : Nat} {fs : List Value} {a0 a1 : Value} {P : mq_M → Prop}
    (hM : mq_Met l y ws0 rm D tys [.ref b, a0, a1] M (mq_pv P) mc ms) (cw : va_CN R s args own index y host bytes maxL ret ws0 rm mc ms 2 ∧ (Cond.instanceMethod y).before args s = true ∧ (Cond.selects Cn y y).before args s = true) (hb : M b = some (.inr (ci, fs))) (hc : vwCl[ci]? = some (Cn, T, N)) (hst : (st.map fun v => v.category).sum ≤ 8) (hf : cells + mc ≤ R.cells ∧ slots + ms ≤ R.slots) (d : decode cc pc = .ok (.invokevirtual index, 3))
    (k : ∀ (M2 : mq_M), P M2 → mq_X p l e R s m args below meth c Q nL D z H0 (cells + mc) (slots + ms) M2 (pc + 3) L st) : mq_X p l e R s m args below meth c Q nL D z H0 cells slots M pc L (a1 :: a0 :: .ref b :: st) :=
  fun H locs la ws h1 h2 h3 h4 h5 h6 => by
    obtain ⟨q, hq⟩ := h4.at hb
    exact mq_call h1 h5 h6 (va_runVN (As := [a0, a1]) (rest := st) C.1 (hM z) cw ⟨mq_blind, va_recv C.2.1 h2 hc hq, mq_pre C h2 h3 h4 (Nat.le_trans h6 h5.1)⟩ rfl rfl h1.1 rfl (lv_room hst) d hf) (fun v M2 hp => by
      obtain ⟨rfl, hp⟩ := hp
      exact k M2 hp)
theorem xr_callS2v (C : mq_C p m c cc nL s args Ts own D tys) {y : MethodName} {bytes : ByteArray} {maxL index mc ms : Nat} {ret : Option FieldType} {ws0 : List Cond} {rm : Room} {a0 a1 : Value} {P : mq_M → Prop}
    (hM : mq_Met l y ws0 rm D tys [a0, a1] M (mq_pv P) mc ms) (cw : CallB R s args own index y bytes maxL ret ws0 rm mc ms 2 ∧ (Cond.static y).before args s = true) (hst : (st.map fun v => v.category).sum ≤ 8) (hf : cells + mc ≤ R.cells ∧ slots + ms ≤ R.slots) (d : decode cc pc = .ok (.invokestatic index, 3))
    (k : ∀ (M2 : mq_M), P M2 → mq_X p l e R s m args below meth c Q nL D z H0 (cells + mc) (slots + ms) M2 (pc + 3) L st) : mq_X p l e R s m args below meth c Q nL D z H0 cells slots M pc L (a1 :: a0 :: st) :=
  fun H locs la ws h1 h2 h3 h4 h5 h6 =>
    mq_call h1 h5 h6 (va_runS (As := [a0, a1]) (rest := st) C.1 (hM z) cw ⟨mq_blind, mq_pre C h2 h3 h4 (Nat.le_trans h6 h5.1)⟩ rfl rfl h1.1 rfl (lv_room hst) d hf) (fun v M2 hp => by
      obtain ⟨rfl, hp⟩ := hp
      exact k M2 hp)
theorem xr_callS2vN (C : mq_C p m c cc nL s args Ts own D tys) {y : MethodName} {bytes : ByteArray} {maxL index mc ms : Nat} {ret : Option FieldType} {ws0 : List Cond} {rm : Room} {host : String} {a0 a1 : Value} {P : mq_M → Prop}
    (hM : mq_Met l y ws0 rm D tys [a0, a1] M (mq_pv P) mc ms) (cw : va_CN R s args own index y host bytes maxL ret ws0 rm mc ms 2 ∧ (Cond.static y).before args s = true ∧ True) (hst : (st.map fun v => v.category).sum ≤ 8) (hf : cells + mc ≤ R.cells ∧ slots + ms ≤ R.slots) (d : decode cc pc = .ok (.invokestatic index, 3))
    (k : ∀ (M2 : mq_M), P M2 → mq_X p l e R s m args below meth c Q nL D z H0 (cells + mc) (slots + ms) M2 (pc + 3) L st) : mq_X p l e R s m args below meth c Q nL D z H0 cells slots M pc L (a1 :: a0 :: st) :=
  fun H locs la ws h1 h2 h3 h4 h5 h6 =>
    mq_call h1 h5 h6 (va_runSN (As := [a0, a1]) (rest := st) C.1 (hM z) cw ⟨mq_blind, mq_pre C h2 h3 h4 (Nat.le_trans h6 h5.1)⟩ rfl rfl h1.1 rfl (lv_room hst) d hf) (fun v M2 hp => by
      obtain ⟨rfl, hp⟩ := hp
      exact k M2 hp)
theorem xr_callI2 (C : mq_C p m c cc nL s args Ts own D tys) {y : MethodName} {bytes : ByteArray} {maxL index mc ms b : Nat} {ws0 : List Cond} {rm : Room} {a0 a1 : Value} {P : mq_M → Prop}
    (hM : mq_Met l y ws0 rm D tys [.ref b, a0, a1] M (mq_pv P) mc ms) (cw : CallB R s args own index y bytes maxL none ws0 rm mc ms 2 ∧ y.name = "<init>" ∧ (Cond.instanceMethod y).before args s = true) (hst : (st.map fun v => v.category).sum ≤ 8) (hf : cells + mc ≤ R.cells ∧ slots + ms ≤ R.slots) (d : decode cc pc = .ok (.invokespecial index, 3))
    (k : ∀ (M2 : mq_M), P M2 → mq_X p l e R s m args below meth c Q nL D z H0 (cells + mc) (slots + ms) M2 (pc + 3) L st) : mq_X p l e R s m args below meth c Q nL D z H0 cells slots M pc L (a1 :: a0 :: .ref b :: st) :=
  fun H locs la ws h1 h2 h3 h4 h5 h6 =>
    mq_call h1 h5 h6 (va_runI (As := [a0, a1]) (rest := st) C.1 (hM z) cw ⟨mq_blind, mq_pre C h2 h3 h4 (Nat.le_trans h6 h5.1)⟩ rfl rfl h1.1 rfl (lv_room hst) d hf) (fun v M2 hp => by
      obtain ⟨rfl, hp⟩ := hp
      exact k M2 hp)
theorem xr_callI2N (C : mq_C p m c cc nL s args Ts own D tys) {y : MethodName} {bytes : ByteArray} {maxL index mc ms b : Nat} {ws0 : List Cond} {rm : Room} {host : String} {a0 a1 : Value} {P : mq_M → Prop}
    (hM : mq_Met l y ws0 rm D tys [.ref b, a0, a1] M (mq_pv P) mc ms) (cw : va_CN R s args own index y host bytes maxL none ws0 rm mc ms 2 ∧ y.name = "<init>" ∧ (Cond.instanceMethod y).before args s = true) (hst : (st.map fun v => v.category).sum ≤ 8) (hf : cells + mc ≤ R.cells ∧ slots + ms ≤ R.slots) (d : decode cc pc = .ok (.invokespecial index, 3))
    (k : ∀ (M2 : mq_M), P M2 → mq_X p l e R s m args below meth c Q nL D z H0 (cells + mc) (slots + ms) M2 (pc + 3) L st) : mq_X p l e R s m args below meth c Q nL D z H0 cells slots M pc L (a1 :: a0 :: .ref b :: st) :=
  fun H locs la ws h1 h2 h3 h4 h5 h6 =>
    mq_call h1 h5 h6 (va_runIN (As := [a0, a1]) (rest := st) C.1 (hM z) cw ⟨mq_blind, mq_pre C h2 h3 h4 (Nat.le_trans h6 h5.1)⟩ rfl rfl h1.1 rfl (lv_room hst) d hf) (fun v M2 hp => by
      obtain ⟨rfl, hp⟩ := hp
      exact k M2 hp)
theorem xr_callV2l (C : mq_C p m c cc nL s args Ts own D tys) {y : MethodName} {bytes : ByteArray} {maxL index mc ms b ci : Nat} {ret : Option FieldType} {ws0 : List Cond} {rm : Room} {Cn : String} {T : u_T} {N : Nat} {fs : List Value} {a0 a1 : Value} {P : Int64 → mq_M → Prop}
    (hM : mq_Met l y ws0 rm D tys [.ref b, a0, a1] M (mq_pl P) mc ms) (cw : CallW R s args own Cn index y bytes maxL ret ws0 rm mc ms 2) (hb : M b = some (.inr (ci, fs))) (hc : vwCl[ci]? = some (Cn, T, N)) (hst : (st.map fun v => v.category).sum ≤ 8) (hf : cells + mc ≤ R.cells ∧ slots + ms ≤ R.slots) (d : decode cc pc = .ok (.invokevirtual index, 3))
    (k : ∀ (r : Int64) (M2 : mq_M), P r M2 → mq_X p l e R s m args below meth c Q nL D z H0 (cells + mc) (slots + ms) M2 (pc + 3) L (.long r :: st)) : mq_X p l e R s m args below meth c Q nL D z H0 cells slots M pc L (a1 :: a0 :: .ref b :: st) :=
  fun H locs la ws h1 h2 h3 h4 h5 h6 => by
    obtain ⟨q, hq⟩ := h4.at hb
    exact mq_call h1 h5 h6 (va_runV (As := [a0, a1]) (rest := st) C.1 (hM z) cw ⟨mq_blind, va_recv C.2.1 h2 hc hq, mq_pre C h2 h3 h4 (Nat.le_trans h6 h5.1)⟩ rfl rfl h1.1 rfl (lv_room hst) d hf) (fun v M2 hp => by
      obtain ⟨r, rfl, hp⟩ := hp
      exact k r M2 hp)
theorem xr_callV2lN (C : mq_C p m c cc nL s args Ts own D tys) {y : MethodName} {bytes : ByteArray} {maxL index mc ms b ci : Nat} {ret : Option FieldType} {ws0 : List Cond} {rm : Room} {Cn host : String} {T : u_T} {N : Nat} {fs : List Value} {a0 a1 : Value} {P : Int64 → mq_M → Prop}
    (hM : mq_Met l y ws0 rm D tys [.ref b, a0, a1] M (mq_pl P) mc ms) (cw : va_CN R s args own index y host bytes maxL ret ws0 rm mc ms 2 ∧ (Cond.instanceMethod y).before args s = true ∧ (Cond.selects Cn y y).before args s = true) (hb : M b = some (.inr (ci, fs))) (hc : vwCl[ci]? = some (Cn, T, N)) (hst : (st.map fun v => v.category).sum ≤ 8) (hf : cells + mc ≤ R.cells ∧ slots + ms ≤ R.slots) (d : decode cc pc = .ok (.invokevirtual index, 3))
    (k : ∀ (r : Int64) (M2 : mq_M), P r M2 → mq_X p l e R s m args below meth c Q nL D z H0 (cells + mc) (slots + ms) M2 (pc + 3) L (.long r :: st)) : mq_X p l e R s m args below meth c Q nL D z H0 cells slots M pc L (a1 :: a0 :: .ref b :: st) :=
  fun H locs la ws h1 h2 h3 h4 h5 h6 => by
    obtain ⟨q, hq⟩ := h4.at hb
    exact mq_call h1 h5 h6 (va_runVN (As := [a0, a1]) (rest := st) C.1 (hM z) cw ⟨mq_blind, va_recv C.2.1 h2 hc hq, mq_pre C h2 h3 h4 (Nat.le_trans h6 h5.1)⟩ rfl rfl h1.1 rfl (lv_room hst) d hf) (fun v M2 hp => by
      obtain ⟨r, rfl, hp⟩ := hp
      exact k r M2 hp)
theorem xr_callS2l (C : mq_C p m c cc nL s args Ts own D tys) {y : MethodName} {bytes : ByteArray} {maxL index mc ms : Nat} {ret : Option FieldType} {ws0 : List Cond} {rm : Room} {a0 a1 : Value} {P : Int64 → mq_M → Prop}
    (hM : mq_Met l y ws0 rm D tys [a0, a1] M (mq_pl P) mc ms) (cw : CallB R s args own index y bytes maxL ret ws0 rm mc ms 2 ∧ (Cond.static y).before args s = true) (hst : (st.map fun v => v.category).sum ≤ 8) (hf : cells + mc ≤ R.cells ∧ slots + ms ≤ R.slots) (d : decode cc pc = .ok (.invokestatic index, 3))
    (k : ∀ (r : Int64) (M2 : mq_M), P r M2 → mq_X p l e R s m args below meth c Q nL D z H0 (cells + mc) (slots + ms) M2 (pc + 3) L (.long r :: st)) : mq_X p l e R s m args below meth c Q nL D z H0 cells slots M pc L (a1 :: a0 :: st) :=
  fun H locs la ws h1 h2 h3 h4 h5 h6 =>
    mq_call h1 h5 h6 (va_runS (As := [a0, a1]) (rest := st) C.1 (hM z) cw ⟨mq_blind, mq_pre C h2 h3 h4 (Nat.le_trans h6 h5.1)⟩ rfl rfl h1.1 rfl (lv_room hst) d hf) (fun v M2 hp => by
      obtain ⟨r, rfl, hp⟩ := hp
      exact k r M2 hp)
theorem xr_callS2lN (C : mq_C p m c cc nL s args Ts own D tys) {y : MethodName} {bytes : ByteArray} {maxL index mc ms : Nat} {ret : Option FieldType} {ws0 : List Cond} {rm : Room} {host : String} {a0 a1 : Value} {P : Int64 → mq_M → Prop}
    (hM : mq_Met l y ws0 rm D tys [a0, a1] M (mq_pl P) mc ms) (cw : va_CN R s args own index y host bytes maxL ret ws0 rm mc ms 2 ∧ (Cond.static y).before args s = true ∧ True) (hst : (st.map fun v => v.category).sum ≤ 8) (hf : cells + mc ≤ R.cells ∧ slots + ms ≤ R.slots) (d : decode cc pc = .ok (.invokestatic index, 3))
    (k : ∀ (r : Int64) (M2 : mq_M), P r M2 → mq_X p l e R s m args below meth c Q nL D z H0 (cells + mc) (slots + ms) M2 (pc + 3) L (.long r :: st)) : mq_X p l e R s m args below meth c Q nL D z H0 cells slots M pc L (a1 :: a0 :: st) :=
  fun H locs la ws h1 h2 h3 h4 h5 h6 =>
    mq_call h1 h5 h6 (va_runSN (As := [a0, a1]) (rest := st) C.1 (hM z) cw ⟨mq_blind, mq_pre C h2 h3 h4 (Nat.le_trans h6 h5.1)⟩ rfl rfl h1.1 rfl (lv_room hst) d hf) (fun v M2 hp => by
      obtain ⟨r, rfl, hp⟩ := hp
      exact k r M2 hp)
theorem xr_callV2r (C : mq_C p m c cc nL s args Ts own D tys) {y : MethodName} {bytes : ByteArray} {maxL index mc ms b ci : Nat} {ret : Option FieldType} {ws0 : List Cond} {rm : Room} {Cn : String} {T : u_T} {N : Nat} {fs : List Value} {a0 a1 : Value} {P : Option Nat → mq_M → Prop}
    (hM : mq_Met l y ws0 rm D tys [.ref b, a0, a1] M (mq_pr P) mc ms) (cw : CallW R s args own Cn index y bytes maxL ret ws0 rm mc ms 2) (hb : M b = some (.inr (ci, fs))) (hc : vwCl[ci]? = some (Cn, T, N)) (hst : (st.map fun v => v.category).sum ≤ 8) (hf : cells + mc ≤ R.cells ∧ slots + ms ≤ R.slots) (d : decode cc pc = .ok (.invokevirtual index, 3))
    (k : ∀ (r : Option Nat) (M2 : mq_M), P r M2 → mq_X p l e R s m args below meth c Q nL D z H0 (cells + mc) (slots + ms) M2 (pc + 3) L (va_rf r :: st)) : mq_X p l e R s m args below meth c Q nL D z H0 cells slots M pc L (a1 :: a0 :: .ref b :: st) :=
  fun H locs la ws h1 h2 h3 h4 h5 h6 => by
    obtain ⟨q, hq⟩ := h4.at hb
    exact mq_call h1 h5 h6 (va_runV (As := [a0, a1]) (rest := st) C.1 (hM z) cw ⟨mq_blind, va_recv C.2.1 h2 hc hq, mq_pre C h2 h3 h4 (Nat.le_trans h6 h5.1)⟩ rfl rfl h1.1 rfl (lv_room hst) d hf) (fun v M2 hp => by
      obtain ⟨r, rfl, hp⟩ := hp
      exact k r M2 hp)
theorem xr_callV2rN (C : mq_C p m c cc nL s args Ts own D tys) {y : MethodName} {bytes : ByteArray} {maxL index mc ms b ci : Nat} {ret : Option FieldType} {ws0 : List Cond} {rm : Room} {Cn host : String} {T : u_T} {N : Nat} {fs : List Value} {a0 a1 : Value} {P : Option Nat → mq_M → Prop}
    (hM : mq_Met l y ws0 rm D tys [.ref b, a0, a1] M (mq_pr P) mc ms) (cw : va_CN R s args own index y host bytes maxL ret ws0 rm mc ms 2 ∧ (Cond.instanceMethod y).before args s = true ∧ (Cond.selects Cn y y).before args s = true) (hb : M b = some (.inr (ci, fs))) (hc : vwCl[ci]? = some (Cn, T, N)) (hst : (st.map fun v => v.category).sum ≤ 8) (hf : cells + mc ≤ R.cells ∧ slots + ms ≤ R.slots) (d : decode cc pc = .ok (.invokevirtual index, 3))
    (k : ∀ (r : Option Nat) (M2 : mq_M), P r M2 → mq_X p l e R s m args below meth c Q nL D z H0 (cells + mc) (slots + ms) M2 (pc + 3) L (va_rf r :: st)) : mq_X p l e R s m args below meth c Q nL D z H0 cells slots M pc L (a1 :: a0 :: .ref b :: st) :=
  fun H locs la ws h1 h2 h3 h4 h5 h6 => by
    obtain ⟨q, hq⟩ := h4.at hb
    exact mq_call h1 h5 h6 (va_runVN (As := [a0, a1]) (rest := st) C.1 (hM z) cw ⟨mq_blind, va_recv C.2.1 h2 hc hq, mq_pre C h2 h3 h4 (Nat.le_trans h6 h5.1)⟩ rfl rfl h1.1 rfl (lv_room hst) d hf) (fun v M2 hp => by
      obtain ⟨r, rfl, hp⟩ := hp
      exact k r M2 hp)
theorem xr_callS2r (C : mq_C p m c cc nL s args Ts own D tys) {y : MethodName} {bytes : ByteArray} {maxL index mc ms : Nat} {ret : Option FieldType} {ws0 : List Cond} {rm : Room} {a0 a1 : Value} {P : Option Nat → mq_M → Prop}
    (hM : mq_Met l y ws0 rm D tys [a0, a1] M (mq_pr P) mc ms) (cw : CallB R s args own index y bytes maxL ret ws0 rm mc ms 2 ∧ (Cond.static y).before args s = true) (hst : (st.map fun v => v.category).sum ≤ 8) (hf : cells + mc ≤ R.cells ∧ slots + ms ≤ R.slots) (d : decode cc pc = .ok (.invokestatic index, 3))
    (k : ∀ (r : Option Nat) (M2 : mq_M), P r M2 → mq_X p l e R s m args below meth c Q nL D z H0 (cells + mc) (slots + ms) M2 (pc + 3) L (va_rf r :: st)) : mq_X p l e R s m args below meth c Q nL D z H0 cells slots M pc L (a1 :: a0 :: st) :=
  fun H locs la ws h1 h2 h3 h4 h5 h6 =>
    mq_call h1 h5 h6 (va_runS (As := [a0, a1]) (rest := st) C.1 (hM z) cw ⟨mq_blind, mq_pre C h2 h3 h4 (Nat.le_trans h6 h5.1)⟩ rfl rfl h1.1 rfl (lv_room hst) d hf) (fun v M2 hp => by
      obtain ⟨r, rfl, hp⟩ := hp
      exact k r M2 hp)
theorem xr_callS2rN (C : mq_C p m c cc nL s args Ts own D tys) {y : MethodName} {bytes : ByteArray} {maxL index mc ms : Nat} {ret : Option FieldType} {ws0 : List Cond} {rm : Room} {host : String} {a0 a1 : Value} {P : Option Nat → mq_M → Prop}
    (hM : mq_Met l y ws0 rm D tys [a0, a1] M (mq_pr P) mc ms) (cw : va_CN R s args own index y host bytes maxL ret ws0 rm mc ms 2 ∧ (Cond.static y).before args s = true ∧ True) (hst : (st.map fun v => v.category).sum ≤ 8) (hf : cells + mc ≤ R.cells ∧ slots + ms ≤ R.slots) (d : decode cc pc = .ok (.invokestatic index, 3))
    (k : ∀ (r : Option Nat) (M2 : mq_M), P r M2 → mq_X p l e R s m args below meth c Q nL D z H0 (cells + mc) (slots + ms) M2 (pc + 3) L (va_rf r :: st)) : mq_X p l e R s m args below meth c Q nL D z H0 cells slots M pc L (a1 :: a0 :: st) :=
  fun H locs la ws h1 h2 h3 h4 h5 h6 =>
    mq_call h1 h5 h6 (va_runSN (As := [a0, a1]) (rest := st) C.1 (hM z) cw ⟨mq_blind, mq_pre C h2 h3 h4 (Nat.le_trans h6 h5.1)⟩ rfl rfl h1.1 rfl (lv_room hst) d hf) (fun v M2 hp => by
      obtain ⟨r, rfl, hp⟩ := hp
      exact k r M2 hp)
theorem xr_callV3i (C : mq_C p m c cc nL s args Ts own D tys) {y : MethodName} {bytes : ByteArray} {maxL index mc ms b ci : Nat} {ret : Option FieldType} {ws0 : List Cond} {rm : Room} {Cn : String} {T : u_T} {N : Nat} {fs : List Value} {a0 a1 a2 : Value} {P : Int → mq_M → Prop}
    (hM : mq_Met l y ws0 rm D tys [.ref b, a0, a1, a2] M (mq_pi P) mc ms) (cw : CallW R s args own Cn index y bytes maxL ret ws0 rm mc ms 3) (hb : M b = some (.inr (ci, fs))) (hc : vwCl[ci]? = some (Cn, T, N)) (hst : (st.map fun v => v.category).sum ≤ 8) (hf : cells + mc ≤ R.cells ∧ slots + ms ≤ R.slots) (d : decode cc pc = .ok (.invokevirtual index, 3))
    (k : ∀ (r : Int) (M2 : mq_M), P r M2 → mq_X p l e R s m args below meth c Q nL D z H0 (cells + mc) (slots + ms) M2 (pc + 3) L (.int (zI r) :: st)) : mq_X p l e R s m args below meth c Q nL D z H0 cells slots M pc L (a2 :: a1 :: a0 :: .ref b :: st) :=
  fun H locs la ws h1 h2 h3 h4 h5 h6 => by
    obtain ⟨q, hq⟩ := h4.at hb
    exact mq_call h1 h5 h6 (va_runV (As := [a0, a1, a2]) (rest := st) C.1 (hM z) cw ⟨mq_blind, va_recv C.2.1 h2 hc hq, mq_pre C h2 h3 h4 (Nat.le_trans h6 h5.1)⟩ rfl rfl h1.1 rfl (lv_room hst) d hf) (fun v M2 hp => by
      obtain ⟨r, rfl, hp⟩ := hp
      exact k r M2 hp)
theorem xr_callV3iN (C : mq_C p m c cc nL s args Ts own D tys) {y : MethodName} {bytes : ByteArray} {maxL index mc ms b ci : Nat} {ret : Option FieldType} {ws0 : List Cond} {rm : Room} {Cn host : String} {T : u_T} {N : Nat} {fs : List Value} {a0 a1 a2 : Value} {P : Int → mq_M → Prop}
    (hM : mq_Met l y ws0 rm D tys [.ref b, a0, a1, a2] M (mq_pi P) mc ms) (cw : va_CN R s args own index y host bytes maxL ret ws0 rm mc ms 3 ∧ (Cond.instanceMethod y).before args s = true ∧ (Cond.selects Cn y y).before args s = true) (hb : M b = some (.inr (ci, fs))) (hc : vwCl[ci]? = some (Cn, T, N)) (hst : (st.map fun v => v.category).sum ≤ 8) (hf : cells + mc ≤ R.cells ∧ slots + ms ≤ R.slots) (d : decode cc pc = .ok (.invokevirtual index, 3))
    (k : ∀ (r : Int) (M2 : mq_M), P r M2 → mq_X p l e R s m args below meth c Q nL D z H0 (cells + mc) (slots + ms) M2 (pc + 3) L (.int (zI r) :: st)) : mq_X p l e R s m args below meth c Q nL D z H0 cells slots M pc L (a2 :: a1 :: a0 :: .ref b :: st) :=
  fun H locs la ws h1 h2 h3 h4 h5 h6 => by
    obtain ⟨q, hq⟩ := h4.at hb
    exact mq_call h1 h5 h6 (va_runVN (As := [a0, a1, a2]) (rest := st) C.1 (hM z) cw ⟨mq_blind, va_recv C.2.1 h2 hc hq, mq_pre C h2 h3 h4 (Nat.le_trans h6 h5.1)⟩ rfl rfl h1.1 rfl (lv_room hst) d hf) (fun v M2 hp => by
      obtain ⟨r, rfl, hp⟩ := hp
      exact k r M2 hp)
theorem xr_callS3i (C : mq_C p m c cc nL s args Ts own D tys) {y : MethodName} {bytes : ByteArray} {maxL index mc ms : Nat} {ret : Option FieldType} {ws0 : List Cond} {rm : Room} {a0 a1 a2 : Value} {P : Int → mq_M → Prop}
    (hM : mq_Met l y ws0 rm D tys [a0, a1, a2] M (mq_pi P) mc ms) (cw : CallB R s args own index y bytes maxL ret ws0 rm mc ms 3 ∧ (Cond.static y).before args s = true) (hst : (st.map fun v => v.category).sum ≤ 8) (hf : cells + mc ≤ R.cells ∧ slots + ms ≤ R.slots) (d : decode cc pc = .ok (.invokestatic index, 3))
    (k : ∀ (r : Int) (M2 : mq_M), P r M2 → mq_X p l e R s m args below meth c Q nL D z H0 (cells + mc) (slots + ms) M2 (pc + 3) L (.int (zI r) :: st)) : mq_X p l e R s m args below meth c Q nL D z H0 cells slots M pc L (a2 :: a1 :: a0 :: st) :=
  fun H locs la ws h1 h2 h3 h4 h5 h6 =>
    mq_call h1 h5 h6 (va_runS (As := [a0, a1, a2]) (rest := st) C.1 (hM z) cw ⟨mq_blind, mq_pre C h2 h3 h4 (Nat.le_trans h6 h5.1)⟩ rfl rfl h1.1 rfl (lv_room hst) d hf) (fun v M2 hp => by
      obtain ⟨r, rfl, hp⟩ := hp
      exact k r M2 hp)
theorem xr_callS3iN (C : mq_C p m c cc nL s args Ts own D tys) {y : MethodName} {bytes : ByteArray} {maxL index mc ms : Nat} {ret : Option FieldType} {ws0 : List Cond} {rm : Room} {host : String} {a0 a1 a2 : Value} {P : Int → mq_M → Prop}
    (hM : mq_Met l y ws0 rm D tys [a0, a1, a2] M (mq_pi P) mc ms) (cw : va_CN R s args own index y host bytes maxL ret ws0 rm mc ms 3 ∧ (Cond.static y).before args s = true ∧ True) (hst : (st.map fun v => v.category).sum ≤ 8) (hf : cells + mc ≤ R.cells ∧ slots + ms ≤ R.slots) (d : decode cc pc = .ok (.invokestatic index, 3))
    (k : ∀ (r : Int) (M2 : mq_M), P r M2 → mq_X p l e R s m args below meth c Q nL D z H0 (cells + mc) (slots + ms) M2 (pc + 3) L (.int (zI r) :: st)) : mq_X p l e R s m args below meth c Q nL D z H0 cells slots M pc L (a2 :: a1 :: a0 :: st) :=
  fun H locs la ws h1 h2 h3 h4 h5 h6 =>
    mq_call h1 h5 h6 (va_runSN (As := [a0, a1, a2]) (rest := st) C.1 (hM z) cw ⟨mq_blind, mq_pre C h2 h3 h4 (Nat.le_trans h6 h5.1)⟩ rfl rfl h1.1 rfl (lv_room hst) d hf) (fun v M2 hp => by
      obtain ⟨r, rfl, hp⟩ := hp
      exact k r M2 hp)
theorem xr_callV3v (C : mq_C p m c cc nL s args Ts own D tys) {y : MethodName} {bytes : ByteArray} {maxL index mc ms b ci : Nat} {ret : Option FieldType} {ws0 : List Cond} {rm : Room} {Cn : String} {T : u_T} {N : Nat} {fs : List Value} {a0 a1 a2 : Value} {P : mq_M → Prop}
    (hM : mq_Met l y ws0 rm D tys [.ref b, a0, a1, a2] M (mq_pv P) mc ms) (cw : CallW R s args own Cn index y bytes maxL ret ws0 rm mc ms 3) (hb : M b = some (.inr (ci, fs))) (hc : vwCl[ci]? = some (Cn, T, N)) (hst : (st.map fun v => v.category).sum ≤ 8) (hf : cells + mc ≤ R.cells ∧ slots + ms ≤ R.slots) (d : decode cc pc = .ok (.invokevirtual index, 3))
    (k : ∀ (M2 : mq_M), P M2 → mq_X p l e R s m args below meth c Q nL D z H0 (cells + mc) (slots + ms) M2 (pc + 3) L st) : mq_X p l e R s m args below meth c Q nL D z H0 cells slots M pc L (a2 :: a1 :: a0 :: .ref b :: st) :=
  fun H locs la ws h1 h2 h3 h4 h5 h6 => by
    obtain ⟨q, hq⟩ := h4.at hb
    exact mq_call h1 h5 h6 (va_runV (As := [a0, a1, a2]) (rest := st) C.1 (hM z) cw ⟨mq_blind, va_recv C.2.1 h2 hc hq, mq_pre C h2 h3 h4 (Nat.le_trans h6 h5.1)⟩ rfl rfl h1.1 rfl (lv_room hst) d hf) (fun v M2 hp => by
      obtain ⟨rfl, hp⟩ := hp
      exact k M2 hp)
theorem xr_callV3vN (C : mq_C p m c cc nL s args Ts own D tys) {y : MethodName} {bytes : ByteArray} {maxL index mc ms b ci : Nat} {ret : Option FieldType} {ws0 : List Cond} {rm : Room} {Cn host : String} {T : u_T} {N : Nat} {fs : List Value} {a0 a1 a2 : Value} {P : mq_M → Prop}
    (hM : mq_Met l y ws0 rm D tys [.ref b, a0, a1, a2] M (mq_pv P) mc ms) (cw : va_CN R s args own index y host bytes maxL ret ws0 rm mc ms 3 ∧ (Cond.instanceMethod y).before args s = true ∧ (Cond.selects Cn y y).before args s = true) (hb : M b = some (.inr (ci, fs))) (hc : vwCl[ci]? = some (Cn, T, N)) (hst : (st.map fun v => v.category).sum ≤ 8) (hf : cells + mc ≤ R.cells ∧ slots + ms ≤ R.slots) (d : decode cc pc = .ok (.invokevirtual index, 3))
    (k : ∀ (M2 : mq_M), P M2 → mq_X p l e R s m args below meth c Q nL D z H0 (cells + mc) (slots + ms) M2 (pc + 3) L st) : mq_X p l e R s m args below meth c Q nL D z H0 cells slots M pc L (a2 :: a1 :: a0 :: .ref b :: st) :=
  fun H locs la ws h1 h2 h3 h4 h5 h6 => by
    obtain ⟨q, hq⟩ := h4.at hb
    exact mq_call h1 h5 h6 (va_runVN (As := [a0, a1, a2]) (rest := st) C.1 (hM z) cw ⟨mq_blind, va_recv C.2.1 h2 hc hq, mq_pre C h2 h3 h4 (Nat.le_trans h6 h5.1)⟩ rfl rfl h1.1 rfl (lv_room hst) d hf) (fun v M2 hp => by
      obtain ⟨rfl, hp⟩ := hp
      exact k M2 hp)
theorem xr_callS3v (C : mq_C p m c cc nL s args Ts own D tys) {y : MethodName} {bytes : ByteArray} {maxL index mc ms : Nat} {ret : Option FieldType} {ws0 : List Cond} {rm : Room} {a0 a1 a2 : Value} {P : mq_M → Prop}
    (hM : mq_Met l y ws0 rm D tys [a0, a1, a2] M (mq_pv P) mc ms) (cw : CallB R s args own index y bytes maxL ret ws0 rm mc ms 3 ∧ (Cond.static y).before args s = true) (hst : (st.map fun v => v.category).sum ≤ 8) (hf : cells + mc ≤ R.cells ∧ slots + ms ≤ R.slots) (d : decode cc pc = .ok (.invokestatic index, 3))
    (k : ∀ (M2 : mq_M), P M2 → mq_X p l e R s m args below meth c Q nL D z H0 (cells + mc) (slots + ms) M2 (pc + 3) L st) : mq_X p l e R s m args below meth c Q nL D z H0 cells slots M pc L (a2 :: a1 :: a0 :: st) :=
  fun H locs la ws h1 h2 h3 h4 h5 h6 =>
    mq_call h1 h5 h6 (va_runS (As := [a0, a1, a2]) (rest := st) C.1 (hM z) cw ⟨mq_blind, mq_pre C h2 h3 h4 (Nat.le_trans h6 h5.1)⟩ rfl rfl h1.1 rfl (lv_room hst) d hf) (fun v M2 hp => by
      obtain ⟨rfl, hp⟩ := hp
      exact k M2 hp)
theorem xr_callS3vN (C : mq_C p m c cc nL s args Ts own D tys) {y : MethodName} {bytes : ByteArray} {maxL index mc ms : Nat} {ret : Option FieldType} {ws0 : List Cond} {rm : Room} {host : String} {a0 a1 a2 : Value} {P : mq_M → Prop}
    (hM : mq_Met l y ws0 rm D tys [a0, a1, a2] M (mq_pv P) mc ms) (cw : va_CN R s args own index y host bytes maxL ret ws0 rm mc ms 3 ∧ (Cond.static y).before args s = true ∧ True) (hst : (st.map fun v => v.category).sum ≤ 8) (hf : cells + mc ≤ R.cells ∧ slots + ms ≤ R.slots) (d : decode cc pc = .ok (.invokestatic index, 3))
    (k : ∀ (M2 : mq_M), P M2 → mq_X p l e R s m args below meth c Q nL D z H0 (cells + mc) (slots + ms) M2 (pc + 3) L st) : mq_X p l e R s m args below meth c Q nL D z H0 cells slots M pc L (a2 :: a1 :: a0 :: st) :=
  fun H locs la ws h1 h2 h3 h4 h5 h6 =>
    mq_call h1 h5 h6 (va_runSN (As := [a0, a1, a2]) (rest := st) C.1 (hM z) cw ⟨mq_blind, mq_pre C h2 h3 h4 (Nat.le_trans h6 h5.1)⟩ rfl rfl h1.1 rfl (lv_room hst) d hf) (fun v M2 hp => by
      obtain ⟨rfl, hp⟩ := hp
      exact k M2 hp)
theorem xr_callI3 (C : mq_C p m c cc nL s args Ts own D tys) {y : MethodName} {bytes : ByteArray} {maxL index mc ms b : Nat} {ws0 : List Cond} {rm : Room} {a0 a1 a2 : Value} {P : mq_M → Prop}
    (hM : mq_Met l y ws0 rm D tys [.ref b, a0, a1, a2] M (mq_pv P) mc ms) (cw : CallB R s args own index y bytes maxL none ws0 rm mc ms 3 ∧ y.name = "<init>" ∧ (Cond.instanceMethod y).before args s = true) (hst : (st.map fun v => v.category).sum ≤ 8) (hf : cells + mc ≤ R.cells ∧ slots + ms ≤ R.slots) (d : decode cc pc = .ok (.invokespecial index, 3))
    (k : ∀ (M2 : mq_M), P M2 → mq_X p l e R s m args below meth c Q nL D z H0 (cells + mc) (slots + ms) M2 (pc + 3) L st) : mq_X p l e R s m args below meth c Q nL D z H0 cells slots M pc L (a2 :: a1 :: a0 :: .ref b :: st) :=
  fun H locs la ws h1 h2 h3 h4 h5 h6 =>
    mq_call h1 h5 h6 (va_runI (As := [a0, a1, a2]) (rest := st) C.1 (hM z) cw ⟨mq_blind, mq_pre C h2 h3 h4 (Nat.le_trans h6 h5.1)⟩ rfl rfl h1.1 rfl (lv_room hst) d hf) (fun v M2 hp => by
      obtain ⟨rfl, hp⟩ := hp
      exact k M2 hp)
theorem xr_callI3N (C : mq_C p m c cc nL s args Ts own D tys) {y : MethodName} {bytes : ByteArray} {maxL index mc ms b : Nat} {ws0 : List Cond} {rm : Room} {host : String} {a0 a1 a2 : Value} {P : mq_M → Prop}
    (hM : mq_Met l y ws0 rm D tys [.ref b, a0, a1, a2] M (mq_pv P) mc ms) (cw : va_CN R s args own index y host bytes maxL none ws0 rm mc ms 3 ∧ y.name = "<init>" ∧ (Cond.instanceMethod y).before args s = true) (hst : (st.map fun v => v.category).sum ≤ 8) (hf : cells + mc ≤ R.cells ∧ slots + ms ≤ R.slots) (d : decode cc pc = .ok (.invokespecial index, 3))
    (k : ∀ (M2 : mq_M), P M2 → mq_X p l e R s m args below meth c Q nL D z H0 (cells + mc) (slots + ms) M2 (pc + 3) L st) : mq_X p l e R s m args below meth c Q nL D z H0 cells slots M pc L (a2 :: a1 :: a0 :: .ref b :: st) :=
  fun H locs la ws h1 h2 h3 h4 h5 h6 =>
    mq_call h1 h5 h6 (va_runIN (As := [a0, a1, a2]) (rest := st) C.1 (hM z) cw ⟨mq_blind, mq_pre C h2 h3 h4 (Nat.le_trans h6 h5.1)⟩ rfl rfl h1.1 rfl (lv_room hst) d hf) (fun v M2 hp => by
      obtain ⟨rfl, hp⟩ := hp
      exact k M2 hp)
theorem xr_callV3l (C : mq_C p m c cc nL s args Ts own D tys) {y : MethodName} {bytes : ByteArray} {maxL index mc ms b ci : Nat} {ret : Option FieldType} {ws0 : List Cond} {rm : Room} {Cn : String} {T : u_T} {N : Nat} {fs : List Value} {a0 a1 a2 : Value} {P : Int64 → mq_M → Prop}
    (hM : mq_Met l y ws0 rm D tys [.ref b, a0, a1, a2] M (mq_pl P) mc ms) (cw : CallW R s args own Cn index y bytes maxL ret ws0 rm mc ms 3) (hb : M b = some (.inr (ci, fs))) (hc : vwCl[ci]? = some (Cn, T, N)) (hst : (st.map fun v => v.category).sum ≤ 8) (hf : cells + mc ≤ R.cells ∧ slots + ms ≤ R.slots) (d : decode cc pc = .ok (.invokevirtual index, 3))
    (k : ∀ (r : Int64) (M2 : mq_M), P r M2 → mq_X p l e R s m args below meth c Q nL D z H0 (cells + mc) (slots + ms) M2 (pc + 3) L (.long r :: st)) : mq_X p l e R s m args below meth c Q nL D z H0 cells slots M pc L (a2 :: a1 :: a0 :: .ref b :: st) :=
  fun H locs la ws h1 h2 h3 h4 h5 h6 => by
    obtain ⟨q, hq⟩ := h4.at hb
    exact mq_call h1 h5 h6 (va_runV (As := [a0, a1, a2]) (rest := st) C.1 (hM z) cw ⟨mq_blind, va_recv C.2.1 h2 hc hq, mq_pre C h2 h3 h4 (Nat.le_trans h6 h5.1)⟩ rfl rfl h1.1 rfl (lv_room hst) d hf) (fun v M2 hp => by
      obtain ⟨r, rfl, hp⟩ := hp
      exact k r M2 hp)
theorem xr_callV3lN (C : mq_C p m c cc nL s args Ts own D tys) {y : MethodName} {bytes : ByteArray} {maxL index mc ms b ci : Nat} {ret : Option FieldType} {ws0 : List Cond} {rm : Room} {Cn host : String} {T : u_T} {N : Nat} {fs : List Value} {a0 a1 a2 : Value} {P : Int64 → mq_M → Prop}
    (hM : mq_Met l y ws0 rm D tys [.ref b, a0, a1, a2] M (mq_pl P) mc ms) (cw : va_CN R s args own index y host bytes maxL ret ws0 rm mc ms 3 ∧ (Cond.instanceMethod y).before args s = true ∧ (Cond.selects Cn y y).before args s = true) (hb : M b = some (.inr (ci, fs))) (hc : vwCl[ci]? = some (Cn, T, N)) (hst : (st.map fun v => v.category).sum ≤ 8) (hf : cells + mc ≤ R.cells ∧ slots + ms ≤ R.slots) (d : decode cc pc = .ok (.invokevirtual index, 3))
    (k : ∀ (r : Int64) (M2 : mq_M), P r M2 → mq_X p l e R s m args below meth c Q nL D z H0 (cells + mc) (slots + ms) M2 (pc + 3) L (.long r :: st)) : mq_X p l e R s m args below meth c Q nL D z H0 cells slots M pc L (a2 :: a1 :: a0 :: .ref b :: st) :=
  fun H locs la ws h1 h2 h3 h4 h5 h6 => by
    obtain ⟨q, hq⟩ := h4.at hb
    exact mq_call h1 h5 h6 (va_runVN (As := [a0, a1, a2]) (rest := st) C.1 (hM z) cw ⟨mq_blind, va_recv C.2.1 h2 hc hq, mq_pre C h2 h3 h4 (Nat.le_trans h6 h5.1)⟩ rfl rfl h1.1 rfl (lv_room hst) d hf) (fun v M2 hp => by
      obtain ⟨r, rfl, hp⟩ := hp
      exact k r M2 hp)
theorem xr_callS3l (C : mq_C p m c cc nL s args Ts own D tys) {y : MethodName} {bytes : ByteArray} {maxL index mc ms : Nat} {ret : Option FieldType} {ws0 : List Cond} {rm : Room} {a0 a1 a2 : Value} {P : Int64 → mq_M → Prop}
    (hM : mq_Met l y ws0 rm D tys [a0, a1, a2] M (mq_pl P) mc ms) (cw : CallB R s args own index y bytes maxL ret ws0 rm mc ms 3 ∧ (Cond.static y).before args s = true) (hst : (st.map fun v => v.category).sum ≤ 8) (hf : cells + mc ≤ R.cells ∧ slots + ms ≤ R.slots) (d : decode cc pc = .ok (.invokestatic index, 3))
    (k : ∀ (r : Int64) (M2 : mq_M), P r M2 → mq_X p l e R s m args below meth c Q nL D z H0 (cells + mc) (slots + ms) M2 (pc + 3) L (.long r :: st)) : mq_X p l e R s m args below meth c Q nL D z H0 cells slots M pc L (a2 :: a1 :: a0 :: st) :=
  fun H locs la ws h1 h2 h3 h4 h5 h6 =>
    mq_call h1 h5 h6 (va_runS (As := [a0, a1, a2]) (rest := st) C.1 (hM z) cw ⟨mq_blind, mq_pre C h2 h3 h4 (Nat.le_trans h6 h5.1)⟩ rfl rfl h1.1 rfl (lv_room hst) d hf) (fun v M2 hp => by
      obtain ⟨r, rfl, hp⟩ := hp
      exact k r M2 hp)
theorem xr_callS3lN (C : mq_C p m c cc nL s args Ts own D tys) {y : MethodName} {bytes : ByteArray} {maxL index mc ms : Nat} {ret : Option FieldType} {ws0 : List Cond} {rm : Room} {host : String} {a0 a1 a2 : Value} {P : Int64 → mq_M → Prop}
    (hM : mq_Met l y ws0 rm D tys [a0, a1, a2] M (mq_pl P) mc ms) (cw : va_CN R s args own index y host bytes maxL ret ws0 rm mc ms 3 ∧ (Cond.static y).before args s = true ∧ True) (hst : (st.map fun v => v.category).sum ≤ 8) (hf : cells + mc ≤ R.cells ∧ slots + ms ≤ R.slots) (d : decode cc pc = .ok (.invokestatic index, 3))
    (k : ∀ (r : Int64) (M2 : mq_M), P r M2 → mq_X p l e R s m args below meth c Q nL D z H0 (cells + mc) (slots + ms) M2 (pc + 3) L (.long r :: st)) : mq_X p l e R s m args below meth c Q nL D z H0 cells slots M pc L (a2 :: a1 :: a0 :: st) :=
  fun H locs la ws h1 h2 h3 h4 h5 h6 =>
    mq_call h1 h5 h6 (va_runSN (As := [a0, a1, a2]) (rest := st) C.1 (hM z) cw ⟨mq_blind, mq_pre C h2 h3 h4 (Nat.le_trans h6 h5.1)⟩ rfl rfl h1.1 rfl (lv_room hst) d hf) (fun v M2 hp => by
      obtain ⟨r, rfl, hp⟩ := hp
      exact k r M2 hp)
theorem xr_callV3r (C : mq_C p m c cc nL s args Ts own D tys) {y : MethodName} {bytes : ByteArray} {maxL index mc ms b ci : Nat} {ret : Option FieldType} {ws0 : List Cond} {rm : Room} {Cn : String} {T : u_T} {N : Nat} {fs : List Value} {a0 a1 a2 : Value} {P : Option Nat → mq_M → Prop}
    (hM : mq_Met l y ws0 rm D tys [.ref b, a0, a1, a2] M (mq_pr P) mc ms) (cw : CallW R s args own Cn index y bytes maxL ret ws0 rm mc ms 3) (hb : M b = some (.inr (ci, fs))) (hc : vwCl[ci]? = some (Cn, T, N)) (hst : (st.map fun v => v.category).sum ≤ 8) (hf : cells + mc ≤ R.cells ∧ slots + ms ≤ R.slots) (d : decode cc pc = .ok (.invokevirtual index, 3))
    (k : ∀ (r : Option Nat) (M2 : mq_M), P r M2 → mq_X p l e R s m args below meth c Q nL D z H0 (cells + mc) (slots + ms) M2 (pc + 3) L (va_rf r :: st)) : mq_X p l e R s m args below meth c Q nL D z H0 cells slots M pc L (a2 :: a1 :: a0 :: .ref b :: st) :=
  fun H locs la ws h1 h2 h3 h4 h5 h6 => by
    obtain ⟨q, hq⟩ := h4.at hb
    exact mq_call h1 h5 h6 (va_runV (As := [a0, a1, a2]) (rest := st) C.1 (hM z) cw ⟨mq_blind, va_recv C.2.1 h2 hc hq, mq_pre C h2 h3 h4 (Nat.le_trans h6 h5.1)⟩ rfl rfl h1.1 rfl (lv_room hst) d hf) (fun v M2 hp => by
      obtain ⟨r, rfl, hp⟩ := hp
      exact k r M2 hp)
theorem xr_callV3rN (C : mq_C p m c cc nL s args Ts own D tys) {y : MethodName} {bytes : ByteArray} {maxL index mc ms b ci : Nat} {ret : Option FieldType} {ws0 : List Cond} {rm : Room} {Cn host : String} {T : u_T} {N : Nat} {fs : List Value} {a0 a1 a2 : Value} {P : Option Nat → mq_M → Prop}
    (hM : mq_Met l y ws0 rm D tys [.ref b, a0, a1, a2] M (mq_pr P) mc ms) (cw : va_CN R s args own index y host bytes maxL ret ws0 rm mc ms 3 ∧ (Cond.instanceMethod y).before args s = true ∧ (Cond.selects Cn y y).before args s = true) (hb : M b = some (.inr (ci, fs))) (hc : vwCl[ci]? = some (Cn, T, N)) (hst : (st.map fun v => v.category).sum ≤ 8) (hf : cells + mc ≤ R.cells ∧ slots + ms ≤ R.slots) (d : decode cc pc = .ok (.invokevirtual index, 3))
    (k : ∀ (r : Option Nat) (M2 : mq_M), P r M2 → mq_X p l e R s m args below meth c Q nL D z H0 (cells + mc) (slots + ms) M2 (pc + 3) L (va_rf r :: st)) : mq_X p l e R s m args below meth c Q nL D z H0 cells slots M pc L (a2 :: a1 :: a0 :: .ref b :: st) :=
  fun H locs la ws h1 h2 h3 h4 h5 h6 => by
    obtain ⟨q, hq⟩ := h4.at hb
    exact mq_call h1 h5 h6 (va_runVN (As := [a0, a1, a2]) (rest := st) C.1 (hM z) cw ⟨mq_blind, va_recv C.2.1 h2 hc hq, mq_pre C h2 h3 h4 (Nat.le_trans h6 h5.1)⟩ rfl rfl h1.1 rfl (lv_room hst) d hf) (fun v M2 hp => by
      obtain ⟨r, rfl, hp⟩ := hp
      exact k r M2 hp)
theorem xr_callS3r (C : mq_C p m c cc nL s args Ts own D tys) {y : MethodName} {bytes : ByteArray} {maxL index mc ms : Nat} {ret : Option FieldType} {ws0 : List Cond} {rm : Room} {a0 a1 a2 : Value} {P : Option Nat → mq_M → Prop}
    (hM : mq_Met l y ws0 rm D tys [a0, a1, a2] M (mq_pr P) mc ms) (cw : CallB R s args own index y bytes maxL ret ws0 rm mc ms 3 ∧ (Cond.static y).before args s = true) (hst : (st.map fun v => v.category).sum ≤ 8) (hf : cells + mc ≤ R.cells ∧ slots + ms ≤ R.slots) (d : decode cc pc = .ok (.invokestatic index, 3))
    (k : ∀ (r : Option Nat) (M2 : mq_M), P r M2 → mq_X p l e R s m args below meth c Q nL D z H0 (cells + mc) (slots + ms) M2 (pc + 3) L (va_rf r :: st)) : mq_X p l e R s m args below meth c Q nL D z H0 cells slots M pc L (a2 :: a1 :: a0 :: st) :=
  fun H locs la ws h1 h2 h3 h4 h5 h6 =>
    mq_call h1 h5 h6 (va_runS (As := [a0, a1, a2]) (rest := st) C.1 (hM z) cw ⟨mq_blind, mq_pre C h2 h3 h4 (Nat.le_trans h6 h5.1)⟩ rfl rfl h1.1 rfl (lv_room hst) d hf) (fun v M2 hp => by
      obtain ⟨r, rfl, hp⟩ := hp
      exact k r M2 hp)
theorem xr_callS3rN (C : mq_C p m c cc nL s args Ts own D tys) {y : MethodName} {bytes : ByteArray} {maxL index mc ms : Nat} {ret : Option FieldType} {ws0 : List Cond} {rm : Room} {host : String} {a0 a1 a2 : Value} {P : Option Nat → mq_M → Prop}
    (hM : mq_Met l y ws0 rm D tys [a0, a1, a2] M (mq_pr P) mc ms) (cw : va_CN R s args own index y host bytes maxL ret ws0 rm mc ms 3 ∧ (Cond.static y).before args s = true ∧ True) (hst : (st.map fun v => v.category).sum ≤ 8) (hf : cells + mc ≤ R.cells ∧ slots + ms ≤ R.slots) (d : decode cc pc = .ok (.invokestatic index, 3))
    (k : ∀ (r : Option Nat) (M2 : mq_M), P r M2 → mq_X p l e R s m args below meth c Q nL D z H0 (cells + mc) (slots + ms) M2 (pc + 3) L (va_rf r :: st)) : mq_X p l e R s m args below meth c Q nL D z H0 cells slots M pc L (a2 :: a1 :: a0 :: st) :=
  fun H locs la ws h1 h2 h3 h4 h5 h6 =>
    mq_call h1 h5 h6 (va_runSN (As := [a0, a1, a2]) (rest := st) C.1 (hM z) cw ⟨mq_blind, mq_pre C h2 h3 h4 (Nat.le_trans h6 h5.1)⟩ rfl rfl h1.1 rfl (lv_room hst) d hf) (fun v M2 hp => by
      obtain ⟨r, rfl, hp⟩ := hp
      exact k r M2 hp)
theorem xr_callV4i (C : mq_C p m c cc nL s args Ts own D tys) {y : MethodName} {bytes : ByteArray} {maxL index mc ms b ci : Nat} {ret : Option FieldType} {ws0 : List Cond} {rm : Room} {Cn : String} {T : u_T} {N : Nat} {fs : List Value} {a0 a1 a2 a3 : Value} {P : Int → mq_M → Prop}
    (hM : mq_Met l y ws0 rm D tys [.ref b, a0, a1, a2, a3] M (mq_pi P) mc ms) (cw : CallW R s args own Cn index y bytes maxL ret ws0 rm mc ms 4) (hb : M b = some (.inr (ci, fs))) (hc : vwCl[ci]? = some (Cn, T, N)) (hst : (st.map fun v => v.category).sum ≤ 8) (hf : cells + mc ≤ R.cells ∧ slots + ms ≤ R.slots) (d : decode cc pc = .ok (.invokevirtual index, 3))
    (k : ∀ (r : Int) (M2 : mq_M), P r M2 → mq_X p l e R s m args below meth c Q nL D z H0 (cells + mc) (slots + ms) M2 (pc + 3) L (.int (zI r) :: st)) : mq_X p l e R s m args below meth c Q nL D z H0 cells slots M pc L (a3 :: a2 :: a1 :: a0 :: .ref b :: st) :=
  fun H locs la ws h1 h2 h3 h4 h5 h6 => by
    obtain ⟨q, hq⟩ := h4.at hb
    exact mq_call h1 h5 h6 (va_runV (As := [a0, a1, a2, a3]) (rest := st) C.1 (hM z) cw ⟨mq_blind, va_recv C.2.1 h2 hc hq, mq_pre C h2 h3 h4 (Nat.le_trans h6 h5.1)⟩ rfl rfl h1.1 rfl (lv_room hst) d hf) (fun v M2 hp => by
      obtain ⟨r, rfl, hp⟩ := hp
      exact k r M2 hp)
theorem xr_callV4iN (C : mq_C p m c cc nL s args Ts own D tys) {y : MethodName} {bytes : ByteArray} {maxL index mc ms b ci : Nat} {ret : Option FieldType} {ws0 : List Cond} {rm : Room} {Cn host : String} {T : u_T} {N : Nat} {fs : List Value} {a0 a1 a2 a3 : Value} {P : Int → mq_M → Prop}
    (hM : mq_Met l y ws0 rm D tys [.ref b, a0, a1, a2, a3] M (mq_pi P) mc ms) (cw : va_CN R s args own index y host bytes maxL ret ws0 rm mc ms 4 ∧ (Cond.instanceMethod y).before args s = true ∧ (Cond.selects Cn y y).before args s = true) (hb : M b = some (.inr (ci, fs))) (hc : vwCl[ci]? = some (Cn, T, N)) (hst : (st.map fun v => v.category).sum ≤ 8) (hf : cells + mc ≤ R.cells ∧ slots + ms ≤ R.slots) (d : decode cc pc = .ok (.invokevirtual index, 3))
    (k : ∀ (r : Int) (M2 : mq_M), P r M2 → mq_X p l e R s m args below meth c Q nL D z H0 (cells + mc) (slots + ms) M2 (pc + 3) L (.int (zI r) :: st)) : mq_X p l e R s m args below meth c Q nL D z H0 cells slots M pc L (a3 :: a2 :: a1 :: a0 :: .ref b :: st) :=
  fun H locs la ws h1 h2 h3 h4 h5 h6 => by
    obtain ⟨q, hq⟩ := h4.at hb
    exact mq_call h1 h5 h6 (va_runVN (As := [a0, a1, a2, a3]) (rest := st) C.1 (hM z) cw ⟨mq_blind, va_recv C.2.1 h2 hc hq, mq_pre C h2 h3 h4 (Nat.le_trans h6 h5.1)⟩ rfl rfl h1.1 rfl (lv_room hst) d hf) (fun v M2 hp => by
      obtain ⟨r, rfl, hp⟩ := hp
      exact k r M2 hp)
theorem xr_callS4i (C : mq_C p m c cc nL s args Ts own D tys) {y : MethodName} {bytes : ByteArray} {maxL index mc ms : Nat} {ret : Option FieldType} {ws0 : List Cond} {rm : Room} {a0 a1 a2 a3 : Value} {P : Int → mq_M → Prop}
    (hM : mq_Met l y ws0 rm D tys [a0, a1, a2, a3] M (mq_pi P) mc ms) (cw : CallB R s args own index y bytes maxL ret ws0 rm mc ms 4 ∧ (Cond.static y).before args s = true) (hst : (st.map fun v => v.category).sum ≤ 8) (hf : cells + mc ≤ R.cells ∧ slots + ms ≤ R.slots) (d : decode cc pc = .ok (.invokestatic index, 3))
    (k : ∀ (r : Int) (M2 : mq_M), P r M2 → mq_X p l e R s m args below meth c Q nL D z H0 (cells + mc) (slots + ms) M2 (pc + 3) L (.int (zI r) :: st)) : mq_X p l e R s m args below meth c Q nL D z H0 cells slots M pc L (a3 :: a2 :: a1 :: a0 :: st) :=
  fun H locs la ws h1 h2 h3 h4 h5 h6 =>
    mq_call h1 h5 h6 (va_runS (As := [a0, a1, a2, a3]) (rest := st) C.1 (hM z) cw ⟨mq_blind, mq_pre C h2 h3 h4 (Nat.le_trans h6 h5.1)⟩ rfl rfl h1.1 rfl (lv_room hst) d hf) (fun v M2 hp => by
      obtain ⟨r, rfl, hp⟩ := hp
      exact k r M2 hp)
theorem xr_callS4iN (C : mq_C p m c cc nL s args Ts own D tys) {y : MethodName} {bytes : ByteArray} {maxL index mc ms : Nat} {ret : Option FieldType} {ws0 : List Cond} {rm : Room} {host : String} {a0 a1 a2 a3 : Value} {P : Int → mq_M → Prop}
    (hM : mq_Met l y ws0 rm D tys [a0, a1, a2, a3] M (mq_pi P) mc ms) (cw : va_CN R s args own index y host bytes maxL ret ws0 rm mc ms 4 ∧ (Cond.static y).before args s = true ∧ True) (hst : (st.map fun v => v.category).sum ≤ 8) (hf : cells + mc ≤ R.cells ∧ slots + ms ≤ R.slots) (d : decode cc pc = .ok (.invokestatic index, 3))
    (k : ∀ (r : Int) (M2 : mq_M), P r M2 → mq_X p l e R s m args below meth c Q nL D z H0 (cells + mc) (slots + ms) M2 (pc + 3) L (.int (zI r) :: st)) : mq_X p l e R s m args below meth c Q nL D z H0 cells slots M pc L (a3 :: a2 :: a1 :: a0 :: st) :=
  fun H locs la ws h1 h2 h3 h4 h5 h6 =>
    mq_call h1 h5 h6 (va_runSN (As := [a0, a1, a2, a3]) (rest := st) C.1 (hM z) cw ⟨mq_blind, mq_pre C h2 h3 h4 (Nat.le_trans h6 h5.1)⟩ rfl rfl h1.1 rfl (lv_room hst) d hf) (fun v M2 hp => by
      obtain ⟨r, rfl, hp⟩ := hp
      exact k r M2 hp)
theorem xr_callV4v (C : mq_C p m c cc nL s args Ts own D tys) {y : MethodName} {bytes : ByteArray} {maxL index mc ms b ci : Nat} {ret : Option FieldType} {ws0 : List Cond} {rm : Room} {Cn : String} {T : u_T} {N : Nat} {fs : List Value} {a0 a1 a2 a3 : Value} {P : mq_M → Prop}
    (hM : mq_Met l y ws0 rm D tys [.ref b, a0, a1, a2, a3] M (mq_pv P) mc ms) (cw : CallW R s args own Cn index y bytes maxL ret ws0 rm mc ms 4) (hb : M b = some (.inr (ci, fs))) (hc : vwCl[ci]? = some (Cn, T, N)) (hst : (st.map fun v => v.category).sum ≤ 8) (hf : cells + mc ≤ R.cells ∧ slots + ms ≤ R.slots) (d : decode cc pc = .ok (.invokevirtual index, 3))
    (k : ∀ (M2 : mq_M), P M2 → mq_X p l e R s m args below meth c Q nL D z H0 (cells + mc) (slots + ms) M2 (pc + 3) L st) : mq_X p l e R s m args below meth c Q nL D z H0 cells slots M pc L (a3 :: a2 :: a1 :: a0 :: .ref b :: st) :=
  fun H locs la ws h1 h2 h3 h4 h5 h6 => by
    obtain ⟨q, hq⟩ := h4.at hb
    exact mq_call h1 h5 h6 (va_runV (As := [a0, a1, a2, a3]) (rest := st) C.1 (hM z) cw ⟨mq_blind, va_recv C.2.1 h2 hc hq, mq_pre C h2 h3 h4 (Nat.le_trans h6 h5.1)⟩ rfl rfl h1.1 rfl (lv_room hst) d hf) (fun v M2 hp => by
      obtain ⟨rfl, hp⟩ := hp
      exact k M2 hp)
theorem xr_callV4vN (C : mq_C p m c cc nL s args Ts own D tys) {y : MethodName} {bytes : ByteArray} {maxL index mc ms b ci : Nat} {ret : Option FieldType} {ws0 : List Cond} {rm : Room} {Cn host : String} {T : u_T} {N : Nat} {fs : List Value} {a0 a1 a2 a3 : Value} {P : mq_M → Prop}
    (hM : mq_Met l y ws0 rm D tys [.ref b, a0, a1, a2, a3] M (mq_pv P) mc ms) (cw : va_CN R s args own index y host bytes maxL ret ws0 rm mc ms 4 ∧ (Cond.instanceMethod y).before args s = true ∧ (Cond.selects Cn y y).before args s = true) (hb : M b = some (.inr (ci, fs))) (hc : vwCl[ci]? = some (Cn, T, N)) (hst : (st.map fun v => v.category).sum ≤ 8) (hf : cells + mc ≤ R.cells ∧ slots + ms ≤ R.slots) (d : decode cc pc = .ok (.invokevirtual index, 3))
    (k : ∀ (M2 : mq_M), P M2 → mq_X p l e R s m args below meth c Q nL D z H0 (cells + mc) (slots + ms) M2 (pc + 3) L st) : mq_X p l e R s m args below meth c Q nL D z H0 cells slots M pc L (a3 :: a2 :: a1 :: a0 :: .ref b :: st) :=
  fun H locs la ws h1 h2 h3 h4 h5 h6 => by
    obtain ⟨q, hq⟩ := h4.at hb
    exact mq_call h1 h5 h6 (va_runVN (As := [a0, a1, a2, a3]) (rest := st) C.1 (hM z) cw ⟨mq_blind, va_recv C.2.1 h2 hc hq, mq_pre C h2 h3 h4 (Nat.le_trans h6 h5.1)⟩ rfl rfl h1.1 rfl (lv_room hst) d hf) (fun v M2 hp => by
      obtain ⟨rfl, hp⟩ := hp
      exact k M2 hp)
theorem xr_callS4v (C : mq_C p m c cc nL s args Ts own D tys) {y : MethodName} {bytes : ByteArray} {maxL index mc ms : Nat} {ret : Option FieldType} {ws0 : List Cond} {rm : Room} {a0 a1 a2 a3 : Value} {P : mq_M → Prop}
    (hM : mq_Met l y ws0 rm D tys [a0, a1, a2, a3] M (mq_pv P) mc ms) (cw : CallB R s args own index y bytes maxL ret ws0 rm mc ms 4 ∧ (Cond.static y).before args s = true) (hst : (st.map fun v => v.category).sum ≤ 8) (hf : cells + mc ≤ R.cells ∧ slots + ms ≤ R.slots) (d : decode cc pc = .ok (.invokestatic index, 3))
    (k : ∀ (M2 : mq_M), P M2 → mq_X p l e R s m args below meth c Q nL D z H0 (cells + mc) (slots + ms) M2 (pc + 3) L st) : mq_X p l e R s m args below meth c Q nL D z H0 cells slots M pc L (a3 :: a2 :: a1 :: a0 :: st) :=
  fun H locs la ws h1 h2 h3 h4 h5 h6 =>
    mq_call h1 h5 h6 (va_runS (As := [a0, a1, a2, a3]) (rest := st) C.1 (hM z) cw ⟨mq_blind, mq_pre C h2 h3 h4 (Nat.le_trans h6 h5.1)⟩ rfl rfl h1.1 rfl (lv_room hst) d hf) (fun v M2 hp => by
      obtain ⟨rfl, hp⟩ := hp
      exact k M2 hp)
theorem xr_callS4vN (C : mq_C p m c cc nL s args Ts own D tys) {y : MethodName} {bytes : ByteArray} {maxL index mc ms : Nat} {ret : Option FieldType} {ws0 : List Cond} {rm : Room} {host : String} {a0 a1 a2 a3 : Value} {P : mq_M → Prop}
    (hM : mq_Met l y ws0 rm D tys [a0, a1, a2, a3] M (mq_pv P) mc ms) (cw : va_CN R s args own index y host bytes maxL ret ws0 rm mc ms 4 ∧ (Cond.static y).before args s = true ∧ True) (hst : (st.map fun v => v.category).sum ≤ 8) (hf : cells + mc ≤ R.cells ∧ slots + ms ≤ R.slots) (d : decode cc pc = .ok (.invokestatic index, 3))
    (k : ∀ (M2 : mq_M), P M2 → mq_X p l e R s m args below meth c Q nL D z H0 (cells + mc) (slots + ms) M2 (pc + 3) L st) : mq_X p l e R s m args below meth c Q nL D z H0 cells slots M pc L (a3 :: a2 :: a1 :: a0 :: st) :=
  fun H locs la ws h1 h2 h3 h4 h5 h6 =>
    mq_call h1 h5 h6 (va_runSN (As := [a0, a1, a2, a3]) (rest := st) C.1 (hM z) cw ⟨mq_blind, mq_pre C h2 h3 h4 (Nat.le_trans h6 h5.1)⟩ rfl rfl h1.1 rfl (lv_room hst) d hf) (fun v M2 hp => by
      obtain ⟨rfl, hp⟩ := hp
      exact k M2 hp)
theorem xr_callI4 (C : mq_C p m c cc nL s args Ts own D tys) {y : MethodName} {bytes : ByteArray} {maxL index mc ms b : Nat} {ws0 : List Cond} {rm : Room} {a0 a1 a2 a3 : Value} {P : mq_M → Prop}
    (hM : mq_Met l y ws0 rm D tys [.ref b, a0, a1, a2, a3] M (mq_pv P) mc ms) (cw : CallB R s args own index y bytes maxL none ws0 rm mc ms 4 ∧ y.name = "<init>" ∧ (Cond.instanceMethod y).before args s = true) (hst : (st.map fun v => v.category).sum ≤ 8) (hf : cells + mc ≤ R.cells ∧ slots + ms ≤ R.slots) (d : decode cc pc = .ok (.invokespecial index, 3))
    (k : ∀ (M2 : mq_M), P M2 → mq_X p l e R s m args below meth c Q nL D z H0 (cells + mc) (slots + ms) M2 (pc + 3) L st) : mq_X p l e R s m args below meth c Q nL D z H0 cells slots M pc L (a3 :: a2 :: a1 :: a0 :: .ref b :: st) :=
  fun H locs la ws h1 h2 h3 h4 h5 h6 =>
    mq_call h1 h5 h6 (va_runI (As := [a0, a1, a2, a3]) (rest := st) C.1 (hM z) cw ⟨mq_blind, mq_pre C h2 h3 h4 (Nat.le_trans h6 h5.1)⟩ rfl rfl h1.1 rfl (lv_room hst) d hf) (fun v M2 hp => by
      obtain ⟨rfl, hp⟩ := hp
      exact k M2 hp)
theorem xr_callI4N (C : mq_C p m c cc nL s args Ts own D tys) {y : MethodName} {bytes : ByteArray} {maxL index mc ms b : Nat} {ws0 : List Cond} {rm : Room} {host : String} {a0 a1 a2 a3 : Value} {P : mq_M → Prop}
    (hM : mq_Met l y ws0 rm D tys [.ref b, a0, a1, a2, a3] M (mq_pv P) mc ms) (cw : va_CN R s args own index y host bytes maxL none ws0 rm mc ms 4 ∧ y.name = "<init>" ∧ (Cond.instanceMethod y).before args s = true) (hst : (st.map fun v => v.category).sum ≤ 8) (hf : cells + mc ≤ R.cells ∧ slots + ms ≤ R.slots) (d : decode cc pc = .ok (.invokespecial index, 3))
    (k : ∀ (M2 : mq_M), P M2 → mq_X p l e R s m args below meth c Q nL D z H0 (cells + mc) (slots + ms) M2 (pc + 3) L st) : mq_X p l e R s m args below meth c Q nL D z H0 cells slots M pc L (a3 :: a2 :: a1 :: a0 :: .ref b :: st) :=
  fun H locs la ws h1 h2 h3 h4 h5 h6 =>
    mq_call h1 h5 h6 (va_runIN (As := [a0, a1, a2, a3]) (rest := st) C.1 (hM z) cw ⟨mq_blind, mq_pre C h2 h3 h4 (Nat.le_trans h6 h5.1)⟩ rfl rfl h1.1 rfl (lv_room hst) d hf) (fun v M2 hp => by
      obtain ⟨rfl, hp⟩ := hp
      exact k M2 hp)
theorem xr_callV4l (C : mq_C p m c cc nL s args Ts own D tys) {y : MethodName} {bytes : ByteArray} {maxL index mc ms b ci : Nat} {ret : Option FieldType} {ws0 : List Cond} {rm : Room} {Cn : String} {T : u_T} {N : Nat} {fs : List Value} {a0 a1 a2 a3 : Value} {P : Int64 → mq_M → Prop}
    (hM : mq_Met l y ws0 rm D tys [.ref b, a0, a1, a2, a3] M (mq_pl P) mc ms) (cw : CallW R s args own Cn index y bytes maxL ret ws0 rm mc ms 4) (hb : M b = some (.inr (ci, fs))) (hc : vwCl[ci]? = some (Cn, T, N)) (hst : (st.map fun v => v.category).sum ≤ 8) (hf : cells + mc ≤ R.cells ∧ slots + ms ≤ R.slots) (d : decode cc pc = .ok (.invokevirtual index, 3))
    (k : ∀ (r : Int64) (M2 : mq_M), P r M2 → mq_X p l e R s m args below meth c Q nL D z H0 (cells + mc) (slots + ms) M2 (pc + 3) L (.long r :: st)) : mq_X p l e R s m args below meth c Q nL D z H0 cells slots M pc L (a3 :: a2 :: a1 :: a0 :: .ref b :: st) :=
  fun H locs la ws h1 h2 h3 h4 h5 h6 => by
    obtain ⟨q, hq⟩ := h4.at hb
    exact mq_call h1 h5 h6 (va_runV (As := [a0, a1, a2, a3]) (rest := st) C.1 (hM z) cw ⟨mq_blind, va_recv C.2.1 h2 hc hq, mq_pre C h2 h3 h4 (Nat.le_trans h6 h5.1)⟩ rfl rfl h1.1 rfl (lv_room hst) d hf) (fun v M2 hp => by
      obtain ⟨r, rfl, hp⟩ := hp
      exact k r M2 hp)
theorem xr_callV4lN (C : mq_C p m c cc nL s args Ts own D tys) {y : MethodName} {bytes : ByteArray} {maxL index mc ms b ci : Nat} {ret : Option FieldType} {ws0 : List Cond} {rm : Room} {Cn host : String} {T : u_T} {N : Nat} {fs : List Value} {a0 a1 a2 a3 : Value} {P : Int64 → mq_M → Prop}
    (hM : mq_Met l y ws0 rm D tys [.ref b, a0, a1, a2, a3] M (mq_pl P) mc ms) (cw : va_CN R s args own index y host bytes maxL ret ws0 rm mc ms 4 ∧ (Cond.instanceMethod y).before args s = true ∧ (Cond.selects Cn y y).before args s = true) (hb : M b = some (.inr (ci, fs))) (hc : vwCl[ci]? = some (Cn, T, N)) (hst : (st.map fun v => v.category).sum ≤ 8) (hf : cells + mc ≤ R.cells ∧ slots + ms ≤ R.slots) (d : decode cc pc = .ok (.invokevirtual index, 3))
    (k : ∀ (r : Int64) (M2 : mq_M), P r M2 → mq_X p l e R s m args below meth c Q nL D z H0 (cells + mc) (slots + ms) M2 (pc + 3) L (.long r :: st)) : mq_X p l e R s m args below meth c Q nL D z H0 cells slots M pc L (a3 :: a2 :: a1 :: a0 :: .ref b :: st) :=
  fun H locs la ws h1 h2 h3 h4 h5 h6 => by
    obtain ⟨q, hq⟩ := h4.at hb
    exact mq_call h1 h5 h6 (va_runVN (As := [a0, a1, a2, a3]) (rest := st) C.1 (hM z) cw ⟨mq_blind, va_recv C.2.1 h2 hc hq, mq_pre C h2 h3 h4 (Nat.le_trans h6 h5.1)⟩ rfl rfl h1.1 rfl (lv_room hst) d hf) (fun v M2 hp => by
      obtain ⟨r, rfl, hp⟩ := hp
      exact k r M2 hp)
theorem xr_callS4l (C : mq_C p m c cc nL s args Ts own D tys) {y : MethodName} {bytes : ByteArray} {maxL index mc ms : Nat} {ret : Option FieldType} {ws0 : List Cond} {rm : Room} {a0 a1 a2 a3 : Value} {P : Int64 → mq_M → Prop}
    (hM : mq_Met l y ws0 rm D tys [a0, a1, a2, a3] M (mq_pl P) mc ms) (cw : CallB R s args own index y bytes maxL ret ws0 rm mc ms 4 ∧ (Cond.static y).before args s = true) (hst : (st.map fun v => v.category).sum ≤ 8) (hf : cells + mc ≤ R.cells ∧ slots + ms ≤ R.slots) (d : decode cc pc = .ok (.invokestatic index, 3))
    (k : ∀ (r : Int64) (M2 : mq_M), P r M2 → mq_X p l e R s m args below meth c Q nL D z H0 (cells + mc) (slots + ms) M2 (pc + 3) L (.long r :: st)) : mq_X p l e R s m args below meth c Q nL D z H0 cells slots M pc L (a3 :: a2 :: a1 :: a0 :: st) :=
  fun H locs la ws h1 h2 h3 h4 h5 h6 =>
    mq_call h1 h5 h6 (va_runS (As := [a0, a1, a2, a3]) (rest := st) C.1 (hM z) cw ⟨mq_blind, mq_pre C h2 h3 h4 (Nat.le_trans h6 h5.1)⟩ rfl rfl h1.1 rfl (lv_room hst) d hf) (fun v M2 hp => by
      obtain ⟨r, rfl, hp⟩ := hp
      exact k r M2 hp)
theorem xr_callS4lN (C : mq_C p m c cc nL s args Ts own D tys) {y : MethodName} {bytes : ByteArray} {maxL index mc ms : Nat} {ret : Option FieldType} {ws0 : List Cond} {rm : Room} {host : String} {a0 a1 a2 a3 : Value} {P : Int64 → mq_M → Prop}
    (hM : mq_Met l y ws0 rm D tys [a0, a1, a2, a3] M (mq_pl P) mc ms) (cw : va_CN R s args own index y host bytes maxL ret ws0 rm mc ms 4 ∧ (Cond.static y).before args s = true ∧ True) (hst : (st.map fun v => v.category).sum ≤ 8) (hf : cells + mc ≤ R.cells ∧ slots + ms ≤ R.slots) (d : decode cc pc = .ok (.invokestatic index, 3))
    (k : ∀ (r : Int64) (M2 : mq_M), P r M2 → mq_X p l e R s m args below meth c Q nL D z H0 (cells + mc) (slots + ms) M2 (pc + 3) L (.long r :: st)) : mq_X p l e R s m args below meth c Q nL D z H0 cells slots M pc L (a3 :: a2 :: a1 :: a0 :: st) :=
  fun H locs la ws h1 h2 h3 h4 h5 h6 =>
    mq_call h1 h5 h6 (va_runSN (As := [a0, a1, a2, a3]) (rest := st) C.1 (hM z) cw ⟨mq_blind, mq_pre C h2 h3 h4 (Nat.le_trans h6 h5.1)⟩ rfl rfl h1.1 rfl (lv_room hst) d hf) (fun v M2 hp => by
      obtain ⟨r, rfl, hp⟩ := hp
      exact k r M2 hp)
theorem xr_callV4r (C : mq_C p m c cc nL s args Ts own D tys) {y : MethodName} {bytes : ByteArray} {maxL index mc ms b ci : Nat} {ret : Option FieldType} {ws0 : List Cond} {rm : Room} {Cn : String} {T : u_T} {N : Nat} {fs : List Value} {a0 a1 a2 a3 : Value} {P : Option Nat → mq_M → Prop}
    (hM : mq_Met l y ws0 rm D tys [.ref b, a0, a1, a2, a3] M (mq_pr P) mc ms) (cw : CallW R s args own Cn index y bytes maxL ret ws0 rm mc ms 4) (hb : M b = some (.inr (ci, fs))) (hc : vwCl[ci]? = some (Cn, T, N)) (hst : (st.map fun v => v.category).sum ≤ 8) (hf : cells + mc ≤ R.cells ∧ slots + ms ≤ R.slots) (d : decode cc pc = .ok (.invokevirtual index, 3))
    (k : ∀ (r : Option Nat) (M2 : mq_M), P r M2 → mq_X p l e R s m args below meth c Q nL D z H0 (cells + mc) (slots + ms) M2 (pc + 3) L (va_rf r :: st)) : mq_X p l e R s m args below meth c Q nL D z H0 cells slots M pc L (a3 :: a2 :: a1 :: a0 :: .ref b :: st) :=
  fun H locs la ws h1 h2 h3 h4 h5 h6 => by
    obtain ⟨q, hq⟩ := h4.at hb
    exact mq_call h1 h5 h6 (va_runV (As := [a0, a1, a2, a3]) (rest := st) C.1 (hM z) cw ⟨mq_blind, va_recv C.2.1 h2 hc hq, mq_pre C h2 h3 h4 (Nat.le_trans h6 h5.1)⟩ rfl rfl h1.1 rfl (lv_room hst) d hf) (fun v M2 hp => by
      obtain ⟨r, rfl, hp⟩ := hp
      exact k r M2 hp)
theorem xr_callV4rN (C : mq_C p m c cc nL s args Ts own D tys) {y : MethodName} {bytes : ByteArray} {maxL index mc ms b ci : Nat} {ret : Option FieldType} {ws0 : List Cond} {rm : Room} {Cn host : String} {T : u_T} {N : Nat} {fs : List Value} {a0 a1 a2 a3 : Value} {P : Option Nat → mq_M → Prop}
    (hM : mq_Met l y ws0 rm D tys [.ref b, a0, a1, a2, a3] M (mq_pr P) mc ms) (cw : va_CN R s args own index y host bytes maxL ret ws0 rm mc ms 4 ∧ (Cond.instanceMethod y).before args s = true ∧ (Cond.selects Cn y y).before args s = true) (hb : M b = some (.inr (ci, fs))) (hc : vwCl[ci]? = some (Cn, T, N)) (hst : (st.map fun v => v.category).sum ≤ 8) (hf : cells + mc ≤ R.cells ∧ slots + ms ≤ R.slots) (d : decode cc pc = .ok (.invokevirtual index, 3))
    (k : ∀ (r : Option Nat) (M2 : mq_M), P r M2 → mq_X p l e R s m args below meth c Q nL D z H0 (cells + mc) (slots + ms) M2 (pc + 3) L (va_rf r :: st)) : mq_X p l e R s m args below meth c Q nL D z H0 cells slots M pc L (a3 :: a2 :: a1 :: a0 :: .ref b :: st) :=
  fun H locs la ws h1 h2 h3 h4 h5 h6 => by
    obtain ⟨q, hq⟩ := h4.at hb
    exact mq_call h1 h5 h6 (va_runVN (As := [a0, a1, a2, a3]) (rest := st) C.1 (hM z) cw ⟨mq_blind, va_recv C.2.1 h2 hc hq, mq_pre C h2 h3 h4 (Nat.le_trans h6 h5.1)⟩ rfl rfl h1.1 rfl (lv_room hst) d hf) (fun v M2 hp => by
      obtain ⟨r, rfl, hp⟩ := hp
      exact k r M2 hp)
theorem xr_callS4r (C : mq_C p m c cc nL s args Ts own D tys) {y : MethodName} {bytes : ByteArray} {maxL index mc ms : Nat} {ret : Option FieldType} {ws0 : List Cond} {rm : Room} {a0 a1 a2 a3 : Value} {P : Option Nat → mq_M → Prop}
    (hM : mq_Met l y ws0 rm D tys [a0, a1, a2, a3] M (mq_pr P) mc ms) (cw : CallB R s args own index y bytes maxL ret ws0 rm mc ms 4 ∧ (Cond.static y).before args s = true) (hst : (st.map fun v => v.category).sum ≤ 8) (hf : cells + mc ≤ R.cells ∧ slots + ms ≤ R.slots) (d : decode cc pc = .ok (.invokestatic index, 3))
    (k : ∀ (r : Option Nat) (M2 : mq_M), P r M2 → mq_X p l e R s m args below meth c Q nL D z H0 (cells + mc) (slots + ms) M2 (pc + 3) L (va_rf r :: st)) : mq_X p l e R s m args below meth c Q nL D z H0 cells slots M pc L (a3 :: a2 :: a1 :: a0 :: st) :=
  fun H locs la ws h1 h2 h3 h4 h5 h6 =>
    mq_call h1 h5 h6 (va_runS (As := [a0, a1, a2, a3]) (rest := st) C.1 (hM z) cw ⟨mq_blind, mq_pre C h2 h3 h4 (Nat.le_trans h6 h5.1)⟩ rfl rfl h1.1 rfl (lv_room hst) d hf) (fun v M2 hp => by
      obtain ⟨r, rfl, hp⟩ := hp
      exact k r M2 hp)
theorem xr_callS4rN (C : mq_C p m c cc nL s args Ts own D tys) {y : MethodName} {bytes : ByteArray} {maxL index mc ms : Nat} {ret : Option FieldType} {ws0 : List Cond} {rm : Room} {host : String} {a0 a1 a2 a3 : Value} {P : Option Nat → mq_M → Prop}
    (hM : mq_Met l y ws0 rm D tys [a0, a1, a2, a3] M (mq_pr P) mc ms) (cw : va_CN R s args own index y host bytes maxL ret ws0 rm mc ms 4 ∧ (Cond.static y).before args s = true ∧ True) (hst : (st.map fun v => v.category).sum ≤ 8) (hf : cells + mc ≤ R.cells ∧ slots + ms ≤ R.slots) (d : decode cc pc = .ok (.invokestatic index, 3))
    (k : ∀ (r : Option Nat) (M2 : mq_M), P r M2 → mq_X p l e R s m args below meth c Q nL D z H0 (cells + mc) (slots + ms) M2 (pc + 3) L (va_rf r :: st)) : mq_X p l e R s m args below meth c Q nL D z H0 cells slots M pc L (a3 :: a2 :: a1 :: a0 :: st) :=
  fun H locs la ws h1 h2 h3 h4 h5 h6 =>
    mq_call h1 h5 h6 (va_runSN (As := [a0, a1, a2, a3]) (rest := st) C.1 (hM z) cw ⟨mq_blind, mq_pre C h2 h3 h4 (Nat.le_trans h6 h5.1)⟩ rfl rfl h1.1 rfl (lv_room hst) d hf) (fun v M2 hp => by
      obtain ⟨r, rfl, hp⟩ := hp
      exact k r M2 hp)
theorem xr_callV5i (C : mq_C p m c cc nL s args Ts own D tys) {y : MethodName} {bytes : ByteArray} {maxL index mc ms b ci : Nat} {ret : Option FieldType} {ws0 : List Cond} {rm : Room} {Cn : String} {T : u_T} {N : Nat} {fs : List Value} {a0 a1 a2 a3 a4 : Value} {P : Int → mq_M → Prop}
    (hM : mq_Met l y ws0 rm D tys [.ref b, a0, a1, a2, a3, a4] M (mq_pi P) mc ms) (cw : CallW R s args own Cn index y bytes maxL ret ws0 rm mc ms 5) (hb : M b = some (.inr (ci, fs))) (hc : vwCl[ci]? = some (Cn, T, N)) (hst : (st.map fun v => v.category).sum ≤ 8) (hf : cells + mc ≤ R.cells ∧ slots + ms ≤ R.slots) (d : decode cc pc = .ok (.invokevirtual index, 3))
    (k : ∀ (r : Int) (M2 : mq_M), P r M2 → mq_X p l e R s m args below meth c Q nL D z H0 (cells + mc) (slots + ms) M2 (pc + 3) L (.int (zI r) :: st)) : mq_X p l e R s m args below meth c Q nL D z H0 cells slots M pc L (a4 :: a3 :: a2 :: a1 :: a0 :: .ref b :: st) :=
  fun H locs la ws h1 h2 h3 h4 h5 h6 => by
    obtain ⟨q, hq⟩ := h4.at hb
    exact mq_call h1 h5 h6 (va_runV (As := [a0, a1, a2, a3, a4]) (rest := st) C.1 (hM z) cw ⟨mq_blind, va_recv C.2.1 h2 hc hq, mq_pre C h2 h3 h4 (Nat.le_trans h6 h5.1)⟩ rfl rfl h1.1 rfl (lv_room hst) d hf) (fun v M2 hp => by
      obtain ⟨r, rfl, hp⟩ := hp
      exact k r M2 hp)
theorem xr_callV5iN (C : mq_C p m c cc nL s args Ts own D tys) {y : MethodName} {bytes : ByteArray} {maxL index mc ms b ci : Nat} {ret : Option FieldType} {ws0 : List Cond} {rm : Room} {Cn host : String} {T : u_T} {N : Nat} {fs : List Value} {a0 a1 a2 a3 a4 : Value} {P : Int → mq_M → Prop}
    (hM : mq_Met l y ws0 rm D tys [.ref b, a0, a1, a2, a3, a4] M (mq_pi P) mc ms) (cw : va_CN R s args own index y host bytes maxL ret ws0 rm mc ms 5 ∧ (Cond.instanceMethod y).before args s = true ∧ (Cond.selects Cn y y).before args s = true) (hb : M b = some (.inr (ci, fs))) (hc : vwCl[ci]? = some (Cn, T, N)) (hst : (st.map fun v => v.category).sum ≤ 8) (hf : cells + mc ≤ R.cells ∧ slots + ms ≤ R.slots) (d : decode cc pc = .ok (.invokevirtual index, 3))
    (k : ∀ (r : Int) (M2 : mq_M), P r M2 → mq_X p l e R s m args below meth c Q nL D z H0 (cells + mc) (slots + ms) M2 (pc + 3) L (.int (zI r) :: st)) : mq_X p l e R s m args below meth c Q nL D z H0 cells slots M pc L (a4 :: a3 :: a2 :: a1 :: a0 :: .ref b :: st) :=
  fun H locs la ws h1 h2 h3 h4 h5 h6 => by
    obtain ⟨q, hq⟩ := h4.at hb
    exact mq_call h1 h5 h6 (va_runVN (As := [a0, a1, a2, a3, a4]) (rest := st) C.1 (hM z) cw ⟨mq_blind, va_recv C.2.1 h2 hc hq, mq_pre C h2 h3 h4 (Nat.le_trans h6 h5.1)⟩ rfl rfl h1.1 rfl (lv_room hst) d hf) (fun v M2 hp => by
      obtain ⟨r, rfl, hp⟩ := hp
      exact k r M2 hp)
theorem xr_callS5i (C : mq_C p m c cc nL s args Ts own D tys) {y : MethodName} {bytes : ByteArray} {maxL index mc ms : Nat} {ret : Option FieldType} {ws0 : List Cond} {rm : Room} {a0 a1 a2 a3 a4 : Value} {P : Int → mq_M → Prop}
    (hM : mq_Met l y ws0 rm D tys [a0, a1, a2, a3, a4] M (mq_pi P) mc ms) (cw : CallB R s args own index y bytes maxL ret ws0 rm mc ms 5 ∧ (Cond.static y).before args s = true) (hst : (st.map fun v => v.category).sum ≤ 8) (hf : cells + mc ≤ R.cells ∧ slots + ms ≤ R.slots) (d : decode cc pc = .ok (.invokestatic index, 3))
    (k : ∀ (r : Int) (M2 : mq_M), P r M2 → mq_X p l e R s m args below meth c Q nL D z H0 (cells + mc) (slots + ms) M2 (pc + 3) L (.int (zI r) :: st)) : mq_X p l e R s m args below meth c Q nL D z H0 cells slots M pc L (a4 :: a3 :: a2 :: a1 :: a0 :: st) :=
  fun H locs la ws h1 h2 h3 h4 h5 h6 =>
    mq_call h1 h5 h6 (va_runS (As := [a0, a1, a2, a3, a4]) (rest := st) C.1 (hM z) cw ⟨mq_blind, mq_pre C h2 h3 h4 (Nat.le_trans h6 h5.1)⟩ rfl rfl h1.1 rfl (lv_room hst) d hf) (fun v M2 hp => by
      obtain ⟨r, rfl, hp⟩ := hp
      exact k r M2 hp)
theorem xr_callS5iN (C : mq_C p m c cc nL s args Ts own D tys) {y : MethodName} {bytes : ByteArray} {maxL index mc ms : Nat} {ret : Option FieldType} {ws0 : List Cond} {rm : Room} {host : String} {a0 a1 a2 a3 a4 : Value} {P : Int → mq_M → Prop}
    (hM : mq_Met l y ws0 rm D tys [a0, a1, a2, a3, a4] M (mq_pi P) mc ms) (cw : va_CN R s args own index y host bytes maxL ret ws0 rm mc ms 5 ∧ (Cond.static y).before args s = true ∧ True) (hst : (st.map fun v => v.category).sum ≤ 8) (hf : cells + mc ≤ R.cells ∧ slots + ms ≤ R.slots) (d : decode cc pc = .ok (.invokestatic index, 3))
    (k : ∀ (r : Int) (M2 : mq_M), P r M2 → mq_X p l e R s m args below meth c Q nL D z H0 (cells + mc) (slots + ms) M2 (pc + 3) L (.int (zI r) :: st)) : mq_X p l e R s m args below meth c Q nL D z H0 cells slots M pc L (a4 :: a3 :: a2 :: a1 :: a0 :: st) :=
  fun H locs la ws h1 h2 h3 h4 h5 h6 =>
    mq_call h1 h5 h6 (va_runSN (As := [a0, a1, a2, a3, a4]) (rest := st) C.1 (hM z) cw ⟨mq_blind, mq_pre C h2 h3 h4 (Nat.le_trans h6 h5.1)⟩ rfl rfl h1.1 rfl (lv_room hst) d hf) (fun v M2 hp => by
      obtain ⟨r, rfl, hp⟩ := hp
      exact k r M2 hp)
theorem xr_callV5v (C : mq_C p m c cc nL s args Ts own D tys) {y : MethodName} {bytes : ByteArray} {maxL index mc ms b ci : Nat} {ret : Option FieldType} {ws0 : List Cond} {rm : Room} {Cn : String} {T : u_T} {N : Nat} {fs : List Value} {a0 a1 a2 a3 a4 : Value} {P : mq_M → Prop}
    (hM : mq_Met l y ws0 rm D tys [.ref b, a0, a1, a2, a3, a4] M (mq_pv P) mc ms) (cw : CallW R s args own Cn index y bytes maxL ret ws0 rm mc ms 5) (hb : M b = some (.inr (ci, fs))) (hc : vwCl[ci]? = some (Cn, T, N)) (hst : (st.map fun v => v.category).sum ≤ 8) (hf : cells + mc ≤ R.cells ∧ slots + ms ≤ R.slots) (d : decode cc pc = .ok (.invokevirtual index, 3))
    (k : ∀ (M2 : mq_M), P M2 → mq_X p l e R s m args below meth c Q nL D z H0 (cells + mc) (slots + ms) M2 (pc + 3) L st) : mq_X p l e R s m args below meth c Q nL D z H0 cells slots M pc L (a4 :: a3 :: a2 :: a1 :: a0 :: .ref b :: st) :=
  fun H locs la ws h1 h2 h3 h4 h5 h6 => by
    obtain ⟨q, hq⟩ := h4.at hb
    exact mq_call h1 h5 h6 (va_runV (As := [a0, a1, a2, a3, a4]) (rest := st) C.1 (hM z) cw ⟨mq_blind, va_recv C.2.1 h2 hc hq, mq_pre C h2 h3 h4 (Nat.le_trans h6 h5.1)⟩ rfl rfl h1.1 rfl (lv_room hst) d hf) (fun v M2 hp => by
      obtain ⟨rfl, hp⟩ := hp
      exact k M2 hp)
theorem xr_callV5vN (C : mq_C p m c cc nL s args Ts own D tys) {y : MethodName} {bytes : ByteArray} {maxL index mc ms b ci : Nat} {ret : Option FieldType} {ws0 : List Cond} {rm : Room} {Cn host : String} {T : u_T} {N : Nat} {fs : List Value} {a0 a1 a2 a3 a4 : Value} {P : mq_M → Prop}
    (hM : mq_Met l y ws0 rm D tys [.ref b, a0, a1, a2, a3, a4] M (mq_pv P) mc ms) (cw : va_CN R s args own index y host bytes maxL ret ws0 rm mc ms 5 ∧ (Cond.instanceMethod y).before args s = true ∧ (Cond.selects Cn y y).before args s = true) (hb : M b = some (.inr (ci, fs))) (hc : vwCl[ci]? = some (Cn, T, N)) (hst : (st.map fun v => v.category).sum ≤ 8) (hf : cells + mc ≤ R.cells ∧ slots + ms ≤ R.slots) (d : decode cc pc = .ok (.invokevirtual index, 3))
    (k : ∀ (M2 : mq_M), P M2 → mq_X p l e R s m args below meth c Q nL D z H0 (cells + mc) (slots + ms) M2 (pc + 3) L st) : mq_X p l e R s m args below meth c Q nL D z H0 cells slots M pc L (a4 :: a3 :: a2 :: a1 :: a0 :: .ref b :: st) :=
  fun H locs la ws h1 h2 h3 h4 h5 h6 => by
    obtain ⟨q, hq⟩ := h4.at hb
    exact mq_call h1 h5 h6 (va_runVN (As := [a0, a1, a2, a3, a4]) (rest := st) C.1 (hM z) cw ⟨mq_blind, va_recv C.2.1 h2 hc hq, mq_pre C h2 h3 h4 (Nat.le_trans h6 h5.1)⟩ rfl rfl h1.1 rfl (lv_room hst) d hf) (fun v M2 hp => by
      obtain ⟨rfl, hp⟩ := hp
      exact k M2 hp)
theorem xr_callS5v (C : mq_C p m c cc nL s args Ts own D tys) {y : MethodName} {bytes : ByteArray} {maxL index mc ms : Nat} {ret : Option FieldType} {ws0 : List Cond} {rm : Room} {a0 a1 a2 a3 a4 : Value} {P : mq_M → Prop}
    (hM : mq_Met l y ws0 rm D tys [a0, a1, a2, a3, a4] M (mq_pv P) mc ms) (cw : CallB R s args own index y bytes maxL ret ws0 rm mc ms 5 ∧ (Cond.static y).before args s = true) (hst : (st.map fun v => v.category).sum ≤ 8) (hf : cells + mc ≤ R.cells ∧ slots + ms ≤ R.slots) (d : decode cc pc = .ok (.invokestatic index, 3))
    (k : ∀ (M2 : mq_M), P M2 → mq_X p l e R s m args below meth c Q nL D z H0 (cells + mc) (slots + ms) M2 (pc + 3) L st) : mq_X p l e R s m args below meth c Q nL D z H0 cells slots M pc L (a4 :: a3 :: a2 :: a1 :: a0 :: st) :=
  fun H locs la ws h1 h2 h3 h4 h5 h6 =>
    mq_call h1 h5 h6 (va_runS (As := [a0, a1, a2, a3, a4]) (rest := st) C.1 (hM z) cw ⟨mq_blind, mq_pre C h2 h3 h4 (Nat.le_trans h6 h5.1)⟩ rfl rfl h1.1 rfl (lv_room hst) d hf) (fun v M2 hp => by
      obtain ⟨rfl, hp⟩ := hp
      exact k M2 hp)
theorem xr_callS5vN (C : mq_C p m c cc nL s args Ts own D tys) {y : MethodName} {bytes : ByteArray} {maxL index mc ms : Nat} {ret : Option FieldType} {ws0 : List Cond} {rm : Room} {host : String} {a0 a1 a2 a3 a4 : Value} {P : mq_M → Prop}
    (hM : mq_Met l y ws0 rm D tys [a0, a1, a2, a3, a4] M (mq_pv P) mc ms) (cw : va_CN R s args own index y host bytes maxL ret ws0 rm mc ms 5 ∧ (Cond.static y).before args s = true ∧ True) (hst : (st.map fun v => v.category).sum ≤ 8) (hf : cells + mc ≤ R.cells ∧ slots + ms ≤ R.slots) (d : decode cc pc = .ok (.invokestatic index, 3))
    (k : ∀ (M2 : mq_M), P M2 → mq_X p l e R s m args below meth c Q nL D z H0 (cells + mc) (slots + ms) M2 (pc + 3) L st) : mq_X p l e R s m args below meth c Q nL D z H0 cells slots M pc L (a4 :: a3 :: a2 :: a1 :: a0 :: st) :=
  fun H locs la ws h1 h2 h3 h4 h5 h6 =>
    mq_call h1 h5 h6 (va_runSN (As := [a0, a1, a2, a3, a4]) (rest := st) C.1 (hM z) cw ⟨mq_blind, mq_pre C h2 h3 h4 (Nat.le_trans h6 h5.1)⟩ rfl rfl h1.1 rfl (lv_room hst) d hf) (fun v M2 hp => by
      obtain ⟨rfl, hp⟩ := hp
      exact k M2 hp)
theorem xr_callI5 (C : mq_C p m c cc nL s args Ts own D tys) {y : MethodName} {bytes : ByteArray} {maxL index mc ms b : Nat} {ws0 : List Cond} {rm : Room} {a0 a1 a2 a3 a4 : Value} {P : mq_M → Prop}
    (hM : mq_Met l y ws0 rm D tys [.ref b, a0, a1, a2, a3, a4] M (mq_pv P) mc ms) (cw : CallB R s args own index y bytes maxL none ws0 rm mc ms 5 ∧ y.name = "<init>" ∧ (Cond.instanceMethod y).before args s = true) (hst : (st.map fun v => v.category).sum ≤ 8) (hf : cells + mc ≤ R.cells ∧ slots + ms ≤ R.slots) (d : decode cc pc = .ok (.invokespecial index, 3))
    (k : ∀ (M2 : mq_M), P M2 → mq_X p l e R s m args below meth c Q nL D z H0 (cells + mc) (slots + ms) M2 (pc + 3) L st) : mq_X p l e R s m args below meth c Q nL D z H0 cells slots M pc L (a4 :: a3 :: a2 :: a1 :: a0 :: .ref b :: st) :=
  fun H locs la ws h1 h2 h3 h4 h5 h6 =>
    mq_call h1 h5 h6 (va_runI (As := [a0, a1, a2, a3, a4]) (rest := st) C.1 (hM z) cw ⟨mq_blind, mq_pre C h2 h3 h4 (Nat.le_trans h6 h5.1)⟩ rfl rfl h1.1 rfl (lv_room hst) d hf) (fun v M2 hp => by
      obtain ⟨rfl, hp⟩ := hp
      exact k M2 hp)
theorem xr_callI5N (C : mq_C p m c cc nL s args Ts own D tys) {y : MethodName} {bytes : ByteArray} {maxL index mc ms b : Nat} {ws0 : List Cond} {rm : Room} {host : String} {a0 a1 a2 a3 a4 : Value} {P : mq_M → Prop}
    (hM : mq_Met l y ws0 rm D tys [.ref b, a0, a1, a2, a3, a4] M (mq_pv P) mc ms) (cw : va_CN R s args own index y host bytes maxL none ws0 rm mc ms 5 ∧ y.name = "<init>" ∧ (Cond.instanceMethod y).before args s = true) (hst : (st.map fun v => v.category).sum ≤ 8) (hf : cells + mc ≤ R.cells ∧ slots + ms ≤ R.slots) (d : decode cc pc = .ok (.invokespecial index, 3))
    (k : ∀ (M2 : mq_M), P M2 → mq_X p l e R s m args below meth c Q nL D z H0 (cells + mc) (slots + ms) M2 (pc + 3) L st) : mq_X p l e R s m args below meth c Q nL D z H0 cells slots M pc L (a4 :: a3 :: a2 :: a1 :: a0 :: .ref b :: st) :=
  fun H locs la ws h1 h2 h3 h4 h5 h6 =>
    mq_call h1 h5 h6 (va_runIN (As := [a0, a1, a2, a3, a4]) (rest := st) C.1 (hM z) cw ⟨mq_blind, mq_pre C h2 h3 h4 (Nat.le_trans h6 h5.1)⟩ rfl rfl h1.1 rfl (lv_room hst) d hf) (fun v M2 hp => by
      obtain ⟨rfl, hp⟩ := hp
      exact k M2 hp)
theorem xr_callV5l (C : mq_C p m c cc nL s args Ts own D tys) {y : MethodName} {bytes : ByteArray} {maxL index mc ms b ci : Nat} {ret : Option FieldType} {ws0 : List Cond} {rm : Room} {Cn : String} {T : u_T} {N : Nat} {fs : List Value} {a0 a1 a2 a3 a4 : Value} {P : Int64 → mq_M → Prop}
    (hM : mq_Met l y ws0 rm D tys [.ref b, a0, a1, a2, a3, a4] M (mq_pl P) mc ms) (cw : CallW R s args own Cn index y bytes maxL ret ws0 rm mc ms 5) (hb : M b = some (.inr (ci, fs))) (hc : vwCl[ci]? = some (Cn, T, N)) (hst : (st.map fun v => v.category).sum ≤ 8) (hf : cells + mc ≤ R.cells ∧ slots + ms ≤ R.slots) (d : decode cc pc = .ok (.invokevirtual index, 3))
    (k : ∀ (r : Int64) (M2 : mq_M), P r M2 → mq_X p l e R s m args below meth c Q nL D z H0 (cells + mc) (slots + ms) M2 (pc + 3) L (.long r :: st)) : mq_X p l e R s m args below meth c Q nL D z H0 cells slots M pc L (a4 :: a3 :: a2 :: a1 :: a0 :: .ref b :: st) :=
  fun H locs la ws h1 h2 h3 h4 h5 h6 => by
    obtain ⟨q, hq⟩ := h4.at hb
    exact mq_call h1 h5 h6 (va_runV (As := [a0, a1, a2, a3, a4]) (rest := st) C.1 (hM z) cw ⟨mq_blind, va_recv C.2.1 h2 hc hq, mq_pre C h2 h3 h4 (Nat.le_trans h6 h5.1)⟩ rfl rfl h1.1 rfl (lv_room hst) d hf) (fun v M2 hp => by
      obtain ⟨r, rfl, hp⟩ := hp
      exact k r M2 hp)
theorem xr_callV5lN (C : mq_C p m c cc nL s args Ts own D tys) {y : MethodName} {bytes : ByteArray} {maxL index mc ms b ci : Nat} {ret : Option FieldType} {ws0 : List Cond} {rm : Room} {Cn host : String} {T : u_T} {N : Nat} {fs : List Value} {a0 a1 a2 a3 a4 : Value} {P : Int64 → mq_M → Prop}
    (hM : mq_Met l y ws0 rm D tys [.ref b, a0, a1, a2, a3, a4] M (mq_pl P) mc ms) (cw : va_CN R s args own index y host bytes maxL ret ws0 rm mc ms 5 ∧ (Cond.instanceMethod y).before args s = true ∧ (Cond.selects Cn y y).before args s = true) (hb : M b = some (.inr (ci, fs))) (hc : vwCl[ci]? = some (Cn, T, N)) (hst : (st.map fun v => v.category).sum ≤ 8) (hf : cells + mc ≤ R.cells ∧ slots + ms ≤ R.slots) (d : decode cc pc = .ok (.invokevirtual index, 3))
    (k : ∀ (r : Int64) (M2 : mq_M), P r M2 → mq_X p l e R s m args below meth c Q nL D z H0 (cells + mc) (slots + ms) M2 (pc + 3) L (.long r :: st)) : mq_X p l e R s m args below meth c Q nL D z H0 cells slots M pc L (a4 :: a3 :: a2 :: a1 :: a0 :: .ref b :: st) :=
  fun H locs la ws h1 h2 h3 h4 h5 h6 => by
    obtain ⟨q, hq⟩ := h4.at hb
    exact mq_call h1 h5 h6 (va_runVN (As := [a0, a1, a2, a3, a4]) (rest := st) C.1 (hM z) cw ⟨mq_blind, va_recv C.2.1 h2 hc hq, mq_pre C h2 h3 h4 (Nat.le_trans h6 h5.1)⟩ rfl rfl h1.1 rfl (lv_room hst) d hf) (fun v M2 hp => by
      obtain ⟨r, rfl, hp⟩ := hp
      exact k r M2 hp)
theorem xr_callS5l (C : mq_C p m c cc nL s args Ts own D tys) {y : MethodName} {bytes : ByteArray} {maxL index mc ms : Nat} {ret : Option FieldType} {ws0 : List Cond} {rm : Room} {a0 a1 a2 a3 a4 : Value} {P : Int64 → mq_M → Prop}
    (hM : mq_Met l y ws0 rm D tys [a0, a1, a2, a3, a4] M (mq_pl P) mc ms) (cw : CallB R s args own index y bytes maxL ret ws0 rm mc ms 5 ∧ (Cond.static y).before args s = true) (hst : (st.map fun v => v.category).sum ≤ 8) (hf : cells + mc ≤ R.cells ∧ slots + ms ≤ R.slots) (d : decode cc pc = .ok (.invokestatic index, 3))
    (k : ∀ (r : Int64) (M2 : mq_M), P r M2 → mq_X p l e R s m args below meth c Q nL D z H0 (cells + mc) (slots + ms) M2 (pc + 3) L (.long r :: st)) : mq_X p l e R s m args below meth c Q nL D z H0 cells slots M pc L (a4 :: a3 :: a2 :: a1 :: a0 :: st) :=
  fun H locs la ws h1 h2 h3 h4 h5 h6 =>
    mq_call h1 h5 h6 (va_runS (As := [a0, a1, a2, a3, a4]) (rest := st) C.1 (hM z) cw ⟨mq_blind, mq_pre C h2 h3 h4 (Nat.le_trans h6 h5.1)⟩ rfl rfl h1.1 rfl (lv_room hst) d hf) (fun v M2 hp => by
      obtain ⟨r, rfl, hp⟩ := hp
      exact k r M2 hp)
theorem xr_callS5lN (C : mq_C p m c cc nL s args Ts own D tys) {y : MethodName} {bytes : ByteArray} {maxL index mc ms : Nat} {ret : Option FieldType} {ws0 : List Cond} {rm : Room} {host : String} {a0 a1 a2 a3 a4 : Value} {P : Int64 → mq_M → Prop}
    (hM : mq_Met l y ws0 rm D tys [a0, a1, a2, a3, a4] M (mq_pl P) mc ms) (cw : va_CN R s args own index y host bytes maxL ret ws0 rm mc ms 5 ∧ (Cond.static y).before args s = true ∧ True) (hst : (st.map fun v => v.category).sum ≤ 8) (hf : cells + mc ≤ R.cells ∧ slots + ms ≤ R.slots) (d : decode cc pc = .ok (.invokestatic index, 3))
    (k : ∀ (r : Int64) (M2 : mq_M), P r M2 → mq_X p l e R s m args below meth c Q nL D z H0 (cells + mc) (slots + ms) M2 (pc + 3) L (.long r :: st)) : mq_X p l e R s m args below meth c Q nL D z H0 cells slots M pc L (a4 :: a3 :: a2 :: a1 :: a0 :: st) :=
  fun H locs la ws h1 h2 h3 h4 h5 h6 =>
    mq_call h1 h5 h6 (va_runSN (As := [a0, a1, a2, a3, a4]) (rest := st) C.1 (hM z) cw ⟨mq_blind, mq_pre C h2 h3 h4 (Nat.le_trans h6 h5.1)⟩ rfl rfl h1.1 rfl (lv_room hst) d hf) (fun v M2 hp => by
      obtain ⟨r, rfl, hp⟩ := hp
      exact k r M2 hp)
theorem xr_callV5r (C : mq_C p m c cc nL s args Ts own D tys) {y : MethodName} {bytes : ByteArray} {maxL index mc ms b ci : Nat} {ret : Option FieldType} {ws0 : List Cond} {rm : Room} {Cn : String} {T : u_T} {N : Nat} {fs : List Value} {a0 a1 a2 a3 a4 : Value} {P : Option Nat → mq_M → Prop}
    (hM : mq_Met l y ws0 rm D tys [.ref b, a0, a1, a2, a3, a4] M (mq_pr P) mc ms) (cw : CallW R s args own Cn index y bytes maxL ret ws0 rm mc ms 5) (hb : M b = some (.inr (ci, fs))) (hc : vwCl[ci]? = some (Cn, T, N)) (hst : (st.map fun v => v.category).sum ≤ 8) (hf : cells + mc ≤ R.cells ∧ slots + ms ≤ R.slots) (d : decode cc pc = .ok (.invokevirtual index, 3))
    (k : ∀ (r : Option Nat) (M2 : mq_M), P r M2 → mq_X p l e R s m args below meth c Q nL D z H0 (cells + mc) (slots + ms) M2 (pc + 3) L (va_rf r :: st)) : mq_X p l e R s m args below meth c Q nL D z H0 cells slots M pc L (a4 :: a3 :: a2 :: a1 :: a0 :: .ref b :: st) :=
  fun H locs la ws h1 h2 h3 h4 h5 h6 => by
    obtain ⟨q, hq⟩ := h4.at hb
    exact mq_call h1 h5 h6 (va_runV (As := [a0, a1, a2, a3, a4]) (rest := st) C.1 (hM z) cw ⟨mq_blind, va_recv C.2.1 h2 hc hq, mq_pre C h2 h3 h4 (Nat.le_trans h6 h5.1)⟩ rfl rfl h1.1 rfl (lv_room hst) d hf) (fun v M2 hp => by
      obtain ⟨r, rfl, hp⟩ := hp
      exact k r M2 hp)
theorem xr_callV5rN (C : mq_C p m c cc nL s args Ts own D tys) {y : MethodName} {bytes : ByteArray} {maxL index mc ms b ci : Nat} {ret : Option FieldType} {ws0 : List Cond} {rm : Room} {Cn host : String} {T : u_T} {N : Nat} {fs : List Value} {a0 a1 a2 a3 a4 : Value} {P : Option Nat → mq_M → Prop}
    (hM : mq_Met l y ws0 rm D tys [.ref b, a0, a1, a2, a3, a4] M (mq_pr P) mc ms) (cw : va_CN R s args own index y host bytes maxL ret ws0 rm mc ms 5 ∧ (Cond.instanceMethod y).before args s = true ∧ (Cond.selects Cn y y).before args s = true) (hb : M b = some (.inr (ci, fs))) (hc : vwCl[ci]? = some (Cn, T, N)) (hst : (st.map fun v => v.category).sum ≤ 8) (hf : cells + mc ≤ R.cells ∧ slots + ms ≤ R.slots) (d : decode cc pc = .ok (.invokevirtual index, 3))
    (k : ∀ (r : Option Nat) (M2 : mq_M), P r M2 → mq_X p l e R s m args below meth c Q nL D z H0 (cells + mc) (slots + ms) M2 (pc + 3) L (va_rf r :: st)) : mq_X p l e R s m args below meth c Q nL D z H0 cells slots M pc L (a4 :: a3 :: a2 :: a1 :: a0 :: .ref b :: st) :=
  fun H locs la ws h1 h2 h3 h4 h5 h6 => by
    obtain ⟨q, hq⟩ := h4.at hb
    exact mq_call h1 h5 h6 (va_runVN (As := [a0, a1, a2, a3, a4]) (rest := st) C.1 (hM z) cw ⟨mq_blind, va_recv C.2.1 h2 hc hq, mq_pre C h2 h3 h4 (Nat.le_trans h6 h5.1)⟩ rfl rfl h1.1 rfl (lv_room hst) d hf) (fun v M2 hp => by
      obtain ⟨r, rfl, hp⟩ := hp
      exact k r M2 hp)
theorem xr_callS5r (C : mq_C p m c cc nL s args Ts own D tys) {y : MethodName} {bytes : ByteArray} {maxL index mc ms : Nat} {ret : Option FieldType} {ws0 : List Cond} {rm : Room} {a0 a1 a2 a3 a4 : Value} {P : Option Nat → mq_M → Prop}
    (hM : mq_Met l y ws0 rm D tys [a0, a1, a2, a3, a4] M (mq_pr P) mc ms) (cw : CallB R s args own index y bytes maxL ret ws0 rm mc ms 5 ∧ (Cond.static y).before args s = true) (hst : (st.map fun v => v.category).sum ≤ 8) (hf : cells + mc ≤ R.cells ∧ slots + ms ≤ R.slots) (d : decode cc pc = .ok (.invokestatic index, 3))
    (k : ∀ (r : Option Nat) (M2 : mq_M), P r M2 → mq_X p l e R s m args below meth c Q nL D z H0 (cells + mc) (slots + ms) M2 (pc + 3) L (va_rf r :: st)) : mq_X p l e R s m args below meth c Q nL D z H0 cells slots M pc L (a4 :: a3 :: a2 :: a1 :: a0 :: st) :=
  fun H locs la ws h1 h2 h3 h4 h5 h6 =>
    mq_call h1 h5 h6 (va_runS (As := [a0, a1, a2, a3, a4]) (rest := st) C.1 (hM z) cw ⟨mq_blind, mq_pre C h2 h3 h4 (Nat.le_trans h6 h5.1)⟩ rfl rfl h1.1 rfl (lv_room hst) d hf) (fun v M2 hp => by
      obtain ⟨r, rfl, hp⟩ := hp
      exact k r M2 hp)
theorem xr_callS5rN (C : mq_C p m c cc nL s args Ts own D tys) {y : MethodName} {bytes : ByteArray} {maxL index mc ms : Nat} {ret : Option FieldType} {ws0 : List Cond} {rm : Room} {host : String} {a0 a1 a2 a3 a4 : Value} {P : Option Nat → mq_M → Prop}
    (hM : mq_Met l y ws0 rm D tys [a0, a1, a2, a3, a4] M (mq_pr P) mc ms) (cw : va_CN R s args own index y host bytes maxL ret ws0 rm mc ms 5 ∧ (Cond.static y).before args s = true ∧ True) (hst : (st.map fun v => v.category).sum ≤ 8) (hf : cells + mc ≤ R.cells ∧ slots + ms ≤ R.slots) (d : decode cc pc = .ok (.invokestatic index, 3))
    (k : ∀ (r : Option Nat) (M2 : mq_M), P r M2 → mq_X p l e R s m args below meth c Q nL D z H0 (cells + mc) (slots + ms) M2 (pc + 3) L (va_rf r :: st)) : mq_X p l e R s m args below meth c Q nL D z H0 cells slots M pc L (a4 :: a3 :: a2 :: a1 :: a0 :: st) :=
  fun H locs la ws h1 h2 h3 h4 h5 h6 =>
    mq_call h1 h5 h6 (va_runSN (As := [a0, a1, a2, a3, a4]) (rest := st) C.1 (hM z) cw ⟨mq_blind, mq_pre C h2 h3 h4 (Nat.le_trans h6 h5.1)⟩ rfl rfl h1.1 rfl (lv_room hst) d hf) (fun v M2 hp => by
      obtain ⟨r, rfl, hp⟩ := hp
      exact k r M2 hp)
theorem xr_callV6i (C : mq_C p m c cc nL s args Ts own D tys) {y : MethodName} {bytes : ByteArray} {maxL index mc ms b ci : Nat} {ret : Option FieldType} {ws0 : List Cond} {rm : Room} {Cn : String} {T : u_T} {N : Nat} {fs : List Value} {a0 a1 a2 a3 a4 a5 : Value} {P : Int → mq_M → Prop}
    (hM : mq_Met l y ws0 rm D tys [.ref b, a0, a1, a2, a3, a4, a5] M (mq_pi P) mc ms) (cw : CallW R s args own Cn index y bytes maxL ret ws0 rm mc ms 6) (hb : M b = some (.inr (ci, fs))) (hc : vwCl[ci]? = some (Cn, T, N)) (hst : (st.map fun v => v.category).sum ≤ 8) (hf : cells + mc ≤ R.cells ∧ slots + ms ≤ R.slots) (d : decode cc pc = .ok (.invokevirtual index, 3))
    (k : ∀ (r : Int) (M2 : mq_M), P r M2 → mq_X p l e R s m args below meth c Q nL D z H0 (cells + mc) (slots + ms) M2 (pc + 3) L (.int (zI r) :: st)) : mq_X p l e R s m args below meth c Q nL D z H0 cells slots M pc L (a5 :: a4 :: a3 :: a2 :: a1 :: a0 :: .ref b :: st) :=
  fun H locs la ws h1 h2 h3 h4 h5 h6 => by
    obtain ⟨q, hq⟩ := h4.at hb
    exact mq_call h1 h5 h6 (va_runV (As := [a0, a1, a2, a3, a4, a5]) (rest := st) C.1 (hM z) cw ⟨mq_blind, va_recv C.2.1 h2 hc hq, mq_pre C h2 h3 h4 (Nat.le_trans h6 h5.1)⟩ rfl rfl h1.1 rfl (lv_room hst) d hf) (fun v M2 hp => by
      obtain ⟨r, rfl, hp⟩ := hp
      exact k r M2 hp)
theorem xr_callV6iN (C : mq_C p m c cc nL s args Ts own D tys) {y : MethodName} {bytes : ByteArray} {maxL index mc ms b ci : Nat} {ret : Option FieldType} {ws0 : List Cond} {rm : Room} {Cn host : String} {T : u_T} {N : Nat} {fs : List Value} {a0 a1 a2 a3 a4 a5 : Value} {P : Int → mq_M → Prop}
    (hM : mq_Met l y ws0 rm D tys [.ref b, a0, a1, a2, a3, a4, a5] M (mq_pi P) mc ms) (cw : va_CN R s args own index y host bytes maxL ret ws0 rm mc ms 6 ∧ (Cond.instanceMethod y).before args s = true ∧ (Cond.selects Cn y y).before args s = true) (hb : M b = some (.inr (ci, fs))) (hc : vwCl[ci]? = some (Cn, T, N)) (hst : (st.map fun v => v.category).sum ≤ 8) (hf : cells + mc ≤ R.cells ∧ slots + ms ≤ R.slots) (d : decode cc pc = .ok (.invokevirtual index, 3))
    (k : ∀ (r : Int) (M2 : mq_M), P r M2 → mq_X p l e R s m args below meth c Q nL D z H0 (cells + mc) (slots + ms) M2 (pc + 3) L (.int (zI r) :: st)) : mq_X p l e R s m args below meth c Q nL D z H0 cells slots M pc L (a5 :: a4 :: a3 :: a2 :: a1 :: a0 :: .ref b :: st) :=
  fun H locs la ws h1 h2 h3 h4 h5 h6 => by
    obtain ⟨q, hq⟩ := h4.at hb
    exact mq_call h1 h5 h6 (va_runVN (As := [a0, a1, a2, a3, a4, a5]) (rest := st) C.1 (hM z) cw ⟨mq_blind, va_recv C.2.1 h2 hc hq, mq_pre C h2 h3 h4 (Nat.le_trans h6 h5.1)⟩ rfl rfl h1.1 rfl (lv_room hst) d hf) (fun v M2 hp => by
      obtain ⟨r, rfl, hp⟩ := hp
      exact k r M2 hp)
theorem xr_callS6i (C : mq_C p m c cc nL s args Ts own D tys) {y : MethodName} {bytes : ByteArray} {maxL index mc ms : Nat} {ret : Option FieldType} {ws0 : List Cond} {rm : Room} {a0 a1 a2 a3 a4 a5 : Value} {P : Int → mq_M → Prop}
    (hM : mq_Met l y ws0 rm D tys [a0, a1, a2, a3, a4, a5] M (mq_pi P) mc ms) (cw : CallB R s args own index y bytes maxL ret ws0 rm mc ms 6 ∧ (Cond.static y).before args s = true) (hst : (st.map fun v => v.category).sum ≤ 8) (hf : cells + mc ≤ R.cells ∧ slots + ms ≤ R.slots) (d : decode cc pc = .ok (.invokestatic index, 3))
    (k : ∀ (r : Int) (M2 : mq_M), P r M2 → mq_X p l e R s m args below meth c Q nL D z H0 (cells + mc) (slots + ms) M2 (pc + 3) L (.int (zI r) :: st)) : mq_X p l e R s m args below meth c Q nL D z H0 cells slots M pc L (a5 :: a4 :: a3 :: a2 :: a1 :: a0 :: st) :=
  fun H locs la ws h1 h2 h3 h4 h5 h6 =>
    mq_call h1 h5 h6 (va_runS (As := [a0, a1, a2, a3, a4, a5]) (rest := st) C.1 (hM z) cw ⟨mq_blind, mq_pre C h2 h3 h4 (Nat.le_trans h6 h5.1)⟩ rfl rfl h1.1 rfl (lv_room hst) d hf) (fun v M2 hp => by
      obtain ⟨r, rfl, hp⟩ := hp
      exact k r M2 hp)
theorem xr_callS6iN (C : mq_C p m c cc nL s args Ts own D tys) {y : MethodName} {bytes : ByteArray} {maxL index mc ms : Nat} {ret : Option FieldType} {ws0 : List Cond} {rm : Room} {host : String} {a0 a1 a2 a3 a4 a5 : Value} {P : Int → mq_M → Prop}
    (hM : mq_Met l y ws0 rm D tys [a0, a1, a2, a3, a4, a5] M (mq_pi P) mc ms) (cw : va_CN R s args own index y host bytes maxL ret ws0 rm mc ms 6 ∧ (Cond.static y).before args s = true ∧ True) (hst : (st.map fun v => v.category).sum ≤ 8) (hf : cells + mc ≤ R.cells ∧ slots + ms ≤ R.slots) (d : decode cc pc = .ok (.invokestatic index, 3))
    (k : ∀ (r : Int) (M2 : mq_M), P r M2 → mq_X p l e R s m args below meth c Q nL D z H0 (cells + mc) (slots + ms) M2 (pc + 3) L (.int (zI r) :: st)) : mq_X p l e R s m args below meth c Q nL D z H0 cells slots M pc L (a5 :: a4 :: a3 :: a2 :: a1 :: a0 :: st) :=
  fun H locs la ws h1 h2 h3 h4 h5 h6 =>
    mq_call h1 h5 h6 (va_runSN (As := [a0, a1, a2, a3, a4, a5]) (rest := st) C.1 (hM z) cw ⟨mq_blind, mq_pre C h2 h3 h4 (Nat.le_trans h6 h5.1)⟩ rfl rfl h1.1 rfl (lv_room hst) d hf) (fun v M2 hp => by
      obtain ⟨r, rfl, hp⟩ := hp
      exact k r M2 hp)
theorem xr_callV6v (C : mq_C p m c cc nL s args Ts own D tys) {y : MethodName} {bytes : ByteArray} {maxL index mc ms b ci : Nat} {ret : Option FieldType} {ws0 : List Cond} {rm : Room} {Cn : String} {T : u_T} {N : Nat} {fs : List Value} {a0 a1 a2 a3 a4 a5 : Value} {P : mq_M → Prop}
    (hM : mq_Met l y ws0 rm D tys [.ref b, a0, a1, a2, a3, a4, a5] M (mq_pv P) mc ms) (cw : CallW R s args own Cn index y bytes maxL ret ws0 rm mc ms 6) (hb : M b = some (.inr (ci, fs))) (hc : vwCl[ci]? = some (Cn, T, N)) (hst : (st.map fun v => v.category).sum ≤ 8) (hf : cells + mc ≤ R.cells ∧ slots + ms ≤ R.slots) (d : decode cc pc = .ok (.invokevirtual index, 3))
    (k : ∀ (M2 : mq_M), P M2 → mq_X p l e R s m args below meth c Q nL D z H0 (cells + mc) (slots + ms) M2 (pc + 3) L st) : mq_X p l e R s m args below meth c Q nL D z H0 cells slots M pc L (a5 :: a4 :: a3 :: a2 :: a1 :: a0 :: .ref b :: st) :=
  fun H locs la ws h1 h2 h3 h4 h5 h6 => by
    obtain ⟨q, hq⟩ := h4.at hb
    exact mq_call h1 h5 h6 (va_runV (As := [a0, a1, a2, a3, a4, a5]) (rest := st) C.1 (hM z) cw ⟨mq_blind, va_recv C.2.1 h2 hc hq, mq_pre C h2 h3 h4 (Nat.le_trans h6 h5.1)⟩ rfl rfl h1.1 rfl (lv_room hst) d hf) (fun v M2 hp => by
      obtain ⟨rfl, hp⟩ := hp
      exact k M2 hp)
theorem xr_callV6vN (C : mq_C p m c cc nL s args Ts own D tys) {y : MethodName} {bytes : ByteArray} {maxL index mc ms b ci : Nat} {ret : Option FieldType} {ws0 : List Cond} {rm : Room} {Cn host : String} {T : u_T} {N : Nat} {fs : List Value} {a0 a1 a2 a3 a4 a5 : Value} {P : mq_M → Prop}
    (hM : mq_Met l y ws0 rm D tys [.ref b, a0, a1, a2, a3, a4, a5] M (mq_pv P) mc ms) (cw : va_CN R s args own index y host bytes maxL ret ws0 rm mc ms 6 ∧ (Cond.instanceMethod y).before args s = true ∧ (Cond.selects Cn y y).before args s = true) (hb : M b = some (.inr (ci, fs))) (hc : vwCl[ci]? = some (Cn, T, N)) (hst : (st.map fun v => v.category).sum ≤ 8) (hf : cells + mc ≤ R.cells ∧ slots + ms ≤ R.slots) (d : decode cc pc = .ok (.invokevirtual index, 3))
    (k : ∀ (M2 : mq_M), P M2 → mq_X p l e R s m args below meth c Q nL D z H0 (cells + mc) (slots + ms) M2 (pc + 3) L st) : mq_X p l e R s m args below meth c Q nL D z H0 cells slots M pc L (a5 :: a4 :: a3 :: a2 :: a1 :: a0 :: .ref b :: st) :=
  fun H locs la ws h1 h2 h3 h4 h5 h6 => by
    obtain ⟨q, hq⟩ := h4.at hb
    exact mq_call h1 h5 h6 (va_runVN (As := [a0, a1, a2, a3, a4, a5]) (rest := st) C.1 (hM z) cw ⟨mq_blind, va_recv C.2.1 h2 hc hq, mq_pre C h2 h3 h4 (Nat.le_trans h6 h5.1)⟩ rfl rfl h1.1 rfl (lv_room hst) d hf) (fun v M2 hp => by
      obtain ⟨rfl, hp⟩ := hp
      exact k M2 hp)
theorem xr_callS6v (C : mq_C p m c cc nL s args Ts own D tys) {y : MethodName} {bytes : ByteArray} {maxL index mc ms : Nat} {ret : Option FieldType} {ws0 : List Cond} {rm : Room} {a0 a1 a2 a3 a4 a5 : Value} {P : mq_M → Prop}
    (hM : mq_Met l y ws0 rm D tys [a0, a1, a2, a3, a4, a5] M (mq_pv P) mc ms) (cw : CallB R s args own index y bytes maxL ret ws0 rm mc ms 6 ∧ (Cond.static y).before args s = true) (hst : (st.map fun v => v.category).sum ≤ 8) (hf : cells + mc ≤ R.cells ∧ slots + ms ≤ R.slots) (d : decode cc pc = .ok (.invokestatic index, 3))
    (k : ∀ (M2 : mq_M), P M2 → mq_X p l e R s m args below meth c Q nL D z H0 (cells + mc) (slots + ms) M2 (pc + 3) L st) : mq_X p l e R s m args below meth c Q nL D z H0 cells slots M pc L (a5 :: a4 :: a3 :: a2 :: a1 :: a0 :: st) :=
  fun H locs la ws h1 h2 h3 h4 h5 h6 =>
    mq_call h1 h5 h6 (va_runS (As := [a0, a1, a2, a3, a4, a5]) (rest := st) C.1 (hM z) cw ⟨mq_blind, mq_pre C h2 h3 h4 (Nat.le_trans h6 h5.1)⟩ rfl rfl h1.1 rfl (lv_room hst) d hf) (fun v M2 hp => by
      obtain ⟨rfl, hp⟩ := hp
      exact k M2 hp)
theorem xr_callS6vN (C : mq_C p m c cc nL s args Ts own D tys) {y : MethodName} {bytes : ByteArray} {maxL index mc ms : Nat} {ret : Option FieldType} {ws0 : List Cond} {rm : Room} {host : String} {a0 a1 a2 a3 a4 a5 : Value} {P : mq_M → Prop}
    (hM : mq_Met l y ws0 rm D tys [a0, a1, a2, a3, a4, a5] M (mq_pv P) mc ms) (cw : va_CN R s args own index y host bytes maxL ret ws0 rm mc ms 6 ∧ (Cond.static y).before args s = true ∧ True) (hst : (st.map fun v => v.category).sum ≤ 8) (hf : cells + mc ≤ R.cells ∧ slots + ms ≤ R.slots) (d : decode cc pc = .ok (.invokestatic index, 3))
    (k : ∀ (M2 : mq_M), P M2 → mq_X p l e R s m args below meth c Q nL D z H0 (cells + mc) (slots + ms) M2 (pc + 3) L st) : mq_X p l e R s m args below meth c Q nL D z H0 cells slots M pc L (a5 :: a4 :: a3 :: a2 :: a1 :: a0 :: st) :=
  fun H locs la ws h1 h2 h3 h4 h5 h6 =>
    mq_call h1 h5 h6 (va_runSN (As := [a0, a1, a2, a3, a4, a5]) (rest := st) C.1 (hM z) cw ⟨mq_blind, mq_pre C h2 h3 h4 (Nat.le_trans h6 h5.1)⟩ rfl rfl h1.1 rfl (lv_room hst) d hf) (fun v M2 hp => by
      obtain ⟨rfl, hp⟩ := hp
      exact k M2 hp)
theorem xr_callI6 (C : mq_C p m c cc nL s args Ts own D tys) {y : MethodName} {bytes : ByteArray} {maxL index mc ms b : Nat} {ws0 : List Cond} {rm : Room} {a0 a1 a2 a3 a4 a5 : Value} {P : mq_M → Prop}
    (hM : mq_Met l y ws0 rm D tys [.ref b, a0, a1, a2, a3, a4, a5] M (mq_pv P) mc ms) (cw : CallB R s args own index y bytes maxL none ws0 rm mc ms 6 ∧ y.name = "<init>" ∧ (Cond.instanceMethod y).before args s = true) (hst : (st.map fun v => v.category).sum ≤ 8) (hf : cells + mc ≤ R.cells ∧ slots + ms ≤ R.slots) (d : decode cc pc = .ok (.invokespecial index, 3))
    (k : ∀ (M2 : mq_M), P M2 → mq_X p l e R s m args below meth c Q nL D z H0 (cells + mc) (slots + ms) M2 (pc + 3) L st) : mq_X p l e R s m args below meth c Q nL D z H0 cells slots M pc L (a5 :: a4 :: a3 :: a2 :: a1 :: a0 :: .ref b :: st) :=
  fun H locs la ws h1 h2 h3 h4 h5 h6 =>
    mq_call h1 h5 h6 (va_runI (As := [a0, a1, a2, a3, a4, a5]) (rest := st) C.1 (hM z) cw ⟨mq_blind, mq_pre C h2 h3 h4 (Nat.le_trans h6 h5.1)⟩ rfl rfl h1.1 rfl (lv_room hst) d hf) (fun v M2 hp => by
      obtain ⟨rfl, hp⟩ := hp
      exact k M2 hp)
theorem xr_callI6N (C : mq_C p m c cc nL s args Ts own D tys) {y : MethodName} {bytes : ByteArray} {maxL index mc ms b : Nat} {ws0 : List Cond} {rm : Room} {host : String} {a0 a1 a2 a3 a4 a5 : Value} {P : mq_M → Prop}
    (hM : mq_Met l y ws0 rm D tys [.ref b, a0, a1, a2, a3, a4, a5] M (mq_pv P) mc ms) (cw : va_CN R s args own index y host bytes maxL none ws0 rm mc ms 6 ∧ y.name = "<init>" ∧ (Cond.instanceMethod y).before args s = true) (hst : (st.map fun v => v.category).sum ≤ 8) (hf : cells + mc ≤ R.cells ∧ slots + ms ≤ R.slots) (d : decode cc pc = .ok (.invokespecial index, 3))
    (k : ∀ (M2 : mq_M), P M2 → mq_X p l e R s m args below meth c Q nL D z H0 (cells + mc) (slots + ms) M2 (pc + 3) L st) : mq_X p l e R s m args below meth c Q nL D z H0 cells slots M pc L (a5 :: a4 :: a3 :: a2 :: a1 :: a0 :: .ref b :: st) :=
  fun H locs la ws h1 h2 h3 h4 h5 h6 =>
    mq_call h1 h5 h6 (va_runIN (As := [a0, a1, a2, a3, a4, a5]) (rest := st) C.1 (hM z) cw ⟨mq_blind, mq_pre C h2 h3 h4 (Nat.le_trans h6 h5.1)⟩ rfl rfl h1.1 rfl (lv_room hst) d hf) (fun v M2 hp => by
      obtain ⟨rfl, hp⟩ := hp
      exact k M2 hp)
theorem xr_callV6l (C : mq_C p m c cc nL s args Ts own D tys) {y : MethodName} {bytes : ByteArray} {maxL index mc ms b ci : Nat} {ret : Option FieldType} {ws0 : List Cond} {rm : Room} {Cn : String} {T : u_T} {N : Nat} {fs : List Value} {a0 a1 a2 a3 a4 a5 : Value} {P : Int64 → mq_M → Prop}
    (hM : mq_Met l y ws0 rm D tys [.ref b, a0, a1, a2, a3, a4, a5] M (mq_pl P) mc ms) (cw : CallW R s args own Cn index y bytes maxL ret ws0 rm mc ms 6) (hb : M b = some (.inr (ci, fs))) (hc : vwCl[ci]? = some (Cn, T, N)) (hst : (st.map fun v => v.category).sum ≤ 8) (hf : cells + mc ≤ R.cells ∧ slots + ms ≤ R.slots) (d : decode cc pc = .ok (.invokevirtual index, 3))
    (k : ∀ (r : Int64) (M2 : mq_M), P r M2 → mq_X p l e R s m args below meth c Q nL D z H0 (cells + mc) (slots + ms) M2 (pc + 3) L (.long r :: st)) : mq_X p l e R s m args below meth c Q nL D z H0 cells slots M pc L (a5 :: a4 :: a3 :: a2 :: a1 :: a0 :: .ref b :: st) :=
  fun H locs la ws h1 h2 h3 h4 h5 h6 => by
    obtain ⟨q, hq⟩ := h4.at hb
    exact mq_call h1 h5 h6 (va_runV (As := [a0, a1, a2, a3, a4, a5]) (rest := st) C.1 (hM z) cw ⟨mq_blind, va_recv C.2.1 h2 hc hq, mq_pre C h2 h3 h4 (Nat.le_trans h6 h5.1)⟩ rfl rfl h1.1 rfl (lv_room hst) d hf) (fun v M2 hp => by
      obtain ⟨r, rfl, hp⟩ := hp
      exact k r M2 hp)
theorem xr_callV6lN (C : mq_C p m c cc nL s args Ts own D tys) {y : MethodName} {bytes : ByteArray} {maxL index mc ms b ci : Nat} {ret : Option FieldType} {ws0 : List Cond} {rm : Room} {Cn host : String} {T : u_T} {N : Nat} {fs : List Value} {a0 a1 a2 a3 a4 a5 : Value} {P : Int64 → mq_M → Prop}
    (hM : mq_Met l y ws0 rm D tys [.ref b, a0, a1, a2, a3, a4, a5] M (mq_pl P) mc ms) (cw : va_CN R s args own index y host bytes maxL ret ws0 rm mc ms 6 ∧ (Cond.instanceMethod y).before args s = true ∧ (Cond.selects Cn y y).before args s = true) (hb : M b = some (.inr (ci, fs))) (hc : vwCl[ci]? = some (Cn, T, N)) (hst : (st.map fun v => v.category).sum ≤ 8) (hf : cells + mc ≤ R.cells ∧ slots + ms ≤ R.slots) (d : decode cc pc = .ok (.invokevirtual index, 3))
    (k : ∀ (r : Int64) (M2 : mq_M), P r M2 → mq_X p l e R s m args below meth c Q nL D z H0 (cells + mc) (slots + ms) M2 (pc + 3) L (.long r :: st)) : mq_X p l e R s m args below meth c Q nL D z H0 cells slots M pc L (a5 :: a4 :: a3 :: a2 :: a1 :: a0 :: .ref b :: st) :=
  fun H locs la ws h1 h2 h3 h4 h5 h6 => by
    obtain ⟨q, hq⟩ := h4.at hb
    exact mq_call h1 h5 h6 (va_runVN (As := [a0, a1, a2, a3, a4, a5]) (rest := st) C.1 (hM z) cw ⟨mq_blind, va_recv C.2.1 h2 hc hq, mq_pre C h2 h3 h4 (Nat.le_trans h6 h5.1)⟩ rfl rfl h1.1 rfl (lv_room hst) d hf) (fun v M2 hp => by
      obtain ⟨r, rfl, hp⟩ := hp
      exact k r M2 hp)
theorem xr_callS6l (C : mq_C p m c cc nL s args Ts own D tys) {y : MethodName} {bytes : ByteArray} {maxL index mc ms : Nat} {ret : Option FieldType} {ws0 : List Cond} {rm : Room} {a0 a1 a2 a3 a4 a5 : Value} {P : Int64 → mq_M → Prop}
    (hM : mq_Met l y ws0 rm D tys [a0, a1, a2, a3, a4, a5] M (mq_pl P) mc ms) (cw : CallB R s args own index y bytes maxL ret ws0 rm mc ms 6 ∧ (Cond.static y).before args s = true) (hst : (st.map fun v => v.category).sum ≤ 8) (hf : cells + mc ≤ R.cells ∧ slots + ms ≤ R.slots) (d : decode cc pc = .ok (.invokestatic index, 3))
    (k : ∀ (r : Int64) (M2 : mq_M), P r M2 → mq_X p l e R s m args below meth c Q nL D z H0 (cells + mc) (slots + ms) M2 (pc + 3) L (.long r :: st)) : mq_X p l e R s m args below meth c Q nL D z H0 cells slots M pc L (a5 :: a4 :: a3 :: a2 :: a1 :: a0 :: st) :=
  fun H locs la ws h1 h2 h3 h4 h5 h6 =>
    mq_call h1 h5 h6 (va_runS (As := [a0, a1, a2, a3, a4, a5]) (rest := st) C.1 (hM z) cw ⟨mq_blind, mq_pre C h2 h3 h4 (Nat.le_trans h6 h5.1)⟩ rfl rfl h1.1 rfl (lv_room hst) d hf) (fun v M2 hp => by
      obtain ⟨r, rfl, hp⟩ := hp
      exact k r M2 hp)
theorem xr_callS6lN (C : mq_C p m c cc nL s args Ts own D tys) {y : MethodName} {bytes : ByteArray} {maxL index mc ms : Nat} {ret : Option FieldType} {ws0 : List Cond} {rm : Room} {host : String} {a0 a1 a2 a3 a4 a5 : Value} {P : Int64 → mq_M → Prop}
    (hM : mq_Met l y ws0 rm D tys [a0, a1, a2, a3, a4, a5] M (mq_pl P) mc ms) (cw : va_CN R s args own index y host bytes maxL ret ws0 rm mc ms 6 ∧ (Cond.static y).before args s = true ∧ True) (hst : (st.map fun v => v.category).sum ≤ 8) (hf : cells + mc ≤ R.cells ∧ slots + ms ≤ R.slots) (d : decode cc pc = .ok (.invokestatic index, 3))
    (k : ∀ (r : Int64) (M2 : mq_M), P r M2 → mq_X p l e R s m args below meth c Q nL D z H0 (cells + mc) (slots + ms) M2 (pc + 3) L (.long r :: st)) : mq_X p l e R s m args below meth c Q nL D z H0 cells slots M pc L (a5 :: a4 :: a3 :: a2 :: a1 :: a0 :: st) :=
  fun H locs la ws h1 h2 h3 h4 h5 h6 =>
    mq_call h1 h5 h6 (va_runSN (As := [a0, a1, a2, a3, a4, a5]) (rest := st) C.1 (hM z) cw ⟨mq_blind, mq_pre C h2 h3 h4 (Nat.le_trans h6 h5.1)⟩ rfl rfl h1.1 rfl (lv_room hst) d hf) (fun v M2 hp => by
      obtain ⟨r, rfl, hp⟩ := hp
      exact k r M2 hp)
theorem xr_callV6r (C : mq_C p m c cc nL s args Ts own D tys) {y : MethodName} {bytes : ByteArray} {maxL index mc ms b ci : Nat} {ret : Option FieldType} {ws0 : List Cond} {rm : Room} {Cn : String} {T : u_T} {N : Nat} {fs : List Value} {a0 a1 a2 a3 a4 a5 : Value} {P : Option Nat → mq_M → Prop}
    (hM : mq_Met l y ws0 rm D tys [.ref b, a0, a1, a2, a3, a4, a5] M (mq_pr P) mc ms) (cw : CallW R s args own Cn index y bytes maxL ret ws0 rm mc ms 6) (hb : M b = some (.inr (ci, fs))) (hc : vwCl[ci]? = some (Cn, T, N)) (hst : (st.map fun v => v.category).sum ≤ 8) (hf : cells + mc ≤ R.cells ∧ slots + ms ≤ R.slots) (d : decode cc pc = .ok (.invokevirtual index, 3))
    (k : ∀ (r : Option Nat) (M2 : mq_M), P r M2 → mq_X p l e R s m args below meth c Q nL D z H0 (cells + mc) (slots + ms) M2 (pc + 3) L (va_rf r :: st)) : mq_X p l e R s m args below meth c Q nL D z H0 cells slots M pc L (a5 :: a4 :: a3 :: a2 :: a1 :: a0 :: .ref b :: st) :=
  fun H locs la ws h1 h2 h3 h4 h5 h6 => by
    obtain ⟨q, hq⟩ := h4.at hb
    exact mq_call h1 h5 h6 (va_runV (As := [a0, a1, a2, a3, a4, a5]) (rest := st) C.1 (hM z) cw ⟨mq_blind, va_recv C.2.1 h2 hc hq, mq_pre C h2 h3 h4 (Nat.le_trans h6 h5.1)⟩ rfl rfl h1.1 rfl (lv_room hst) d hf) (fun v M2 hp => by
      obtain ⟨r, rfl, hp⟩ := hp
      exact k r M2 hp)
theorem xr_callV6rN (C : mq_C p m c cc nL s args Ts own D tys) {y : MethodName} {bytes : ByteArray} {maxL index mc ms b ci : Nat} {ret : Option FieldType} {ws0 : List Cond} {rm : Room} {Cn host : String} {T : u_T} {N : Nat} {fs : List Value} {a0 a1 a2 a3 a4 a5 : Value} {P : Option Nat → mq_M → Prop}
    (hM : mq_Met l y ws0 rm D tys [.ref b, a0, a1, a2, a3, a4, a5] M (mq_pr P) mc ms) (cw : va_CN R s args own index y host bytes maxL ret ws0 rm mc ms 6 ∧ (Cond.instanceMethod y).before args s = true ∧ (Cond.selects Cn y y).before args s = true) (hb : M b = some (.inr (ci, fs))) (hc : vwCl[ci]? = some (Cn, T, N)) (hst : (st.map fun v => v.category).sum ≤ 8) (hf : cells + mc ≤ R.cells ∧ slots + ms ≤ R.slots) (d : decode cc pc = .ok (.invokevirtual index, 3))
    (k : ∀ (r : Option Nat) (M2 : mq_M), P r M2 → mq_X p l e R s m args below meth c Q nL D z H0 (cells + mc) (slots + ms) M2 (pc + 3) L (va_rf r :: st)) : mq_X p l e R s m args below meth c Q nL D z H0 cells slots M pc L (a5 :: a4 :: a3 :: a2 :: a1 :: a0 :: .ref b :: st) :=
  fun H locs la ws h1 h2 h3 h4 h5 h6 => by
    obtain ⟨q, hq⟩ := h4.at hb
    exact mq_call h1 h5 h6 (va_runVN (As := [a0, a1, a2, a3, a4, a5]) (rest := st) C.1 (hM z) cw ⟨mq_blind, va_recv C.2.1 h2 hc hq, mq_pre C h2 h3 h4 (Nat.le_trans h6 h5.1)⟩ rfl rfl h1.1 rfl (lv_room hst) d hf) (fun v M2 hp => by
      obtain ⟨r, rfl, hp⟩ := hp
      exact k r M2 hp)
theorem xr_callS6r (C : mq_C p m c cc nL s args Ts own D tys) {y : MethodName} {bytes : ByteArray} {maxL index mc ms : Nat} {ret : Option FieldType} {ws0 : List Cond} {rm : Room} {a0 a1 a2 a3 a4 a5 : Value} {P : Option Nat → mq_M → Prop}
    (hM : mq_Met l y ws0 rm D tys [a0, a1, a2, a3, a4, a5] M (mq_pr P) mc ms) (cw : CallB R s args own index y bytes maxL ret ws0 rm mc ms 6 ∧ (Cond.static y).before args s = true) (hst : (st.map fun v => v.category).sum ≤ 8) (hf : cells + mc ≤ R.cells ∧ slots + ms ≤ R.slots) (d : decode cc pc = .ok (.invokestatic index, 3))
    (k : ∀ (r : Option Nat) (M2 : mq_M), P r M2 → mq_X p l e R s m args below meth c Q nL D z H0 (cells + mc) (slots + ms) M2 (pc + 3) L (va_rf r :: st)) : mq_X p l e R s m args below meth c Q nL D z H0 cells slots M pc L (a5 :: a4 :: a3 :: a2 :: a1 :: a0 :: st) :=
  fun H locs la ws h1 h2 h3 h4 h5 h6 =>
    mq_call h1 h5 h6 (va_runS (As := [a0, a1, a2, a3, a4, a5]) (rest := st) C.1 (hM z) cw ⟨mq_blind, mq_pre C h2 h3 h4 (Nat.le_trans h6 h5.1)⟩ rfl rfl h1.1 rfl (lv_room hst) d hf) (fun v M2 hp => by
      obtain ⟨r, rfl, hp⟩ := hp
      exact k r M2 hp)
theorem xr_callS6rN (C : mq_C p m c cc nL s args Ts own D tys) {y : MethodName} {bytes : ByteArray} {maxL index mc ms : Nat} {ret : Option FieldType} {ws0 : List Cond} {rm : Room} {host : String} {a0 a1 a2 a3 a4 a5 : Value} {P : Option Nat → mq_M → Prop}
    (hM : mq_Met l y ws0 rm D tys [a0, a1, a2, a3, a4, a5] M (mq_pr P) mc ms) (cw : va_CN R s args own index y host bytes maxL ret ws0 rm mc ms 6 ∧ (Cond.static y).before args s = true ∧ True) (hst : (st.map fun v => v.category).sum ≤ 8) (hf : cells + mc ≤ R.cells ∧ slots + ms ≤ R.slots) (d : decode cc pc = .ok (.invokestatic index, 3))
    (k : ∀ (r : Option Nat) (M2 : mq_M), P r M2 → mq_X p l e R s m args below meth c Q nL D z H0 (cells + mc) (slots + ms) M2 (pc + 3) L (va_rf r :: st)) : mq_X p l e R s m args below meth c Q nL D z H0 cells slots M pc L (a5 :: a4 :: a3 :: a2 :: a1 :: a0 :: st) :=
  fun H locs la ws h1 h2 h3 h4 h5 h6 =>
    mq_call h1 h5 h6 (va_runSN (As := [a0, a1, a2, a3, a4, a5]) (rest := st) C.1 (hM z) cw ⟨mq_blind, mq_pre C h2 h3 h4 (Nat.le_trans h6 h5.1)⟩ rfl rfl h1.1 rfl (lv_room hst) d hf) (fun v M2 hp => by
      obtain ⟨r, rfl, hp⟩ := hp
      exact k r M2 hp)
theorem mq_Met.of {y : MethodName} {ws0 ws' : List Cond} {rm : Room} {av : List Value} {post : Option Value → mq_M → Prop} {mc ms maxL : Nat} {ret : Option FieldType} {L0 : List (Option Value)}
    (hy : plainName y.cls = true) (hw : ws0 = Cond.code y cc maxL ret :: ws') (hlen : (lg_sl av).length ≤ maxL) (hL : mq_of maxL (lv_args 0 av) = L0) (ho : y.cls = own)
    (body : ∀ (p : Program) (e : Env) (s : State) (m : MethodId) (args : Array Value) (below : List Frame) (meth : Method) (c : Code) (z : Nat), mq_C p m c cc maxL s args ws0 own D tys → meth.sig.returnType = ret → meth.locks = false → meth.name = y.name →
      mq_X p l e rm s m args below meth c (MQ below (mq_Qc D z post) args s mc ms (fun q => z ≤ q)) maxL D z s.heap 0 0 M 0 L0 []) : mq_Met l y ws0 rm D tys av M post mc ms := by
  intro z
  refine Met.ofW (cc := cc) (maxL := maxL) (ret := ret) hy hw ?_
  intro p e s m args below meth c s₁ B hml hv
  obtain ⟨rfl, ⟨ws, hP, hD, hI⟩, hz, hK⟩ := hv
  subst hL
  subst ho
  rw [lg_entry_eq]
  exact body p e s m _ below meth c z ⟨⟨B.exec, B.bytes, hml, findClass_of_methodNamed B.named, atoms_spec (ws := ws0) B.pre⟩, hK⟩ B.returns B.notSynchronized (name_of_methodNamed B.named B.method).1 s.heap [] _ ws (mq_L.entry (lv_entry av hlen)) hP hD hI va_S.rf hz
end MQX
end
section
/-! ===== what stands of the system at any time: the classes' numbers, frames, rows of bytes ===== -/
abbrev mq_G : Type := va_G × ClassId × ClassId × ClassId × ClassId
def mq_tys (G : mq_G) : List (ClassId × FieldType) := [(G.2.1, .int), (G.2.2.1, .object "OssuaryVault$DeskFile"), (G.2.2.2.1, .object "OssuaryVault$Volume"), (G.2.2.2.2, .object "OssuaryVault$FoundFile")]
theorem mq_tI {G : mq_G} : (G.2.1, FieldType.int) ∈ mq_tys G := List.mem_cons_self
theorem mq_tF {G : mq_G} : (G.2.2.1, FieldType.object "OssuaryVault$DeskFile") ∈ mq_tys G := List.mem_cons_of_mem _ List.mem_cons_self
theorem mq_tV {G : mq_G} : (G.2.2.2.1, FieldType.object "OssuaryVault$Volume") ∈ mq_tys G := List.mem_cons_of_mem _ (List.mem_cons_of_mem _ List.mem_cons_self)
theorem mq_tG {G : mq_G} : (G.2.2.2.2, FieldType.object "OssuaryVault$FoundFile") ∈ mq_tys G := List.mem_cons_of_mem _ (List.mem_cons_of_mem _ (List.mem_cons_of_mem _ List.mem_cons_self))
abbrev mq_T (l : Launch) (y : MethodName) (ws : List Cond) (rm : Room) (G : mq_G) (av : List Value) (M : mq_M) (post : Option Value → mq_M → Prop) (mc ms : Nat) : Prop := mq_Met l y ws rm G.1 (mq_tys G) av M post mc ms
/-- all but the cells S are as they were -/
def mq_F (S : List Nat) (M M' : mq_M) : Prop := ∀ a : Nat, a ∉ S → M' a = M a
theorem mq_F.rf {S : List Nat} {M : mq_M} : mq_F S M M := fun _ _ => rfl
theorem mq_F.tr {S : List Nat} {M M1 M2 : mq_M} (h1 : mq_F S M M1) (h2 : mq_F S M1 M2) : mq_F S M M2 := fun a h => (h2 a h).trans (h1 a h)
theorem mq_F.mono {S S2 : List Nat} {M M1 : mq_M} (h1 : mq_F S M M1) (h : ∀ a, a ∈ S → a ∈ S2) : mq_F S2 M M1 := fun a ha => h1 a (fun q => ha (h a q))
theorem mq_F.up {M M1 : mq_M} {a : Nat} {e : va_E} {S : List Nat} (h : M1 = mq_up M a e) (ha : a ∈ S) : mq_F S M M1 := fun b hb => by
  rw [h]
  exact mq_up_n (fun q => hb (by rw [q]; exact ha))
/-- a byte of a row; 0 outside -/
def mq_gd (d : List Nat) (k : Int) : Nat := if 0 ≤ k then d.getD k.toNat 0 else 0
theorem mq_gd_nat (d : List Nat) (k : Nat) : mq_gd d (k : Int) = d.getD k 0 := by simp [mq_gd]
theorem mq_gd_lt {d : List Nat} (h : ∀ x ∈ d, x < 256) (k : Int) : mq_gd d k < 256 := by
  unfold mq_gd
  split
  · by_cases hk : k.toNat < d.length
    · rw [List.getD_eq_getElem?_getD, List.getElem?_eq_getElem hk]
      exact h _ (List.getElem_mem hk)
    · rw [List.getD_eq_getElem?_getD, List.getElem?_eq_none (by omega)]
      decide
  · decide
/-- a Bytes at b, its cells at a, of room n, holds the bytes d -/
def bI (G : mq_G) (M : mq_M) (b a n : Nat) (d : List Nat) : Prop := M b = some (.inr (0, [.ref a, .int (zI (d.length : Int))])) ∧ b ≠ a ∧ d.length ≤ n ∧ n ≤ 50000 ∧ (∀ x ∈ d, x < 256) ∧ ∃ f : Nat → Int32, M a = some (.inl (G.2.1, n, .inl f)) ∧ ∀ i : Nat, i < d.length → f i = zI (d.getD i 0 : Int)
theorem bI.fr {G : mq_G} {M M' : mq_M} {b a n : Nat} {d : List Nat} {S : List Nat} (h : bI G M b a n d) (hF : mq_F S M M') (hb : b ∉ S) (ha : a ∉ S) : bI G M' b a n d := by
  obtain ⟨h1, h2, h3, h4, h5, f, h6, h7⟩ := h
  exact ⟨(hF b hb).trans h1, h2, h3, h4, h5, f, (hF a ha).trans h6, h7⟩
def mq_put (d : List Nat) (k : Int) (v : Nat) : List Nat := if 0 ≤ k then d.set k.toNat v else d
theorem mq_put_len (d : List Nat) (k : Int) (v : Nat) : (mq_put d k v).length = d.length := by unfold mq_put; split <;> simp
theorem mq_put_lt {d : List Nat} (h : ∀ x ∈ d, x < 256) {k : Int} {v : Nat} (hv : v < 256) : ∀ x ∈ mq_put d k v, x < 256 := by
  unfold mq_put
  split
  · intro x hx
    rcases List.mem_or_eq_of_mem_set hx with h1 | h1
    · exact h x h1
    · omega
  · exact h
abbrev mq_ri (M : mq_M) (x : Int) : Option Value → mq_M → Prop := mq_pi (fun r M2 => r = x ∧ M = M2)
/-- a word: two bytes -/
def mq_wd (d : List Nat) (k : Int) : Nat := mq_gd d k * 256 + mq_gd d (k + 1)
theorem mq_put_none {d : List Nat} {k : Int} {v : Nat} (h : k < 0 ∨ (d.length : Int) ≤ k) : mq_put d k v = d := by
  unfold mq_put
  split
  · exact List.set_eq_of_length_le (by omega)
  · rfl
theorem mq_put_upd {d : List Nat} {k : Int} {v : Nat} {f : Nat → Int32} (hk : 0 ≤ k) (h : ∀ i : Nat, i < d.length → f i = zI (d.getD i 0 : Int)) (i : Nat) (hi : i < d.length) : upd f k.toNat (zI (v : Int)) i = zI ((mq_put d k v).getD i 0 : Int) := by
  unfold mq_put upd
  rw [if_pos hk]
  by_cases hik : i = k.toNat
  · subst hik
    simp [List.getD_eq_getElem?_getD, hi]
  · rw [if_neg hik, h i hi]
    simp [List.getD_eq_getElem?_getD, List.getElem?_set_ne (Ne.symm hik)]
theorem mq_add_upd {d : List Nat} {v : Nat} {f : Nat → Int32} (h : ∀ i : Nat, i < d.length → f i = zI (d.getD i 0 : Int)) (i : Nat) (hi : i < (d ++ [v]).length) : upd f d.length (zI (v : Int)) i = zI ((d ++ [v]).getD i 0 : Int) := by
  unfold upd
  rw [List.length_append, List.length_singleton] at hi
  by_cases hik : i = d.length
  · subst hik
    simp [List.getD_eq_getElem?_getD]
  · rw [if_neg hik, h i (by omega)]
    simp [List.getD_eq_getElem?_getD, List.getElem?_append_left (show i < d.length by omega)]
/-- a part of a row -/
def mq_part (d : List Nat) (k : Int) (t : Nat) : List Nat := (List.range t).map (fun i : Nat => mq_gd d (k + (i : Int)))
theorem mq_part_s (d : List Nat) (k : Int) (t : Nat) : mq_part d k (t + 1) = mq_part d k t ++ [mq_gd d (k + (t : Int))] := by
  simp [mq_part, List.range_succ]
theorem mq_part_len (d : List Nat) (k : Int) (t : Nat) : (mq_part d k t).length = t := by simp [mq_part]
theorem mq_part_all (d : List Nat) : mq_part d 0 d.length = d := by
  apply List.ext_getElem
  · simp [mq_part]
  · intro i h1 h2
    simp [mq_part, mq_gd_nat, List.getD_eq_getElem?_getD, h2]
theorem mq_same {d d2 : List Nat} (h : d.length = d2.length) (hs : ∀ j, j < d.length → d.getD j 0 = d2.getD j 0) : d = d2 := by
  apply List.ext_getElem h
  intro i h1 h2
  have := hs i h1
  simpa [List.getD_eq_getElem?_getD, h1, h2] using this
end
section
set_option maxHeartbeats 4000000 in
set_option maxRecDepth 100000 in
theorem c_size (l : Launch) (G : mq_G) (b a n : Nat) (d : List Nat) (M : mq_M) (hB : bI G M b a n d) : mq_T l yX0_size wsX0_size { frames := 0, cells := 0, slots := 0, locals := 0 } G [.ref b] M (mq_ri M (d.length : Int)) 0 0 := by
  refine mq_Met.of (cc := cX0_size) (maxL := 1) (ret := (some .int)) (by decide) rfl (Nat.le_of_ble_eq_true rfl) rfl rfl ?_
  intro p e s m args below meth c z C hr hlk hname
  obtain ⟨h1, h2, h3, h4, h5, f, h6, h7⟩ := hB
  refine xr_aload_n C dX0_size_0 rfl ?_
  refine xr_get C (Cn := RX0) (T := TX0) (N := 2) (by decide +kernel) h1 rfl 1 (by decide) (C.1.2.2.2.2 (.fieldLink RX0 13 "OssuaryVault$Bytes" "size" "I") (by decide +kernel)) (fun _ h => h) rfl dX0_size_1 ?_
  exact xr_iret C hr hlk ⟨_, rfl, rfl, rfl⟩ (by omega) (by omega) dX0_size_4
set_option maxHeartbeats 4000000 in
set_option maxRecDepth 100000 in
theorem c_at (l : Launch) (G : mq_G) (b a n : Nat) (d : List Nat) (M : mq_M) (hB : bI G M b a n d) (k : Int) (hk : -2147483648 ≤ k ∧ k < 2147483648) : mq_T l yX0_at wsX0_at { frames := 0, cells := 0, slots := 0, locals := 0 } G [.ref b, .int (zI k)] M (mq_ri M (mq_gd d k : Int)) 0 0 := by
  refine mq_Met.of (cc := cX0_at) (maxL := 2) (ret := (some .int)) (by decide) rfl (Nat.le_of_ble_eq_true rfl) rfl rfl ?_
  intro p e s m args below meth c z C hr hlk hname
  obtain ⟨h1, h2, h3, h4, h5, f, h6, h7⟩ := hB
  refine xr_iload_n C dX0_at_0 rfl ?_
  refine xr_if_lt C dX0_at_1 rfl (by omega) (fun hq1 => ?_) (fun hq1 => ?_)
  · refine xr_iconst (n := 0) C dX0_at_30 (by decide +kernel) ?_
    exact xr_iret C hr hlk ⟨_, rfl, by simp [mq_gd, show ¬ 0 ≤ k by omega], rfl⟩ (by omega) (by omega) dX0_at_31
  · refine xr_iload_n C dX0_at_4 rfl ?_
    refine xr_aload_n C dX0_at_5 rfl ?_
    refine xr_get C (Cn := RX0) (T := TX0) (N := 2) (by decide +kernel) h1 rfl 1 (by decide) (C.1.2.2.2.2 (.fieldLink RX0 13 "OssuaryVault$Bytes" "size" "I") (by decide +kernel)) (fun _ h => h) rfl dX0_at_6 ?_
    refine xr_icmp_ge C dX0_at_9 rfl (by omega) (by omega) (fun hq2 => ?_) (fun hq2 => ?_)
    · refine xr_iconst (n := 0) C dX0_at_30 (by decide +kernel) ?_
      exact xr_iret C hr hlk ⟨_, rfl, by rw [show k = (k.toNat : Int) by omega, mq_gd_nat, List.getD_eq_getElem?_getD, List.getElem?_eq_none (by omega)]; rfl, rfl⟩ (by omega) (by omega) dX0_at_31
    · refine xr_iload_n C dX0_at_12 rfl ?_
      refine xr_aload_n C dX0_at_13 rfl ?_
      refine xr_get C (Cn := RX0) (T := TX0) (N := 2) (by decide +kernel) h1 rfl 0 (by decide) (C.1.2.2.2.2 (.fieldLink RX0 7 "OssuaryVault$Bytes" "cells" "[I") (by decide +kernel)) (fun _ h => h) rfl dX0_at_14 ?_
      refine xr_alen C h6 mq_tI dX0_at_17 ?_
      refine xr_icmp_ge C dX0_at_18 rfl (by omega) (by omega) (fun hq => absurd hq (by omega)) (fun _ => ?_)
      refine xr_aload_n C dX0_at_21 rfl ?_
      refine xr_get C (Cn := RX0) (T := TX0) (N := 2) (by decide +kernel) h1 rfl 0 (by decide) (C.1.2.2.2.2 (.fieldLink RX0 7 "OssuaryVault$Bytes" "cells" "[I") (by decide +kernel)) (fun _ h => h) rfl dX0_at_22 ?_
      refine xr_iload_n C dX0_at_25 rfl ?_
      refine xr_iald C h6 mq_tI (by omega) (by omega) (by omega) dX0_at_26 ?_
      rw [h7 k.toNat (by omega)]
      refine xr_goto C dX0_at_27 rfl ?_
      exact xr_iret C hr hlk ⟨_, rfl, by simp [mq_gd, show 0 ≤ k by omega], rfl⟩ (by omega) (by omega) dX0_at_31
set_option maxHeartbeats 4000000 in
set_option maxRecDepth 100000 in
theorem c_word (l : Launch) (G : mq_G) (b a n : Nat) (d : List Nat) (M : mq_M) (hB : bI G M b a n d) (k : Int) (hk : -2147483648 ≤ k ∧ k < 2147483647) : mq_T l yX0_word wsX0_word { frames := 1, cells := 0, slots := 0, locals := 21 } G [.ref b, .int (zI k)] M (mq_ri M (mq_wd d k : Int)) 0 0 := by
  refine mq_Met.of (cc := cX0_word) (maxL := 2) (ret := (some .int)) (by decide) rfl (Nat.le_of_ble_eq_true rfl) rfl rfl ?_
  intro p e s m args below meth c z C hr hlk hname
  refine xr_aload_n C dX0_word_0 rfl ?_
  refine xr_iload_n C dX0_word_1 rfl ?_
  refine xr_callV1i C (c_at l G b a n d M hB k (by omega)) (cwV 1 C.1.2.2.2.2 gX0_word_X0_at rfl rfl rfl (by decide +kernel) ⟨Nat.le_of_ble_eq_true rfl, Nat.le_of_ble_eq_true rfl⟩) hB.1 rfl (Nat.le_of_ble_eq_true rfl) ⟨by dsimp only; omega, by dsimp only; omega⟩ dX0_word_2 (fun r1 M9 hp9 => ?_)
  obtain ⟨rfl, rfl⟩ := hp9
  refine xr_sipush (n := 256) C dX0_word_5 (by decide +kernel) ?_
  refine xr_imul C dX0_word_8 ?_
  refine xr_aload_n C dX0_word_9 rfl ?_
  refine xr_iload_n C dX0_word_10 rfl ?_
  refine xr_iconst (n := 1) C dX0_word_11 (by decide +kernel) ?_
  refine xr_iadd C dX0_word_12 ?_
  refine xr_callV1i C (c_at l G b a n d M hB (k + 1) (by omega)) (cwV 1 C.1.2.2.2.2 gX0_word_X0_at rfl rfl rfl (by decide +kernel) ⟨Nat.le_of_ble_eq_true rfl, Nat.le_of_ble_eq_true rfl⟩) hB.1 rfl (Nat.le_of_ble_eq_true rfl) ⟨by dsimp only; omega, by dsimp only; omega⟩ dX0_word_13 (fun r2 M9 hp9 => ?_)
  obtain ⟨rfl, rfl⟩ := hp9
  refine xr_iadd C dX0_word_16 ?_
  exact xr_iret C hr hlk ⟨_, rfl, by simp [mq_wd], rfl⟩ (by omega) (by omega) dX0_word_17
set_option maxHeartbeats 4000000 in
set_option maxRecDepth 100000 in
theorem c_put (l : Launch) (G : mq_G) (b a n : Nat) (d : List Nat) (M : mq_M) (hB : bI G M b a n d) (k : Int) (hk : -2147483648 ≤ k ∧ k < 2147483648) (v : Nat) (hv : v < 256) : mq_T l yX0_put wsX0_put { frames := 0, cells := 0, slots := 0, locals := 0 } G [.ref b, .int (zI k), .int (zI (v : Int))] M (mq_pv (fun M2 => bI G M2 b a n (mq_put d k v) ∧ mq_F [a] M M2)) 0 0 := by
  refine mq_Met.of (cc := cX0_put) (maxL := 3) (ret := none) (by decide) rfl (Nat.le_of_ble_eq_true rfl) rfl rfl ?_
  intro p e s m args below meth c z C hr hlk hname
  obtain ⟨h1, h2, h3, h4, h5, f, h6, h7⟩ := hB
  refine xr_iload_n C dX0_put_0 rfl ?_
  refine xr_if_lt C dX0_put_1 rfl (by omega) (fun hq1 => ?_) (fun hq1 => ?_)
  · exact xr_vret C hr hlk ⟨rfl, ⟨by rw [mq_put_len]; exact h1, h2, by rw [mq_put_len]; exact h3, h4, mq_put_lt h5 hv, f, h6, fun i hi => by rw [mq_put_none (by omega)]; exact h7 i (by rw [mq_put_len] at hi; exact hi)⟩, mq_F.rf⟩ (by omega) (by omega) dX0_put_28
  · refine xr_iload_n C dX0_put_4 rfl ?_
    refine xr_aload_n C dX0_put_5 rfl ?_
    refine xr_get C (Cn := RX0) (T := TX0) (N := 2) (by decide +kernel) h1 rfl 1 (by decide) (C.1.2.2.2.2 (.fieldLink RX0 13 "OssuaryVault$Bytes" "size" "I") (by decide +kernel)) (fun _ h => h) rfl dX0_put_6 ?_
    refine xr_icmp_ge C dX0_put_9 rfl (by omega) (by omega) (fun hq2 => ?_) (fun hq2 => ?_)
    · exact xr_vret C hr hlk ⟨rfl, ⟨by rw [mq_put_len]; exact h1, h2, by rw [mq_put_len]; exact h3, h4, mq_put_lt h5 hv, f, h6, fun i hi => by rw [mq_put_none (by omega)]; exact h7 i (by rw [mq_put_len] at hi; exact hi)⟩, mq_F.rf⟩ (by omega) (by omega) dX0_put_28
    · refine xr_iload_n C dX0_put_12 rfl ?_
      refine xr_aload_n C dX0_put_13 rfl ?_
      refine xr_get C (Cn := RX0) (T := TX0) (N := 2) (by decide +kernel) h1 rfl 0 (by decide) (C.1.2.2.2.2 (.fieldLink RX0 7 "OssuaryVault$Bytes" "cells" "[I") (by decide +kernel)) (fun _ h => h) rfl dX0_put_14 ?_
      refine xr_alen C h6 mq_tI dX0_put_17 ?_
      refine xr_icmp_ge C dX0_put_18 rfl (by omega) (by omega) (fun hq => absurd hq (by omega)) (fun _ => ?_)
      refine xr_aload_n C dX0_put_21 rfl ?_
      refine xr_get C (Cn := RX0) (T := TX0) (N := 2) (by decide +kernel) h1 rfl 0 (by decide) (C.1.2.2.2.2 (.fieldLink RX0 7 "OssuaryVault$Bytes" "cells" "[I") (by decide +kernel)) (fun _ h => h) rfl dX0_put_22 ?_
      refine xr_iload_n C dX0_put_25 rfl ?_
      refine xr_iload_n C dX0_put_26 rfl ?_
      refine xr_iast C h6 mq_tI (by omega) (by omega) (by omega) dX0_put_27 ?_
      refine mq_ren (fun M1 hM1 => ?_)
      exact xr_vret C hr hlk ⟨rfl, ⟨by rw [hM1, mq_up_n h2, mq_put_len]; exact h1, h2, by rw [mq_put_len]; exact h3, h4, mq_put_lt h5 hv, upd f k.toNat (zI (v : Int)), by rw [hM1]; exact mq_up_s, fun i hi => by
            rw [mq_put_len] at hi
            exact mq_put_upd (by omega) h7 i hi⟩, mq_F.up hM1 List.mem_cons_self⟩ (by omega) (by omega) dX0_put_28
set_option maxHeartbeats 4000000 in
set_option maxRecDepth 100000 in
theorem c_putWord (l : Launch) (G : mq_G) (b a n : Nat) (d : List Nat) (M : mq_M) (hB : bI G M b a n d) (k : Int) (hk : -2147483648 ≤ k ∧ k < 2147483647) (v : Nat) (hv : v < 65536) : mq_T l yX0_putWord wsX0_putWord { frames := 1, cells := 0, slots := 0, locals := 22 } G [.ref b, .int (zI k), .int (zI (v : Int))] M (mq_pv (fun M2 => bI G M2 b a n (mq_put (mq_put d k (v / 256)) (k + 1) (v % 256)) ∧ mq_F [a] M M2)) 0 0 := by
  refine mq_Met.of (cc := cX0_putWord) (maxL := 3) (ret := none) (by decide) rfl (Nat.le_of_ble_eq_true rfl) rfl rfl ?_
  intro p e s m args below meth c z C hr hlk hname
  refine xr_aload_n C dX0_putWord_0 rfl ?_
  refine xr_iload_n C dX0_putWord_1 rfl ?_
  refine xr_iload_n C dX0_putWord_2 rfl ?_
  refine xr_sipush (n := 256) C dX0_putWord_3 (by decide +kernel) ?_
  refine xr_idiv C dX0_putWord_6 (by omega) (by omega) ?_
  refine xr_callV2v C (c_put l G b a n d M hB k (by omega) (v / 256) (by omega)) (cwV 2 C.1.2.2.2.2 gX0_putWord_X0_put rfl rfl rfl (by decide +kernel) ⟨Nat.le_of_ble_eq_true rfl, Nat.le_of_ble_eq_true rfl⟩) hB.1 rfl (Nat.le_of_ble_eq_true rfl) ⟨by dsimp only; omega, by dsimp only; omega⟩ dX0_putWord_7 (fun M1 hp1 => ?_)
  obtain ⟨hB1, hF1⟩ := hp1
  refine xr_aload_n C dX0_putWord_10 rfl ?_
  refine xr_iload_n C dX0_putWord_11 rfl ?_
  refine xr_iconst (n := 1) C dX0_putWord_12 (by decide +kernel) ?_
  refine xr_iadd C dX0_putWord_13 ?_
  refine xr_iload_n C dX0_putWord_14 rfl ?_
  refine xr_sipush (n := 256) C dX0_putWord_15 (by decide +kernel) ?_
  refine xr_irem C dX0_putWord_18 (by omega) (by omega) ?_
  refine xr_callV2v C (c_put l G b a n _ M1 hB1 (k + 1) (by omega) (v % 256) (by omega)) (cwV 2 C.1.2.2.2.2 gX0_putWord_X0_put rfl rfl rfl (by decide +kernel) ⟨Nat.le_of_ble_eq_true rfl, Nat.le_of_ble_eq_true rfl⟩) hB1.1 rfl (Nat.le_of_ble_eq_true rfl) ⟨by dsimp only; omega, by dsimp only; omega⟩ dX0_putWord_19 (fun M2 hp2 => ?_)
  obtain ⟨hB2, hF2⟩ := hp2
  exact xr_vret C hr hlk ⟨rfl, hB2, hF1.tr hF2⟩ (by omega) (by omega) dX0_putWord_22
set_option maxHeartbeats 4000000 in
set_option maxRecDepth 100000 in
theorem c_add (l : Launch) (G : mq_G) (b a n : Nat) (d : List Nat) (M : mq_M) (hB : bI G M b a n d) (v : Nat) (hv : v < 256) (hroom : d.length < n) : mq_T l yX0_add wsX0_add { frames := 0, cells := 0, slots := 0, locals := 0 } G [.ref b, .int (zI (v : Int))] M (mq_pv (fun M2 => bI G M2 b a n (d ++ [v]) ∧ mq_F [b, a] M M2)) 0 0 := by
  refine mq_Met.of (cc := cX0_add) (maxL := 2) (ret := none) (by decide) rfl (Nat.le_of_ble_eq_true rfl) rfl rfl ?_
  intro p e s m args below meth c z C hr hlk hname
  obtain ⟨h1, h2, h3, h4, h5, f, h6, h7⟩ := hB
  refine xr_aload_n C dX0_add_0 rfl ?_
  refine xr_get C (Cn := RX0) (T := TX0) (N := 2) (by decide +kernel) h1 rfl 1 (by decide) (C.1.2.2.2.2 (.fieldLink RX0 13 "OssuaryVault$Bytes" "size" "I") (by decide +kernel)) (fun _ h => h) rfl dX0_add_1 ?_
  refine xr_if_lt C dX0_add_4 rfl (by omega) (fun hq => absurd hq (by omega)) (fun _ => ?_)
  refine xr_aload_n C dX0_add_7 rfl ?_
  refine xr_get C (Cn := RX0) (T := TX0) (N := 2) (by decide +kernel) h1 rfl 1 (by decide) (C.1.2.2.2.2 (.fieldLink RX0 13 "OssuaryVault$Bytes" "size" "I") (by decide +kernel)) (fun _ h => h) rfl dX0_add_8 ?_
  refine xr_aload_n C dX0_add_11 rfl ?_
  refine xr_get C (Cn := RX0) (T := TX0) (N := 2) (by decide +kernel) h1 rfl 0 (by decide) (C.1.2.2.2.2 (.fieldLink RX0 7 "OssuaryVault$Bytes" "cells" "[I") (by decide +kernel)) (fun _ h => h) rfl dX0_add_12 ?_
  refine xr_alen C h6 mq_tI dX0_add_15 ?_
  refine xr_icmp_ge C dX0_add_16 rfl (by omega) (by omega) (fun hq => absurd hq (by omega)) (fun _ => ?_)
  refine xr_aload_n C dX0_add_19 rfl ?_
  refine xr_get C (Cn := RX0) (T := TX0) (N := 2) (by decide +kernel) h1 rfl 0 (by decide) (C.1.2.2.2.2 (.fieldLink RX0 7 "OssuaryVault$Bytes" "cells" "[I") (by decide +kernel)) (fun _ h => h) rfl dX0_add_20 ?_
  refine xr_aload_n C dX0_add_23 rfl ?_
  refine xr_get C (Cn := RX0) (T := TX0) (N := 2) (by decide +kernel) h1 rfl 1 (by decide) (C.1.2.2.2.2 (.fieldLink RX0 13 "OssuaryVault$Bytes" "size" "I") (by decide +kernel)) (fun _ h => h) rfl dX0_add_24 ?_
  refine xr_iload_n C dX0_add_27 rfl ?_
  refine xr_iast C h6 mq_tI (by omega) (by omega) (by omega) dX0_add_28 ?_
  refine mq_ren (fun M1 hM1 => ?_)
  have h8 : M1 b = some (.inr (0, [.ref a, .int (zI (d.length : Int))])) := by rw [hM1, mq_up_n h2]; exact h1
  refine xr_aload_n C dX0_add_29 rfl ?_
  refine xr_dup C dX0_add_30 rfl ?_
  refine xr_get C (Cn := RX0) (T := TX0) (N := 2) (by decide +kernel) h8 rfl 1 (by decide) (C.1.2.2.2.2 (.fieldLink RX0 13 "OssuaryVault$Bytes" "size" "I") (by decide +kernel)) (fun _ h => h) rfl dX0_add_31 ?_
  refine xr_iconst (n := 1) C dX0_add_34 (by decide +kernel) ?_
  refine xr_iadd C dX0_add_35 ?_
  refine xr_put C (Cn := RX0) (T := TX0) (N := 2) (by decide +kernel) h8 rfl 1 (by decide) tyX0 tyX0_ok nmX0 (C.1.2.2.2.2 (.fieldLink RX0 13 "OssuaryVault$Bytes" "size" "I") (by decide +kernel)) (fun _ h => h) rfl (tyX0_ok 1 (by decide)) rfl rfl (Nat.le_of_ble_eq_true rfl) dX0_add_36 ?_
  refine mq_ren (fun M2 hM2 => ?_)
  exact xr_vret C hr hlk ⟨rfl, ⟨by rw [hM2, mq_up_s]; simp, h2, by simp; omega, h4, fun x hx => by
        rcases List.mem_append.mp hx with h9 | h9
        · exact h5 x h9
        · rw [List.mem_singleton.mp h9]; exact hv, upd f d.length (zI (v : Int)), by rw [hM2, mq_up_n (Ne.symm h2), hM1]; exact mq_up_s, mq_add_upd h7⟩, (mq_F.up hM1 (by simp)).tr (mq_F.up hM2 (by simp))⟩ (by omega) (by omega) dX0_add_39
set_option maxHeartbeats 4000000 in
set_option maxRecDepth 100000 in
theorem c_addWord (l : Launch) (G : mq_G) (b a n : Nat) (d : List Nat) (M : mq_M) (hB : bI G M b a n d) (v : Nat) (hv : v < 65536) (hroom : d.length + 1 < n) : mq_T l yX0_addWord wsX0_addWord { frames := 1, cells := 0, slots := 0, locals := 21 } G [.ref b, .int (zI (v : Int))] M (mq_pv (fun M2 => bI G M2 b a n (d ++ [v / 256, v % 256]) ∧ mq_F [b, a] M M2)) 0 0 := by
  refine mq_Met.of (cc := cX0_addWord) (maxL := 2) (ret := none) (by decide) rfl (Nat.le_of_ble_eq_true rfl) rfl rfl ?_
  intro p e s m args below meth c z C hr hlk hname
  refine xr_aload_n C dX0_addWord_0 rfl ?_
  refine xr_iload_n C dX0_addWord_1 rfl ?_
  refine xr_sipush (n := 256) C dX0_addWord_2 (by decide +kernel) ?_
  refine xr_idiv C dX0_addWord_5 (by omega) (by omega) ?_
  refine xr_callV1v C (c_add l G b a n d M hB (v / 256) (by omega) (by omega)) (cwV 1 C.1.2.2.2.2 gX0_addWord_X0_add rfl rfl rfl (by decide +kernel) ⟨Nat.le_of_ble_eq_true rfl, Nat.le_of_ble_eq_true rfl⟩) hB.1 rfl (Nat.le_of_ble_eq_true rfl) ⟨by dsimp only; omega, by dsimp only; omega⟩ dX0_addWord_6 (fun M1 hp1 => ?_)
  obtain ⟨hB1, hF1⟩ := hp1
  refine xr_aload_n C dX0_addWord_9 rfl ?_
  refine xr_iload_n C dX0_addWord_10 rfl ?_
  refine xr_sipush (n := 256) C dX0_addWord_11 (by decide +kernel) ?_
  refine xr_irem C dX0_addWord_14 (by omega) (by omega) ?_
  refine xr_callV1v C (c_add l G b a n _ M1 hB1 (v % 256) (by omega) (by simp; omega)) (cwV 1 C.1.2.2.2.2 gX0_addWord_X0_add rfl rfl rfl (by decide +kernel) ⟨Nat.le_of_ble_eq_true rfl, Nat.le_of_ble_eq_true rfl⟩) hB1.1 rfl (Nat.le_of_ble_eq_true rfl) ⟨by dsimp only; omega, by dsimp only; omega⟩ dX0_addWord_15 (fun M2 hp2 => ?_)
  obtain ⟨hB2, hF2⟩ := hp2
  exact xr_vret C hr hlk ⟨rfl, by simpa using hB2, hF1.tr hF2⟩ (by omega) (by omega) dX0_addWord_18
set_option maxHeartbeats 4000000 in
set_option maxRecDepth 100000 in
theorem c_clear (l : Launch) (G : mq_G) (b a n : Nat) (d : List Nat) (M : mq_M) (hB : bI G M b a n d) : mq_T l yX0_clear wsX0_clear { frames := 0, cells := 0, slots := 0, locals := 0 } G [.ref b] M (mq_pv (fun M2 => bI G M2 b a n [] ∧ mq_F [b] M M2)) 0 0 := by
  refine mq_Met.of (cc := cX0_clear) (maxL := 1) (ret := none) (by decide) rfl (Nat.le_of_ble_eq_true rfl) rfl rfl ?_
  intro p e s m args below meth c z C hr hlk hname
  obtain ⟨h1, h2, h3, h4, h5, f, h6, h7⟩ := hB
  refine xr_aload_n C dX0_clear_0 rfl ?_
  refine xr_iconst (n := 0) C dX0_clear_1 (by decide +kernel) ?_
  refine xr_put C (Cn := RX0) (T := TX0) (N := 2) (by decide +kernel) h1 rfl 1 (by decide) tyX0 tyX0_ok nmX0 (C.1.2.2.2.2 (.fieldLink RX0 13 "OssuaryVault$Bytes" "size" "I") (by decide +kernel)) (fun _ h => h) rfl (tyX0_ok 1 (by decide)) rfl rfl (Nat.le_of_ble_eq_true rfl) dX0_clear_2 ?_
  refine mq_ren (fun M1 hM1 => ?_)
  exact xr_vret C hr hlk ⟨rfl, ⟨by rw [hM1, mq_up_s]; rfl, h2, Nat.zero_le _, h4, (fun x hx => by cases hx), f, by rw [hM1, mq_up_n (Ne.symm h2)]; exact h6, fun i hi => by cases hi⟩, mq_F.up hM1 List.mem_cons_self⟩ (by omega) (by omega) dX0_clear_5
set_option maxHeartbeats 4000000 in
set_option maxRecDepth 100000 in
theorem c_shorten (l : Launch) (G : mq_G) (b a n : Nat) (d : List Nat) (M : mq_M) (hB : bI G M b a n d) (k : Nat) (hk : k ≤ d.length) : mq_T l yX0_shorten wsX0_shorten { frames := 0, cells := 0, slots := 0, locals := 0 } G [.ref b, .int (zI (k : Int))] M (mq_pv (fun M2 => bI G M2 b a n (d.take k) ∧ mq_F [b] M M2)) 0 0 := by
  refine mq_Met.of (cc := cX0_shorten) (maxL := 2) (ret := none) (by decide) rfl (Nat.le_of_ble_eq_true rfl) rfl rfl ?_
  intro p e s m args below meth c z C hr hlk hname
  obtain ⟨h1, h2, h3, h4, h5, f, h6, h7⟩ := hB
  refine xr_iload_n C dX0_shorten_0 rfl ?_
  refine xr_if_lt C dX0_shorten_1 rfl (by omega) (fun hq => absurd hq (by omega)) (fun _ => ?_)
  refine xr_iload_n C dX0_shorten_4 rfl ?_
  refine xr_aload_n C dX0_shorten_5 rfl ?_
  refine xr_get C (Cn := RX0) (T := TX0) (N := 2) (by decide +kernel) h1 rfl 1 (by decide) (C.1.2.2.2.2 (.fieldLink RX0 13 "OssuaryVault$Bytes" "size" "I") (by decide +kernel)) (fun _ h => h) rfl dX0_shorten_6 ?_
  refine xr_icmp_ge C dX0_shorten_9 rfl (by omega) (by omega) (fun hq1 => ?_) (fun hq1 => ?_)
  · exact xr_vret C hr hlk ⟨rfl, by rw [List.take_of_length_le (by omega)]; exact ⟨h1, h2, h3, h4, h5, f, h6, h7⟩, mq_F.rf⟩ (by omega) (by omega) dX0_shorten_17
  · refine xr_aload_n C dX0_shorten_12 rfl ?_
    refine xr_iload_n C dX0_shorten_13 rfl ?_
    refine xr_put C (Cn := RX0) (T := TX0) (N := 2) (by decide +kernel) h1 rfl 1 (by decide) tyX0 tyX0_ok nmX0 (C.1.2.2.2.2 (.fieldLink RX0 13 "OssuaryVault$Bytes" "size" "I") (by decide +kernel)) (fun _ h => h) rfl (tyX0_ok 1 (by decide)) rfl rfl (Nat.le_of_ble_eq_true rfl) dX0_shorten_14 ?_
    refine mq_ren (fun M2 hM2 => ?_)
    exact xr_vret C hr hlk ⟨rfl, ⟨by rw [hM2, mq_up_s, List.length_take, Nat.min_eq_left hk]; rfl, h2, by rw [List.length_take]; omega, h4, fun x hx => h5 x (List.mem_of_mem_take hx), f, by rw [hM2, mq_up_n (Ne.symm h2)]; exact h6, fun i hi => by
          rw [List.length_take] at hi
          rw [h7 i (by omega), List.getD_eq_getElem?_getD, List.getD_eq_getElem?_getD, List.getElem?_take_of_lt (by omega)]⟩, mq_F.up hM2 List.mem_cons_self⟩ (by omega) (by omega) dX0_shorten_17
set_option maxHeartbeats 4000000 in
set_option maxRecDepth 100000 in
theorem c_addTimes (l : Launch) (G : mq_G) (b a n : Nat) (d : List Nat) (M : mq_M) (hB : bI G M b a n d) (v : Nat) (hv : v < 256) (t : Nat) (hroom : d.length + t ≤ n) : mq_T l yX0_addTimes wsX0_addTimes { frames := 1, cells := 0, slots := 0, locals := 21 } G [.ref b, .int (zI (v : Int)), .int (zI (t : Int))] M (mq_pv (fun M2 => bI G M2 b a n (d ++ List.replicate t v) ∧ mq_F [b, a] M M2)) 0 0 := by
  refine mq_Met.of (cc := cX0_addTimes) (maxL := 4) (ret := none) (by decide) rfl (Nat.le_of_ble_eq_true rfl) rfl rfl ?_
  intro p e s m args below meth c z C hr hlk hname
  have hn : n ≤ 50000 := hB.2.2.2.1
  refine xr_iconst (n := 0) C dX0_addTimes_0 (by decide +kernel) ?_
  refine xr_istore_n C dX0_addTimes_1 (by decide) rfl ?_
  refine mq_loop (σ := Nat × mq_M) (fun x => x.1 ≤ t ∧ bI G x.2 b a n (d ++ List.replicate x.1 v) ∧ mq_F [b, a] M x.2) (fun x => t - x.1) (fun x => x.2) (fun x => [some (.ref b), some (.int (zI (v : Int))), some (.int (zI (t : Int))), some (.int (zI (x.1 : Int)))]) (fun x => []) ?_ (0, M) ⟨Nat.zero_le _, by simpa using hB, mq_F.rf⟩
  rintro ⟨i, M0⟩ ⟨hi, hB0, hF0⟩ ih
  dsimp only at hi hB0 hF0 ih ⊢
  refine xr_iload_n C dX0_addTimes_2 rfl ?_
  refine xr_iload_n C dX0_addTimes_3 rfl ?_
  refine xr_icmp_ge C dX0_addTimes_4 rfl (by omega) (by omega) (fun hq1 => ?_) (fun hq1 => ?_)
  · exact xr_vret C hr hlk ⟨rfl, by rw [show t = i by omega]; exact hB0, hF0⟩ (by omega) (by omega) dX0_addTimes_18
  · refine xr_aload_n C dX0_addTimes_7 rfl ?_
    refine xr_iload_n C dX0_addTimes_8 rfl ?_
    refine xr_callV1v C (c_add l G b a n _ M0 hB0 v hv (by simp; omega)) (cwV 1 C.1.2.2.2.2 gX0_addTimes_X0_add rfl rfl rfl (by decide +kernel) ⟨Nat.le_of_ble_eq_true rfl, Nat.le_of_ble_eq_true rfl⟩) hB0.1 rfl (Nat.le_of_ble_eq_true rfl) ⟨by dsimp only; omega, by dsimp only; omega⟩ dX0_addTimes_9 (fun M1 hp1 => ?_)
    obtain ⟨hB1, hF1⟩ := hp1
    refine xr_iinc C dX0_addTimes_12 rfl (by decide) rfl ?_
    refine xr_goto C dX0_addTimes_15 rfl ?_
    exact ih (i + 1, M1) ⟨by dsimp only; omega, by rw [List.replicate_succ', ← List.append_assoc]; exact hB1, hF0.tr hF1⟩ (by dsimp only; omega)
set_option maxHeartbeats 4000000 in
set_option maxRecDepth 100000 in
theorem c_addPart (l : Launch) (G : mq_G) (b a n : Nat) (d : List Nat) (M : mq_M) (hB : bI G M b a n d) (b2 a2 n2 : Nat) (d2 : List Nat) (hB2 : bI G M b2 a2 n2 d2) (hx : b2 ≠ b ∧ b2 ≠ a ∧ a2 ≠ b ∧ a2 ≠ a) (k : Int) (t : Nat) (hk : -100000 ≤ k ∧ k < 1000000) (hroom : d.length + t ≤ n) : mq_T l yX0_addPart wsX0_addPart { frames := 1, cells := 0, slots := 0, locals := 21 } G [.ref b, .ref b2, .int (zI k), .int (zI (t : Int))] M (mq_pv (fun M2 => bI G M2 b a n (d ++ mq_part d2 k t) ∧ mq_F [b, a] M M2)) 0 0 := by
  refine mq_Met.of (cc := cX0_addPart) (maxL := 5) (ret := none) (by decide) rfl (Nat.le_of_ble_eq_true rfl) rfl rfl ?_
  intro p e s m args below meth c z C hr hlk hname
  have hn : n ≤ 50000 := hB.2.2.2.1
  refine xr_iconst (n := 0) C dX0_addPart_0 (by decide +kernel) ?_
  refine xr_istore C dX0_addPart_1 (by decide) rfl ?_
  refine mq_loop (σ := Nat × mq_M) (fun x => x.1 ≤ t ∧ bI G x.2 b a n (d ++ mq_part d2 k x.1) ∧ mq_F [b, a] M x.2) (fun x => t - x.1) (fun x => x.2) (fun x => [some (.ref b), some (.ref b2), some (.int (zI k)), some (.int (zI (t : Int))), some (.int (zI (x.1 : Int)))]) (fun x => []) ?_ (0, M) ⟨Nat.zero_le _, by simpa [mq_part] using hB, mq_F.rf⟩
  rintro ⟨i, M0⟩ ⟨hi, hB0, hF0⟩ ih
  dsimp only at hi hB0 hF0 ih ⊢
  have hB3 : bI G M0 b2 a2 n2 d2 := hB2.fr hF0 (by simp [hx]) (by simp [hx])
  refine xr_iload C dX0_addPart_3 rfl ?_
  refine xr_iload_n C dX0_addPart_5 rfl ?_
  refine xr_icmp_ge C dX0_addPart_6 rfl (by omega) (by omega) (fun hq1 => ?_) (fun hq1 => ?_)
  · exact xr_vret C hr hlk ⟨rfl, by rw [show t = i by omega]; exact hB0, hF0⟩ (by omega) (by omega) dX0_addPart_27
  · refine xr_aload_n C dX0_addPart_9 rfl ?_
    refine xr_aload_n C dX0_addPart_10 rfl ?_
    refine xr_iload_n C dX0_addPart_11 rfl ?_
    refine xr_iload C dX0_addPart_12 rfl ?_
    refine xr_iadd C dX0_addPart_14 ?_
    refine xr_callV1i C (c_at l G b2 a2 n2 d2 M0 hB3 (k + (i : Int)) (by omega)) (cwV 1 C.1.2.2.2.2 gX0_addPart_X0_at rfl rfl rfl (by decide +kernel) ⟨Nat.le_of_ble_eq_true rfl, Nat.le_of_ble_eq_true rfl⟩) hB3.1 rfl (Nat.le_of_ble_eq_true rfl) ⟨by dsimp only; omega, by dsimp only; omega⟩ dX0_addPart_15 (fun r2 M9 hp9 => ?_)
    obtain ⟨rfl, rfl⟩ := hp9
    refine xr_callV1v C (c_add l G b a n _ M0 hB0 (mq_gd d2 (k + (i : Int))) (mq_gd_lt hB3.2.2.2.2.1 _) (by simp [mq_part]; omega)) (cwV 1 C.1.2.2.2.2 gX0_addPart_X0_add rfl rfl rfl (by decide +kernel) ⟨Nat.le_of_ble_eq_true rfl, Nat.le_of_ble_eq_true rfl⟩) hB0.1 rfl (Nat.le_of_ble_eq_true rfl) ⟨by dsimp only; omega, by dsimp only; omega⟩ dX0_addPart_18 (fun M1 hp1 => ?_)
    obtain ⟨hB1, hF1⟩ := hp1
    refine xr_iinc C dX0_addPart_21 rfl (by decide) rfl ?_
    refine xr_goto C dX0_addPart_24 rfl ?_
    exact ih (i + 1, M1) ⟨by dsimp only; omega, by rw [mq_part_s, ← List.append_assoc]; exact hB1, hF0.tr hF1⟩ (by dsimp only; omega)
set_option maxHeartbeats 4000000 in
set_option maxRecDepth 100000 in
theorem c_fillFrom (l : Launch) (G : mq_G) (b a n : Nat) (d : List Nat) (M : mq_M) (hB : bI G M b a n d) (b2 a2 n2 : Nat) (d2 : List Nat) (hB2 : bI G M b2 a2 n2 d2) (hx : b2 ≠ b ∧ b2 ≠ a ∧ a2 ≠ b ∧ a2 ≠ a) (hroom : d2.length ≤ n) : mq_T l yX0_fillFrom wsX0_fillFrom { frames := 2, cells := 0, slots := 0, locals := 45 } G [.ref b, .ref b2] M (mq_pv (fun M2 => bI G M2 b a n d2 ∧ mq_F [b, a] M M2)) 0 0 := by
  refine mq_Met.of (cc := cX0_fillFrom) (maxL := 2) (ret := none) (by decide) rfl (Nat.le_of_ble_eq_true rfl) rfl rfl ?_
  intro p e s m args below meth c z C hr hlk hname
  have hn2 : d2.length ≤ 50000 := Nat.le_trans hB2.2.2.1 hB2.2.2.2.1
  refine xr_aload_n C dX0_fillFrom_0 rfl ?_
  refine xr_aload_n C dX0_fillFrom_1 rfl ?_
  refine xr_acmp_eq_n C dX0_fillFrom_2 rfl (Ne.symm hx.1) ?_
  refine xr_aload_n C dX0_fillFrom_5 rfl ?_
  refine xr_callV0v C (c_clear l G b a n d M hB) (cwV 0 C.1.2.2.2.2 gX0_fillFrom_X0_clear rfl rfl rfl (by decide +kernel) ⟨Nat.le_of_ble_eq_true rfl, Nat.le_of_ble_eq_true rfl⟩) hB.1 rfl (Nat.le_of_ble_eq_true rfl) ⟨by dsimp only; omega, by dsimp only; omega⟩ dX0_fillFrom_6 (fun M1 hp1 => ?_)
  obtain ⟨hB1, hF1⟩ := hp1
  have hB3 : bI G M1 b2 a2 n2 d2 := hB2.fr hF1 (by simp [hx]) (by simp [hx])
  refine xr_aload_n C dX0_fillFrom_9 rfl ?_
  refine xr_aload_n C dX0_fillFrom_10 rfl ?_
  refine xr_iconst (n := 0) C dX0_fillFrom_11 (by decide +kernel) ?_
  refine xr_aload_n C dX0_fillFrom_12 rfl ?_
  refine xr_callV0i C (c_size l G b2 a2 n2 d2 M1 hB3) (cwV 0 C.1.2.2.2.2 gX0_fillFrom_X0_size rfl rfl rfl (by decide +kernel) ⟨Nat.le_of_ble_eq_true rfl, Nat.le_of_ble_eq_true rfl⟩) hB3.1 rfl (Nat.le_of_ble_eq_true rfl) ⟨by dsimp only; omega, by dsimp only; omega⟩ dX0_fillFrom_13 (fun r1 M9 hp9 => ?_)
  obtain ⟨rfl, rfl⟩ := hp9
  refine xr_callV3v C (c_addPart l G b a n _ M1 hB1 b2 a2 n2 d2 hB3 hx 0 d2.length (by omega) (by simp; exact hroom)) (cwV 3 C.1.2.2.2.2 gX0_fillFrom_X0_addPart rfl rfl rfl (by decide +kernel) ⟨Nat.le_of_ble_eq_true rfl, Nat.le_of_ble_eq_true rfl⟩) hB1.1 rfl (Nat.le_of_ble_eq_true rfl) ⟨by dsimp only; omega, by dsimp only; omega⟩ dX0_fillFrom_16 (fun M2 hp2 => ?_)
  obtain ⟨hB4, hF2⟩ := hp2
  exact xr_vret C hr hlk ⟨rfl, by rw [mq_part_all] at hB4; simpa using hB4, (hF1.mono (by simp)).tr hF2⟩ (by omega) (by omega) dX0_fillFrom_19
set_option maxHeartbeats 4000000 in
set_option maxRecDepth 100000 in
theorem c_sameAs (l : Launch) (G : mq_G) (b a n : Nat) (d : List Nat) (M : mq_M) (hB : bI G M b a n d) (b2 a2 n2 : Nat) (d2 : List Nat) (hB2 : bI G M b2 a2 n2 d2) : mq_T l yX0_sameAs wsX0_sameAs { frames := 1, cells := 0, slots := 0, locals := 21 } G [.ref b, .ref b2] M (mq_ri M (if d = d2 then 1 else 0)) 0 0 := by
  refine mq_Met.of (cc := cX0_sameAs) (maxL := 3) (ret := (some .boolean)) (by decide) rfl (Nat.le_of_ble_eq_true rfl) rfl rfl ?_
  intro p e s m args below meth c z C hr hlk hname
  have hn1 : d.length ≤ 50000 := Nat.le_trans hB.2.2.1 hB.2.2.2.1
  have hn2 : d2.length ≤ 50000 := Nat.le_trans hB2.2.2.1 hB2.2.2.2.1
  refine xr_aload_n C dX0_sameAs_0 rfl ?_
  refine xr_get C (Cn := RX0) (T := TX0) (N := 2) (by decide +kernel) hB.1 rfl 1 (by decide) (C.1.2.2.2.2 (.fieldLink RX0 13 "OssuaryVault$Bytes" "size" "I") (by decide +kernel)) (fun _ h => h) rfl dX0_sameAs_1 ?_
  refine xr_aload_n C dX0_sameAs_4 rfl ?_
  refine xr_callV0i C (c_size l G b2 a2 n2 d2 M hB2) (cwV 0 C.1.2.2.2.2 gX0_sameAs_X0_size rfl rfl rfl (by decide +kernel) ⟨Nat.le_of_ble_eq_true rfl, Nat.le_of_ble_eq_true rfl⟩) hB2.1 rfl (Nat.le_of_ble_eq_true rfl) ⟨by dsimp only; omega, by dsimp only; omega⟩ dX0_sameAs_5 (fun r1 M9 hp9 => ?_)
  obtain ⟨rfl, rfl⟩ := hp9
  refine xr_icmp_eq C dX0_sameAs_8 rfl (by omega) (by omega) (fun hq2 => ?_) (fun hq2 => ?_)
  · refine xr_iconst (n := 0) C dX0_sameAs_13 (by decide +kernel) ?_
    refine xr_istore_n C dX0_sameAs_14 (by decide) rfl ?_
    refine mq_loop (σ := Nat) (fun x => x ≤ d.length ∧ ∀ j, j < x → d.getD j 0 = d2.getD j 0) (fun x => d.length - x) (fun x => M) (fun x => [some (.ref b), some (.ref b2), some (.int (zI (x : Int)))]) (fun x => []) ?_ 0 ⟨Nat.zero_le _, fun j hj => by omega⟩
    rintro i ⟨hi, hs⟩ ih
    dsimp only at ih ⊢
    refine xr_iload_n C dX0_sameAs_15 rfl ?_
    refine xr_aload_n C dX0_sameAs_16 rfl ?_
    refine xr_get C (Cn := RX0) (T := TX0) (N := 2) (by decide +kernel) hB.1 rfl 1 (by decide) (C.1.2.2.2.2 (.fieldLink RX0 13 "OssuaryVault$Bytes" "size" "I") (by decide +kernel)) (fun _ h => h) rfl dX0_sameAs_17 ?_
    refine xr_icmp_ge C dX0_sameAs_20 rfl (by omega) (by omega) (fun hq3 => ?_) (fun hq3 => ?_)
    · refine xr_iconst (n := 1) C dX0_sameAs_44 (by decide +kernel) ?_
      exact xr_zret C hr (by decide +kernel) hlk ⟨_, rfl, by rw [if_pos (mq_same (by omega) (fun j hj => hs j (by omega)))], rfl⟩ (by omega) (by omega) dX0_sameAs_45
    · refine xr_aload_n C dX0_sameAs_23 rfl ?_
      refine xr_iload_n C dX0_sameAs_24 rfl ?_
      refine xr_callV1i C (c_at l G b a n d M hB (i : Int) (by omega)) (cwV 1 C.1.2.2.2.2 gX0_sameAs_X0_at rfl rfl rfl (by decide +kernel) ⟨Nat.le_of_ble_eq_true rfl, Nat.le_of_ble_eq_true rfl⟩) hB.1 rfl (Nat.le_of_ble_eq_true rfl) ⟨by dsimp only; omega, by dsimp only; omega⟩ dX0_sameAs_25 (fun r4 M9 hp9 => ?_)
      obtain ⟨rfl, rfl⟩ := hp9
      refine xr_aload_n C dX0_sameAs_28 rfl ?_
      refine xr_iload_n C dX0_sameAs_29 rfl ?_
      refine xr_callV1i C (c_at l G b2 a2 n2 d2 M hB2 (i : Int) (by omega)) (cwV 1 C.1.2.2.2.2 gX0_sameAs_X0_at rfl rfl rfl (by decide +kernel) ⟨Nat.le_of_ble_eq_true rfl, Nat.le_of_ble_eq_true rfl⟩) hB2.1 rfl (Nat.le_of_ble_eq_true rfl) ⟨by dsimp only; omega, by dsimp only; omega⟩ dX0_sameAs_30 (fun r5 M9 hp9 => ?_)
      obtain ⟨rfl, rfl⟩ := hp9
      have g1 := mq_gd_lt hB.2.2.2.2.1 (i : Int)
      have g2 := mq_gd_lt hB2.2.2.2.2.1 (i : Int)
      refine xr_icmp_eq C dX0_sameAs_33 rfl (by omega) (by omega) (fun hq6 => ?_) (fun hq6 => ?_)
      · refine xr_iinc C dX0_sameAs_38 rfl (by decide) rfl ?_
        refine xr_goto C dX0_sameAs_41 rfl ?_
        exact ih (i + 1) ⟨by omega, fun j hj => by
          by_cases hji : j = i
          · subst hji
            rw [mq_gd_nat, mq_gd_nat] at hq6
            omega
          · exact hs j (by omega)⟩ (by omega)
      · refine xr_iconst (n := 0) C dX0_sameAs_36 (by decide +kernel) ?_
        exact xr_zret C hr (by decide +kernel) hlk ⟨_, rfl, by rw [if_neg (fun q => by rw [q] at hq6; omega)], rfl⟩ (by omega) (by omega) dX0_sameAs_37
  · refine xr_iconst (n := 0) C dX0_sameAs_11 (by decide +kernel) ?_
    exact xr_zret C hr (by decide +kernel) hlk ⟨_, rfl, by rw [if_neg (fun q => by rw [q] at hq2; omega)], rfl⟩ (by omega) (by omega) dX0_sameAs_12
end
section
set_option maxHeartbeats 4000000 in
set_option maxRecDepth 100000 in
theorem c_Bytes_init (l : Launch) (G : mq_G) (b : Nat) (M : mq_M) (hM : M b = some (.inr (0, [.null, .int 0]))) (n : Nat) (hn : n ≤ 50000) : mq_T l yX0_init wsX0_init { frames := 1, cells := 1, slots := n, locals := 12 } G [.ref b, .int (zI (n : Int))] M (mq_pv (fun M2 => ∃ a : Nat, M a = none ∧ bI G M2 b a n [] ∧ mq_F [b, a] M M2)) 1 n := by
  refine mq_Met.of (cc := cX0_init) (maxL := 2) (ret := none) (by decide) rfl (Nat.le_of_ble_eq_true rfl) rfl rfl ?_
  intro p e s m args below meth c z C hr hlk hname
  refine xr_aload_n C dX0_init_0 rfl ?_
  refine xr_objI C (C.1.2.2.2.2 (.methodLink RX0 1 objectInit) (by decide +kernel)) (C.1.2.2.2.2 (.instanceMethod objectInit) (by decide +kernel)) (C.1.2.2.2.2 (.code objectInit ⟨#[0xb1]⟩ 1 none) (by decide +kernel)) (Nat.le_of_ble_eq_true rfl) (Nat.le_of_ble_eq_true rfl) dX0_init_1 ?_
  refine xr_aload_n C dX0_init_4 rfl ?_
  refine xr_iload_n C dX0_init_5 rfl ?_
  refine xr_if_le C dX0_init_6 rfl (by omega) (fun hq1 => ?_) (fun hq1 => ?_)
  · refine xr_iconst (n := 0) C dX0_init_13 (by decide +kernel) ?_
    refine xr_newI C (C.1.2.2.2.2 (.arrayClass .int) (by decide +kernel)) mq_tI (by omega) (by dsimp only; omega) (by dsimp only; omega) dX0_init_14 (fun q2 hq2 => ?_)
    refine mq_ren (fun M3 hM3 => ?_)
    have hba : b ≠ q2 := fun z => by rw [z, hq2] at hM; cases hM
    have h1 : M3 b = some (.inr (0, [.null, .int 0])) := by rw [hM3, mq_up_n hba]; exact hM
    refine xr_putF C (Cn := RX0) (T := TX0) (N := 2) (by decide +kernel) h1 rfl 0 (by decide) tyX0 tyX0_ok nmX0 (C.1.2.2.2.2 (.fieldLink RX0 7 "OssuaryVault$Bytes" "cells" "[I") (by decide +kernel)) (fun _ h => h) rfl hname rfl (tyX0_ok 0 (by decide)) rfl rfl (Nat.le_of_ble_eq_true rfl) dX0_init_16 ?_
    refine mq_ren (fun M4 hM4 => ?_)
    exact xr_vret C hr hlk ⟨rfl, q2, hq2, ⟨by rw [hM4, mq_up_s]; rfl, hba, Nat.zero_le _, hn, (fun x hx => by cases hx), (fun _ => 0), by rw [hM4, mq_up_n (Ne.symm hba), hM3, mq_up_s]; simp; omega, fun i hi => by cases hi⟩, (mq_F.up hM3 (by simp)).tr (mq_F.up hM4 (by simp))⟩ (by omega) (by omega) dX0_init_19
  · refine xr_iload_n C dX0_init_9 rfl ?_
    refine xr_goto C dX0_init_10 rfl ?_
    refine xr_newI C (C.1.2.2.2.2 (.arrayClass .int) (by decide +kernel)) mq_tI (by omega) (by dsimp only; omega) (by dsimp only; omega) dX0_init_14 (fun q5 hq5 => ?_)
    refine mq_ren (fun M6 hM6 => ?_)
    have hba : b ≠ q5 := fun z => by rw [z, hq5] at hM; cases hM
    have h1 : M6 b = some (.inr (0, [.null, .int 0])) := by rw [hM6, mq_up_n hba]; exact hM
    refine xr_putF C (Cn := RX0) (T := TX0) (N := 2) (by decide +kernel) h1 rfl 0 (by decide) tyX0 tyX0_ok nmX0 (C.1.2.2.2.2 (.fieldLink RX0 7 "OssuaryVault$Bytes" "cells" "[I") (by decide +kernel)) (fun _ h => h) rfl hname rfl (tyX0_ok 0 (by decide)) rfl rfl (Nat.le_of_ble_eq_true rfl) dX0_init_16 ?_
    refine mq_ren (fun M7 hM7 => ?_)
    exact xr_vret C hr hlk ⟨rfl, q5, hq5, ⟨by rw [hM7, mq_up_s]; rfl, hba, Nat.zero_le _, hn, (fun x hx => by cases hx), (fun _ => 0), by rw [hM7, mq_up_n (Ne.symm hba), hM6, mq_up_s]; simp, fun i hi => by cases hi⟩, (mq_F.up hM6 (by simp)).tr (mq_F.up hM7 (by simp))⟩ (by omega) (by omega) dX0_init_19
end
